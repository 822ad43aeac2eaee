/-! ===== Page: chunks ===== -/
abbrev pob (p : Nat) (rd : Int) : qE := oB 2 [.ref (p + 3), .ref (p + 5), .ref (p + 1), vI rd]
section PAGEC
variable {l : Launch} {h : qH} {sz p B c : Nat} {rd : Int} {C : Nat → Int}
set_option maxRecDepth 100000 in
set_option maxHeartbeats 4000000 in
theorem coba_loop {x : Int} (ho : h p = some (pob p rd)) (hr : Row h (p + 5) B c C) (hC : ∀ j, j < c → 0 ≤ C j) (hs : csum C c ≤ 5000) (hx : iR x) (hx2 : 0 < c → x ≤ csum C c) : ∀ (m j : Nat) (q : Int), c - j = m → j ≤ c → q = j → (∀ i, i < j → csum C (i + 1) < x) → qVM l mX2_chunkOfByteAhead 0 0 h sz (fun v h' sz' => v = some (vI (ca C x c)) ∧ h' = h ∧ sz' = sz) 0 0 h sz 4 [some (.ref p), some (vI x), some (vI (csum C j)), some (vI q)] [] := by
  have hle := hr.le
  obtain ⟨hx1, hx3⟩ := hx
  intro m
  induction m with
  | zero =>
    intro j q hm hj hq hi
    obtain rfl : j = c := by omega
    refine qV_iload_n (pc := 4) 3 dX2_chunkOfByteAhead_4 rfl rfl ?_
    refine qV_aload_n (pc := 5) 0 dX2_chunkOfByteAhead_5 rfl rfl ?_
    refine qV_get (pc := 6) kX2 1 (le_b rfl) lk_X2_23 rfl dX2_chunkOfByteAhead_6 (by first | assumption | exact hU_self _ _ _ | (refine (hU_ne (by omega)).trans ?_; first | assumption | exact hU_self _ _ _ | (refine (hU_ne (by omega)).trans ?_; first | assumption | exact hU_self _ _ _ | (refine (hU_ne (by omega)).trans ?_; first | assumption | exact hU_self _ _ _)))) (by exact rfl) ?_
    refine qV_rdV (pc := 9) (c_size hr) nX3_size kX3 lk_X2_65 dX2_chunkOfByteAhead_9 hr.obj ⟨le_b rfl, le_b rfl⟩ ⟨le_b rfl, le_b rfl⟩ rfl (le_b rfl) ?_
    refine qV_icmp_ge (pc := 12) 39 dX2_chunkOfByteAhead_12 (by decide) ⟨by omega, by omega⟩ ⟨by omega, by omega⟩ (fun c12 => ?_) (fun c12 => ?_)
    · refine qV_iconst (pc := 39) dX2_chunkOfByteAhead_39 ?_
      refine qV_iret (pc := 40) dX2_chunkOfByteAhead_40 rfl (le_b rfl) (le_b rfl) ?_
      refine ⟨?_, rfl, rfl⟩
      match j, hi, hx2 with
      | 0, hi, hx2 => rfl
      | c + 1, hi, hx2 => exact absurd (hi c (by omega)) (by have := hx2 (by omega); omega)
    · exfalso; omega
  | succ m ih =>
    intro j q hm hj hq hi
    have s1 := csum_mono hC (a := j + 1) (b := c) (by omega) (Nat.le_refl c)
    have s2 := csum_nn hC (b := j) (by omega)
    have s3 := csum_nn hC (b := j + 1) (by omega)
    have s4 := csum_succ C j
    refine qV_iload_n (pc := 4) 3 dX2_chunkOfByteAhead_4 rfl rfl ?_
    refine qV_aload_n (pc := 5) 0 dX2_chunkOfByteAhead_5 rfl rfl ?_
    refine qV_get (pc := 6) kX2 1 (le_b rfl) lk_X2_23 rfl dX2_chunkOfByteAhead_6 (by first | assumption | exact hU_self _ _ _ | (refine (hU_ne (by omega)).trans ?_; first | assumption | exact hU_self _ _ _ | (refine (hU_ne (by omega)).trans ?_; first | assumption | exact hU_self _ _ _ | (refine (hU_ne (by omega)).trans ?_; first | assumption | exact hU_self _ _ _)))) (by exact rfl) ?_
    refine qV_rdV (pc := 9) (c_size hr) nX3_size kX3 lk_X2_65 dX2_chunkOfByteAhead_9 hr.obj ⟨le_b rfl, le_b rfl⟩ ⟨le_b rfl, le_b rfl⟩ rfl (le_b rfl) ?_
    refine qV_icmp_ge (pc := 12) 39 dX2_chunkOfByteAhead_12 (by decide) ⟨by omega, by omega⟩ ⟨by omega, by omega⟩ (fun c12 => ?_) (fun c12 => ?_)
    · exfalso; omega
    · refine qV_iload_n (pc := 15) 2 dX2_chunkOfByteAhead_15 rfl rfl ?_
      refine qV_aload_n (pc := 16) 0 dX2_chunkOfByteAhead_16 rfl rfl ?_
      refine qV_get (pc := 17) kX2 1 (le_b rfl) lk_X2_23 rfl dX2_chunkOfByteAhead_17 (by first | assumption | exact hU_self _ _ _ | (refine (hU_ne (by omega)).trans ?_; first | assumption | exact hU_self _ _ _ | (refine (hU_ne (by omega)).trans ?_; first | assumption | exact hU_self _ _ _ | (refine (hU_ne (by omega)).trans ?_; first | assumption | exact hU_self _ _ _)))) (by exact rfl) ?_
      refine qV_iload_n (pc := 20) 3 dX2_chunkOfByteAhead_20 rfl rfl ?_
      refine qV_rdV (pc := 21) (c_gt hr hq (by omega)) nX3_get kX3 lk_X2_54 dX2_chunkOfByteAhead_21 hr.obj ⟨le_b rfl, le_b rfl⟩ ⟨le_b rfl, le_b rfl⟩ rfl (le_b rfl) ?_
      refine qV_iadd (pc := 24) dX2_chunkOfByteAhead_24 ?_
      refine qV_istore_n (pc := 25) 2 dX2_chunkOfByteAhead_25 rfl (le_b rfl) (le_b rfl) rfl ?_
      refine qV_iload_n (pc := 26) 1 dX2_chunkOfByteAhead_26 rfl rfl ?_
      refine qV_iload_n (pc := 27) 2 dX2_chunkOfByteAhead_27 rfl rfl ?_
      refine qV_icmp_gt (pc := 28) 33 dX2_chunkOfByteAhead_28 (by decide) ⟨by omega, by omega⟩ ⟨by omega, by omega⟩ (fun c28 => ?_) (fun c28 => ?_)
      · refine qV_iinc (pc := 33) 3 dX2_chunkOfByteAhead_33 rfl (le_b rfl) (le_b rfl) rfl ?_
        refine qV_goto (pc := 36) 4 dX2_chunkOfByteAhead_36 (by decide) ?_
        refine ih (j + 1) _ (by omega) (by omega) (by omega) (fun i hi2 => ?_)
        by_cases e : i = j
        · subst e; omega
        · exact hi i (by omega)
      · refine qV_iload_n (pc := 31) 3 dX2_chunkOfByteAhead_31 rfl rfl ?_
        refine qV_iret (pc := 32) dX2_chunkOfByteAhead_32 rfl (le_b rfl) (le_b rfl) ?_
        refine ⟨?_, rfl, rfl⟩
        rw [hq, ca_of hC ⟨by omega, by omega, hi⟩]
set_option maxRecDepth 100000 in
set_option maxHeartbeats 4000000 in
theorem c_coba {x : Int} (ho : h p = some (pob p rd)) (hr : Row h (p + 5) B c C) (hC : ∀ j, j < c → 0 ≤ C j) (hs : csum C c ≤ 5000) (hx : iR x) (hx2 : 0 < c → x ≤ csum C c) : qRd l mX2_chunkOfByteAhead [.ref p, vI x] h sz (vI (ca C x c)) := by
  refine qC.of 2 (by decide) (le_b rfl) ?_
  refine qV_iconst (pc := 0) dX2_chunkOfByteAhead_0 ?_
  refine qV_istore_n (pc := 1) 2 dX2_chunkOfByteAhead_1 rfl (le_b rfl) (le_b rfl) rfl ?_
  refine qV_iconst (pc := 2) dX2_chunkOfByteAhead_2 ?_
  refine qV_istore_n (pc := 3) 3 dX2_chunkOfByteAhead_3 rfl (le_b rfl) (le_b rfl) rfl ?_
  exact coba_loop ho hr hC hs hx hx2 c 0 _ (by omega) (by omega) rfl (fun i hi => by omega)
set_option maxRecDepth 100000 in
set_option maxHeartbeats 4000000 in
theorem shrink_loop {x k : Int} (hx : 0 ≤ x ∧ x ≤ 5000) (hk : 0 ≤ k ∧ k ≤ 5000) (hC : ∀ j, j < c → 0 ≤ C j) (hs : csum C c ≤ 5000) : ∀ (m j : Nat) (q w : Int) (h1 : qH) (R : Nat → Int) (x6 x7 x8 : Option Value), c - j = m → j ≤ c → q = j → w = shN (stay C x k) j → h1 p = some (pob p rd) → Row h1 (p + 5) B c R → (∀ i, i < shN (stay C x k) j → R i = shF (stay C x k) j i) → (∀ i, j ≤ i → i < c → R i = C i) → Fr h h1 (p + 5) (p + 7) → qVM l mX2_shrinksChunks 0 0 h sz (fun v h' sz' => v = none ∧ Row h' (p + 5) B (shN (stay C x k) c) (shF (stay C x k) c) ∧ Fr h h' (p + 5) (p + 7) ∧ sz' = sz) 0 0 h1 sz 8 [some (.ref p), some (vI x), some (vI k), some (vI (csum C j)), some (vI w), some (vI q), x6, x7, x8] [] := by
  intro m
  induction m with
  | zero =>
    intro j q w h1 R x6 x7 x8 hm hj hq hw ho hr r1 r2 hf
    obtain rfl : j = c := by omega
    have hle := hr.le
    have hsl := shN_le (stay C x k) j
    refine qV_iload (pc := 8) 5 dX2_shrinksChunks_8 rfl ?_
    refine qV_aload_n (pc := 10) 0 dX2_shrinksChunks_10 rfl rfl ?_
    refine qV_get (pc := 11) kX2 1 (le_b rfl) lk_X2_23 rfl dX2_shrinksChunks_11 (by first | assumption | exact hU_self _ _ _ | (refine (hU_ne (by omega)).trans ?_; first | assumption | exact hU_self _ _ _ | (refine (hU_ne (by omega)).trans ?_; first | assumption | exact hU_self _ _ _ | (refine (hU_ne (by omega)).trans ?_; first | assumption | exact hU_self _ _ _)))) (by exact rfl) ?_
    refine qV_rdV (pc := 14) (c_size hr) nX3_size kX3 lk_X2_65 dX2_shrinksChunks_14 hr.obj ⟨le_b rfl, le_b rfl⟩ ⟨le_b rfl, le_b rfl⟩ rfl (le_b rfl) ?_
    refine qV_icmp_ge (pc := 17) 90 dX2_shrinksChunks_17 (by decide) ⟨by omega, by omega⟩ ⟨by omega, by omega⟩ (fun c17 => ?_) (fun c17 => ?_)
    · refine qV_aload_n (pc := 90) 0 dX2_shrinksChunks_90 rfl rfl ?_
      refine qV_get (pc := 91) kX2 1 (le_b rfl) lk_X2_23 rfl dX2_shrinksChunks_91 (by first | assumption | exact hU_self _ _ _ | (refine (hU_ne (by omega)).trans ?_; first | assumption | exact hU_self _ _ _ | (refine (hU_ne (by omega)).trans ?_; first | assumption | exact hU_self _ _ _ | (refine (hU_ne (by omega)).trans ?_; first | assumption | exact hU_self _ _ _)))) (by exact rfl) ?_
      refine qV_iload (pc := 94) 4 dX2_shrinksChunks_94 rfl ?_
      refine qV_voV (pc := 96) (c_shortensTo hr hw hsl) nX3_shortensTo kX3 lk_X2_87 dX2_shrinksChunks_96 hr.obj ⟨le_b rfl, le_b rfl⟩ ⟨le_b rfl, le_b rfl⟩ rfl (le_b rfl) ?_
      rintro h2 _ ⟨hr2, hf2, rfl⟩
      refine qV_vret (pc := 99) dX2_shrinksChunks_99 rfl (le_b rfl) (le_b rfl) ?_
      exact ⟨rfl, hr2.congr r1, hf.trans hf2, rfl⟩
    · exfalso; omega
  | succ m ih =>
    intro j q w h1 R x6 x7 x8 hm hj hq hw ho hr r1 r2 hf
    have hle := hr.le
    have hsl := shN_le (stay C x k) j
    have s1 := csum_mono hC (a := j + 1) (b := c) (by omega) (Nat.le_refl c)
    have s2 := csum_nn hC (b := j) (by omega)
    have s4 := csum_succ C j
    have s5 := hC j (by omega)
    have s6 : R j = C j := r2 j (Nat.le_refl j) (by omega)
    have s7 := stay_in (p := x) (k := k) s5
    have e0 : C j - max (min (csum C j + C j) (x + k) - max (csum C j) x) 0 = stay C x k j := rfl
    refine qV_iload (pc := 8) 5 dX2_shrinksChunks_8 rfl ?_
    refine qV_aload_n (pc := 10) 0 dX2_shrinksChunks_10 rfl rfl ?_
    refine qV_get (pc := 11) kX2 1 (le_b rfl) lk_X2_23 rfl dX2_shrinksChunks_11 (by first | assumption | exact hU_self _ _ _ | (refine (hU_ne (by omega)).trans ?_; first | assumption | exact hU_self _ _ _ | (refine (hU_ne (by omega)).trans ?_; first | assumption | exact hU_self _ _ _ | (refine (hU_ne (by omega)).trans ?_; first | assumption | exact hU_self _ _ _)))) (by exact rfl) ?_
    refine qV_rdV (pc := 14) (c_size hr) nX3_size kX3 lk_X2_65 dX2_shrinksChunks_14 hr.obj ⟨le_b rfl, le_b rfl⟩ ⟨le_b rfl, le_b rfl⟩ rfl (le_b rfl) ?_
    refine qV_icmp_ge (pc := 17) 90 dX2_shrinksChunks_17 (by decide) ⟨by omega, by omega⟩ ⟨by omega, by omega⟩ (fun c17 => ?_) (fun c17 => ?_)
    · exfalso; omega
    · refine qV_aload_n (pc := 20) 0 dX2_shrinksChunks_20 rfl rfl ?_
      refine qV_get (pc := 21) kX2 1 (le_b rfl) lk_X2_23 rfl dX2_shrinksChunks_21 (by first | assumption | exact hU_self _ _ _ | (refine (hU_ne (by omega)).trans ?_; first | assumption | exact hU_self _ _ _ | (refine (hU_ne (by omega)).trans ?_; first | assumption | exact hU_self _ _ _ | (refine (hU_ne (by omega)).trans ?_; first | assumption | exact hU_self _ _ _)))) (by exact rfl) ?_
      refine qV_iload (pc := 24) 5 dX2_shrinksChunks_24 rfl ?_
      refine qV_rdV (pc := 26) (c_gt hr hq (by omega)) nX3_get kX3 lk_X2_54 dX2_shrinksChunks_26 hr.obj ⟨le_b rfl, le_b rfl⟩ ⟨le_b rfl, le_b rfl⟩ rfl (le_b rfl) ?_
      rw [s6]
      refine qV_istore (pc := 29) 6 dX2_shrinksChunks_29 (le_b rfl) (le_b rfl) rfl ?_
      refine qV_iload_n (pc := 31) 3 dX2_shrinksChunks_31 rfl rfl ?_
      refine qV_iload (pc := 32) 6 dX2_shrinksChunks_32 rfl ?_
      refine qV_iadd (pc := 34) dX2_shrinksChunks_34 ?_
      refine qV_iload_n (pc := 35) 1 dX2_shrinksChunks_35 rfl rfl ?_
      refine qV_iload_n (pc := 36) 2 dX2_shrinksChunks_36 rfl rfl ?_
      refine qV_iadd (pc := 37) dX2_shrinksChunks_37 ?_
      refine qV_min (pc := 38) lk_X2_84 dX2_shrinksChunks_38 ⟨by omega, by omega⟩ ⟨by omega, by omega⟩ (le_b rfl) ⟨le_b rfl, le_b rfl⟩ (le_b rfl) ?_
      refine qV_iload_n (pc := 41) 3 dX2_shrinksChunks_41 rfl rfl ?_
      refine qV_iload_n (pc := 42) 1 dX2_shrinksChunks_42 rfl rfl ?_
      refine qV_max (pc := 43) lk_X2_78 dX2_shrinksChunks_43 ⟨by omega, by omega⟩ ⟨by omega, by omega⟩ (le_b rfl) ⟨le_b rfl, le_b rfl⟩ (le_b rfl) ?_
      refine qV_isub (pc := 46) dX2_shrinksChunks_46 ?_
      refine qV_istore (pc := 47) 7 dX2_shrinksChunks_47 (le_b rfl) (le_b rfl) rfl ?_
      refine qV_iload (pc := 49) 6 dX2_shrinksChunks_49 rfl ?_
      refine qV_iload (pc := 51) 7 dX2_shrinksChunks_51 rfl ?_
      refine qV_iconst (pc := 53) dX2_shrinksChunks_53 ?_
      refine qV_max (pc := 54) lk_X2_78 dX2_shrinksChunks_54 ⟨by omega, by omega⟩ ⟨by omega, by omega⟩ (le_b rfl) ⟨le_b rfl, le_b rfl⟩ (le_b rfl) ?_
      refine qV_isub (pc := 57) dX2_shrinksChunks_57 ?_
      rw [e0]
      refine qV_istore (pc := 58) 8 dX2_shrinksChunks_58 (le_b rfl) (le_b rfl) rfl ?_
      refine qV_iload (pc := 60) 8 dX2_shrinksChunks_60 rfl ?_
      refine qV_ifle (pc := 62) 79 dX2_shrinksChunks_62 (by decide) ⟨by omega, by omega⟩ (fun c62 => ?_) (fun c62 => ?_)
      · refine qV_iload_n (pc := 79) 3 dX2_shrinksChunks_79 rfl rfl ?_
        refine qV_iload (pc := 80) 6 dX2_shrinksChunks_80 rfl ?_
        refine qV_iadd (pc := 82) dX2_shrinksChunks_82 ?_
        refine qV_istore_n (pc := 83) 3 dX2_shrinksChunks_83 rfl (le_b rfl) (le_b rfl) rfl ?_
        refine qV_iinc (pc := 84) 5 dX2_shrinksChunks_84 rfl (le_b rfl) (le_b rfl) rfl ?_
        refine qV_goto (pc := 87) 8 dX2_shrinksChunks_87 (by decide) ?_
        first
        | (refine ih (j + 1) _ _ h2 _ _ _ _ (by omega) (by omega) (by omega) (by simp only [shN]; rw [if_pos (by omega)]; omega) ho2 hr2 (fun i hi => ?_) (fun i hi hic => ?_) (hf.trans hf2)
           · simp only [shN] at hi
             rw [if_pos (by omega)] at hi
             simp only [shF]
             rw [if_pos (by omega)]
             by_cases e : i = shN (stay C x k) j
             · subst e; rw [va_up_self, va_up_self]
             · rw [va_up_ne _ _ e, va_up_ne _ _ e]; exact r1 i (by omega)
           · rw [va_up_ne _ _ (by omega)]
             exact r2 i (by omega) hic)
        | (refine ih (j + 1) _ _ h1 _ _ _ _ (by omega) (by omega) (by omega) (by simp only [shN]; rw [if_neg (by omega)]; omega) ho hr (fun i hi => ?_) (fun i hi hic => r2 i (by omega) hic) hf
           simp only [shN] at hi
           rw [if_neg (by omega)] at hi
           simp only [shF]
           rw [if_neg (by omega)]
           exact r1 i hi)
      · refine qV_aload_n (pc := 65) 0 dX2_shrinksChunks_65 rfl rfl ?_
        refine qV_get (pc := 66) kX2 1 (le_b rfl) lk_X2_23 rfl dX2_shrinksChunks_66 (by first | assumption | exact hU_self _ _ _ | (refine (hU_ne (by omega)).trans ?_; first | assumption | exact hU_self _ _ _ | (refine (hU_ne (by omega)).trans ?_; first | assumption | exact hU_self _ _ _ | (refine (hU_ne (by omega)).trans ?_; first | assumption | exact hU_self _ _ _)))) (by exact rfl) ?_
        refine qV_iload (pc := 69) 4 dX2_shrinksChunks_69 rfl ?_
        refine qV_iload (pc := 71) 8 dX2_shrinksChunks_71 rfl ?_
        refine qV_voV (pc := 73) (c_set hr hw (by omega)) nX3_set kX3 lk_X2_62 dX2_shrinksChunks_73 hr.obj ⟨le_b rfl, le_b rfl⟩ ⟨le_b rfl, le_b rfl⟩ rfl (le_b rfl) ?_
        rintro h2 _ ⟨hr2, hf2, rfl⟩
        have ho2 : h2 p = some (pob p rd) := (hf2 p (by omega)).trans ho
        refine qV_iinc (pc := 76) 4 dX2_shrinksChunks_76 rfl (le_b rfl) (le_b rfl) rfl ?_
        refine qV_iload_n (pc := 79) 3 dX2_shrinksChunks_79 rfl rfl ?_
        refine qV_iload (pc := 80) 6 dX2_shrinksChunks_80 rfl ?_
        refine qV_iadd (pc := 82) dX2_shrinksChunks_82 ?_
        refine qV_istore_n (pc := 83) 3 dX2_shrinksChunks_83 rfl (le_b rfl) (le_b rfl) rfl ?_
        refine qV_iinc (pc := 84) 5 dX2_shrinksChunks_84 rfl (le_b rfl) (le_b rfl) rfl ?_
        refine qV_goto (pc := 87) 8 dX2_shrinksChunks_87 (by decide) ?_
        first
        | (refine ih (j + 1) _ _ h2 _ _ _ _ (by omega) (by omega) (by omega) (by simp only [shN]; rw [if_pos (by omega)]; omega) ho2 hr2 (fun i hi => ?_) (fun i hi hic => ?_) (hf.trans hf2)
           · simp only [shN] at hi
             rw [if_pos (by omega)] at hi
             simp only [shF]
             rw [if_pos (by omega)]
             by_cases e : i = shN (stay C x k) j
             · subst e; rw [va_up_self, va_up_self]
             · rw [va_up_ne _ _ e, va_up_ne _ _ e]; exact r1 i (by omega)
           · rw [va_up_ne _ _ (by omega)]
             exact r2 i (by omega) hic)
        | (refine ih (j + 1) _ _ h1 _ _ _ _ (by omega) (by omega) (by omega) (by simp only [shN]; rw [if_neg (by omega)]; omega) ho hr (fun i hi => ?_) (fun i hi hic => r2 i (by omega) hic) hf
           simp only [shN] at hi
           rw [if_neg (by omega)] at hi
           simp only [shF]
           rw [if_neg (by omega)]
           exact r1 i hi)
set_option maxRecDepth 100000 in
set_option maxHeartbeats 4000000 in
theorem c_shrink {x k : Int} (ho : h p = some (pob p rd)) (hr : Row h (p + 5) B c C) (hx : 0 ≤ x ∧ x ≤ 5000) (hk : 0 ≤ k ∧ k ≤ 5000) (hC : ∀ j, j < c → 0 ≤ C j) (hs : csum C c ≤ 5000) : qVo l mX2_shrinksChunks 0 0 [.ref p, vI x, vI k] h sz (fun h' sz' => Row h' (p + 5) B (shN (stay C x k) c) (shF (stay C x k) c) ∧ Fr h h' (p + 5) (p + 7) ∧ sz' = sz) := by
  refine qC.of 6 (by decide) (le_b rfl) ?_
  refine qV_iconst (pc := 0) dX2_shrinksChunks_0 ?_
  refine qV_istore_n (pc := 1) 3 dX2_shrinksChunks_1 rfl (le_b rfl) (le_b rfl) rfl ?_
  refine qV_iconst (pc := 2) dX2_shrinksChunks_2 ?_
  refine qV_istore (pc := 3) 4 dX2_shrinksChunks_3 (le_b rfl) (le_b rfl) rfl ?_
  refine qV_iconst (pc := 5) dX2_shrinksChunks_5 ?_
  refine qV_istore (pc := 6) 5 dX2_shrinksChunks_6 (le_b rfl) (le_b rfl) rfl ?_
  exact shrink_loop hx hk hC hs c 0 _ _ h C _ _ _ (by omega) (by omega) rfl rfl ho hr (fun i hi => by simp [shN] at hi) (fun _ _ _ => rfl) Fr.rf
set_option maxRecDepth 100000 in
set_option maxHeartbeats 4000000 in
theorem c_join {x : Int} (ho : h p = some (pob p rd)) (hr : Row h (p + 5) B c C) (hC : ∀ j, j < c → 0 ≤ C j) (hs : csum C c ≤ 5000) (hx : 0 ≤ x ∧ x ≤ 5000) (hx2 : 0 < c → x ≤ csum C c) : qVo l mX2_joinsChunks 0 0 [.ref p, vI x] h sz (fun h' sz' => Row h' (p + 5) B (jnN C c (ca C x c)) (jnF C c (ca C x c)) ∧ Fr h h' (p + 5) (p + 7) ∧ sz' = sz) := by
  have hle := hr.le
  have hle8 : ∀ j, j < c → C j ≤ 5000 := fun j hj => by
    have := csum_mono hC (a := j + 1) (b := c) (by omega) (Nat.le_refl c)
    have := csum_nn hC (b := j) (by omega)
    have := csum_succ C j
    omega
  by_cases h0 : c = 0
  · subst h0
    have hca : ca C x 0 = 0 := rfl
    have hjn : jnN C 0 0 = 0 := rfl
    have hjf : jnF C 0 0 = C := rfl
    rw [hca, hjn, hjf]
    refine qC.of 2 (by decide) (le_b rfl) ?_
    refine qV_aload_n (pc := 0) 0 dX2_joinsChunks_0 rfl rfl ?_
    refine qV_iload_n (pc := 1) 1 dX2_joinsChunks_1 rfl rfl ?_
    refine qV_rdV (pc := 2) (c_coba ho hr hC hs ⟨by omega, by omega⟩ hx2) nX2_chunkOfByteAhead kX2 lk_X2_90 dX2_joinsChunks_2 (by first | assumption | exact hU_self _ _ _ | (refine (hU_ne (by omega)).trans ?_; first | assumption | exact hU_self _ _ _ | (refine (hU_ne (by omega)).trans ?_; first | assumption | exact hU_self _ _ _ | (refine (hU_ne (by omega)).trans ?_; first | assumption | exact hU_self _ _ _)))) ⟨le_b rfl, le_b rfl⟩ ⟨le_b rfl, le_b rfl⟩ rfl (le_b rfl) ?_
    rw [hca]
    refine qV_istore_n (pc := 5) 2 dX2_joinsChunks_5 rfl (le_b rfl) (le_b rfl) rfl ?_
    refine qV_aload_n (pc := 6) 0 dX2_joinsChunks_6 rfl rfl ?_
    refine qV_get (pc := 7) kX2 1 (le_b rfl) lk_X2_23 rfl dX2_joinsChunks_7 (by first | assumption | exact hU_self _ _ _ | (refine (hU_ne (by omega)).trans ?_; first | assumption | exact hU_self _ _ _ | (refine (hU_ne (by omega)).trans ?_; first | assumption | exact hU_self _ _ _ | (refine (hU_ne (by omega)).trans ?_; first | assumption | exact hU_self _ _ _)))) (by exact rfl) ?_
    refine qV_iload_n (pc := 10) 2 dX2_joinsChunks_10 rfl rfl ?_
    refine qV_rdV (pc := 11) (c_gt0 hr (Or.inr (by omega)) ⟨by omega, by omega⟩) nX3_get kX3 lk_X2_54 dX2_joinsChunks_11 hr.obj ⟨le_b rfl, le_b rfl⟩ ⟨le_b rfl, le_b rfl⟩ rfl (le_b rfl) ?_
    refine qV_aload_n (pc := 14) 0 dX2_joinsChunks_14 rfl rfl ?_
    refine qV_get (pc := 15) kX2 1 (le_b rfl) lk_X2_23 rfl dX2_joinsChunks_15 (by first | assumption | exact hU_self _ _ _ | (refine (hU_ne (by omega)).trans ?_; first | assumption | exact hU_self _ _ _ | (refine (hU_ne (by omega)).trans ?_; first | assumption | exact hU_self _ _ _ | (refine (hU_ne (by omega)).trans ?_; first | assumption | exact hU_self _ _ _)))) (by exact rfl) ?_
    refine qV_iload_n (pc := 18) 2 dX2_joinsChunks_18 rfl rfl ?_
    refine qV_iconst (pc := 19) dX2_joinsChunks_19 ?_
    refine qV_iadd (pc := 20) dX2_joinsChunks_20 ?_
    refine qV_rdV (pc := 21) (c_gt0 hr (Or.inr (by omega)) ⟨by omega, by omega⟩) nX3_get kX3 lk_X2_54 dX2_joinsChunks_21 hr.obj ⟨le_b rfl, le_b rfl⟩ ⟨le_b rfl, le_b rfl⟩ rfl (le_b rfl) ?_
    refine qV_iadd (pc := 24) dX2_joinsChunks_24 ?_
    refine qV_istore_n (pc := 25) 3 dX2_joinsChunks_25 rfl (le_b rfl) (le_b rfl) rfl ?_
    refine qV_iload_n (pc := 26) 2 dX2_joinsChunks_26 rfl rfl ?_
    refine qV_iconst (pc := 27) dX2_joinsChunks_27 ?_
    refine qV_iadd (pc := 28) dX2_joinsChunks_28 ?_
    refine qV_aload_n (pc := 29) 0 dX2_joinsChunks_29 rfl rfl ?_
    refine qV_get (pc := 30) kX2 1 (le_b rfl) lk_X2_23 rfl dX2_joinsChunks_30 (by first | assumption | exact hU_self _ _ _ | (refine (hU_ne (by omega)).trans ?_; first | assumption | exact hU_self _ _ _ | (refine (hU_ne (by omega)).trans ?_; first | assumption | exact hU_self _ _ _ | (refine (hU_ne (by omega)).trans ?_; first | assumption | exact hU_self _ _ _)))) (by exact rfl) ?_
    refine qV_rdV (pc := 33) (c_size hr) nX3_size kX3 lk_X2_65 dX2_joinsChunks_33 hr.obj ⟨le_b rfl, le_b rfl⟩ ⟨le_b rfl, le_b rfl⟩ rfl (le_b rfl) ?_
    refine qV_icmp_ge (pc := 36) 65 dX2_joinsChunks_36 (by decide) ⟨by omega, by omega⟩ ⟨by omega, by omega⟩ (fun c36 => ?_) (fun c36 => ?_)
    · refine qV_vret (pc := 65) dX2_joinsChunks_65 rfl (le_b rfl) (le_b rfl) ?_
      exact ⟨rfl, hr, Fr.rf, rfl⟩
    · exfalso; omega
  · have hk := ca_ex hC (by omega) (hx2 (by omega))
    generalize hkk : ca C x c = k at hk ⊢
    have hk1 := hk.1
    have b1 := hC k hk1
    have b2 := hle8 k hk1
    by_cases h1 : k + 1 < c
    · have b3 := hC (k + 1) h1
      have b4 := hle8 (k + 1) h1
      by_cases h8 : C k + C (k + 1) ≤ 8
      · have hjn : jnN C c k = c - 1 := by simp only [jnN]; rw [if_pos ⟨h1, h8⟩]
        have hjf : jnF C c k = (fun j => if j < k then C j else if j = k then C k + C (k + 1) else C (j + 1)) := by simp only [jnF]; rw [if_pos ⟨h1, h8⟩]
        rw [hjn, hjf]
        refine qC.of 2 (by decide) (le_b rfl) ?_
        refine qV_aload_n (pc := 0) 0 dX2_joinsChunks_0 rfl rfl ?_
        refine qV_iload_n (pc := 1) 1 dX2_joinsChunks_1 rfl rfl ?_
        refine qV_rdV (pc := 2) (c_coba ho hr hC hs ⟨by omega, by omega⟩ hx2) nX2_chunkOfByteAhead kX2 lk_X2_90 dX2_joinsChunks_2 (by first | assumption | exact hU_self _ _ _ | (refine (hU_ne (by omega)).trans ?_; first | assumption | exact hU_self _ _ _ | (refine (hU_ne (by omega)).trans ?_; first | assumption | exact hU_self _ _ _ | (refine (hU_ne (by omega)).trans ?_; first | assumption | exact hU_self _ _ _)))) ⟨le_b rfl, le_b rfl⟩ ⟨le_b rfl, le_b rfl⟩ rfl (le_b rfl) ?_
        rw [hkk]
        refine qV_istore_n (pc := 5) 2 dX2_joinsChunks_5 rfl (le_b rfl) (le_b rfl) rfl ?_
        refine qV_aload_n (pc := 6) 0 dX2_joinsChunks_6 rfl rfl ?_
        refine qV_get (pc := 7) kX2 1 (le_b rfl) lk_X2_23 rfl dX2_joinsChunks_7 (by first | assumption | exact hU_self _ _ _ | (refine (hU_ne (by omega)).trans ?_; first | assumption | exact hU_self _ _ _ | (refine (hU_ne (by omega)).trans ?_; first | assumption | exact hU_self _ _ _ | (refine (hU_ne (by omega)).trans ?_; first | assumption | exact hU_self _ _ _)))) (by exact rfl) ?_
        refine qV_iload_n (pc := 10) 2 dX2_joinsChunks_10 rfl rfl ?_
        refine qV_rdV (pc := 11) (c_gt hr rfl hk1) nX3_get kX3 lk_X2_54 dX2_joinsChunks_11 hr.obj ⟨le_b rfl, le_b rfl⟩ ⟨le_b rfl, le_b rfl⟩ rfl (le_b rfl) ?_
        refine qV_aload_n (pc := 14) 0 dX2_joinsChunks_14 rfl rfl ?_
        refine qV_get (pc := 15) kX2 1 (le_b rfl) lk_X2_23 rfl dX2_joinsChunks_15 (by first | assumption | exact hU_self _ _ _ | (refine (hU_ne (by omega)).trans ?_; first | assumption | exact hU_self _ _ _ | (refine (hU_ne (by omega)).trans ?_; first | assumption | exact hU_self _ _ _ | (refine (hU_ne (by omega)).trans ?_; first | assumption | exact hU_self _ _ _)))) (by exact rfl) ?_
        refine qV_iload_n (pc := 18) 2 dX2_joinsChunks_18 rfl rfl ?_
        refine qV_iconst (pc := 19) dX2_joinsChunks_19 ?_
        refine qV_iadd (pc := 20) dX2_joinsChunks_20 ?_
        refine qV_rdV (pc := 21) (c_gt hr (i := k + 1) (by omega) h1) nX3_get kX3 lk_X2_54 dX2_joinsChunks_21 hr.obj ⟨le_b rfl, le_b rfl⟩ ⟨le_b rfl, le_b rfl⟩ rfl (le_b rfl) ?_
        refine qV_iadd (pc := 24) dX2_joinsChunks_24 ?_
        refine qV_istore_n (pc := 25) 3 dX2_joinsChunks_25 rfl (le_b rfl) (le_b rfl) rfl ?_
        refine qV_iload_n (pc := 26) 2 dX2_joinsChunks_26 rfl rfl ?_
        refine qV_iconst (pc := 27) dX2_joinsChunks_27 ?_
        refine qV_iadd (pc := 28) dX2_joinsChunks_28 ?_
        refine qV_aload_n (pc := 29) 0 dX2_joinsChunks_29 rfl rfl ?_
        refine qV_get (pc := 30) kX2 1 (le_b rfl) lk_X2_23 rfl dX2_joinsChunks_30 (by first | assumption | exact hU_self _ _ _ | (refine (hU_ne (by omega)).trans ?_; first | assumption | exact hU_self _ _ _ | (refine (hU_ne (by omega)).trans ?_; first | assumption | exact hU_self _ _ _ | (refine (hU_ne (by omega)).trans ?_; first | assumption | exact hU_self _ _ _)))) (by exact rfl) ?_
        refine qV_rdV (pc := 33) (c_size hr) nX3_size kX3 lk_X2_65 dX2_joinsChunks_33 hr.obj ⟨le_b rfl, le_b rfl⟩ ⟨le_b rfl, le_b rfl⟩ rfl (le_b rfl) ?_
        refine qV_icmp_ge (pc := 36) 65 dX2_joinsChunks_36 (by decide) ⟨by omega, by omega⟩ ⟨by omega, by omega⟩ (fun c36 => ?_) (fun c36 => ?_)
        · exfalso; omega
        · refine qV_iload_n (pc := 39) 3 dX2_joinsChunks_39 rfl rfl ?_
          refine qV_bipush (pc := 40) dX2_joinsChunks_40 rfl ?_
          refine qV_icmp_gt (pc := 42) 65 dX2_joinsChunks_42 (by decide) ⟨by omega, by omega⟩ ⟨by omega, by omega⟩ (fun c42 => ?_) (fun c42 => ?_)
          · exfalso; omega
          · refine qV_aload_n (pc := 45) 0 dX2_joinsChunks_45 rfl rfl ?_
            refine qV_get (pc := 46) kX2 1 (le_b rfl) lk_X2_23 rfl dX2_joinsChunks_46 (by first | assumption | exact hU_self _ _ _ | (refine (hU_ne (by omega)).trans ?_; first | assumption | exact hU_self _ _ _ | (refine (hU_ne (by omega)).trans ?_; first | assumption | exact hU_self _ _ _ | (refine (hU_ne (by omega)).trans ?_; first | assumption | exact hU_self _ _ _)))) (by exact rfl) ?_
            refine qV_iload_n (pc := 49) 2 dX2_joinsChunks_49 rfl rfl ?_
            refine qV_iload_n (pc := 50) 3 dX2_joinsChunks_50 rfl rfl ?_
            refine qV_voV (pc := 51) (c_set hr rfl hk1) nX3_set kX3 lk_X2_62 dX2_joinsChunks_51 hr.obj ⟨le_b rfl, le_b rfl⟩ ⟨le_b rfl, le_b rfl⟩ rfl (le_b rfl) ?_
            rintro h2 _ ⟨hr2, hf2, rfl⟩
            have ho2 : h2 p = some (pob p rd) := (hf2 p (by omega)).trans ho
            refine qV_aload_n (pc := 54) 0 dX2_joinsChunks_54 rfl rfl ?_
            refine qV_get (pc := 55) kX2 1 (le_b rfl) lk_X2_23 rfl dX2_joinsChunks_55 (by first | assumption | exact hU_self _ _ _ | (refine (hU_ne (by omega)).trans ?_; first | assumption | exact hU_self _ _ _ | (refine (hU_ne (by omega)).trans ?_; first | assumption | exact hU_self _ _ _ | (refine (hU_ne (by omega)).trans ?_; first | assumption | exact hU_self _ _ _)))) (by exact rfl) ?_
            refine qV_iload_n (pc := 58) 2 dX2_joinsChunks_58 rfl rfl ?_
            refine qV_iconst (pc := 59) dX2_joinsChunks_59 ?_
            refine qV_iadd (pc := 60) dX2_joinsChunks_60 ?_
            refine qV_iconst (pc := 61) dX2_joinsChunks_61 ?_
            refine qV_voV (pc := 62) (c_closes (i := k + 1) (k := 1) hr2 (by omega) (by omega) (by omega)) nX3_closes kX3 lk_X2_45 dX2_joinsChunks_62 hr2.obj ⟨le_b rfl, le_b rfl⟩ ⟨le_b rfl, le_b rfl⟩ rfl (le_b rfl) ?_
            rintro h3 _ ⟨hr3, hf3, rfl⟩
            refine qV_vret (pc := 65) dX2_joinsChunks_65 rfl (le_b rfl) (le_b rfl) ?_
            refine ⟨rfl, hr3.congr (fun j hj => ?_), hf2.trans hf3, rfl⟩
            by_cases e1 : j < k
            · rw [if_pos (by omega), if_pos e1, va_up_ne _ _ (by omega)]
            · rw [if_neg e1]
              by_cases e2 : j = k
              · subst e2; rw [if_pos (by omega), if_pos rfl, va_up_self]
              · rw [if_neg (by omega), if_neg e2, va_up_ne _ _ (by omega)]
      · have hjn : jnN C c k = c := by simp only [jnN]; rw [if_neg (fun q => h8 q.2)]
        have hjf : jnF C c k = C := by simp only [jnF]; rw [if_neg (fun q => h8 q.2)]
        rw [hjn, hjf]
        refine qC.of 2 (by decide) (le_b rfl) ?_
        refine qV_aload_n (pc := 0) 0 dX2_joinsChunks_0 rfl rfl ?_
        refine qV_iload_n (pc := 1) 1 dX2_joinsChunks_1 rfl rfl ?_
        refine qV_rdV (pc := 2) (c_coba ho hr hC hs ⟨by omega, by omega⟩ hx2) nX2_chunkOfByteAhead kX2 lk_X2_90 dX2_joinsChunks_2 (by first | assumption | exact hU_self _ _ _ | (refine (hU_ne (by omega)).trans ?_; first | assumption | exact hU_self _ _ _ | (refine (hU_ne (by omega)).trans ?_; first | assumption | exact hU_self _ _ _ | (refine (hU_ne (by omega)).trans ?_; first | assumption | exact hU_self _ _ _)))) ⟨le_b rfl, le_b rfl⟩ ⟨le_b rfl, le_b rfl⟩ rfl (le_b rfl) ?_
        rw [hkk]
        refine qV_istore_n (pc := 5) 2 dX2_joinsChunks_5 rfl (le_b rfl) (le_b rfl) rfl ?_
        refine qV_aload_n (pc := 6) 0 dX2_joinsChunks_6 rfl rfl ?_
        refine qV_get (pc := 7) kX2 1 (le_b rfl) lk_X2_23 rfl dX2_joinsChunks_7 (by first | assumption | exact hU_self _ _ _ | (refine (hU_ne (by omega)).trans ?_; first | assumption | exact hU_self _ _ _ | (refine (hU_ne (by omega)).trans ?_; first | assumption | exact hU_self _ _ _ | (refine (hU_ne (by omega)).trans ?_; first | assumption | exact hU_self _ _ _)))) (by exact rfl) ?_
        refine qV_iload_n (pc := 10) 2 dX2_joinsChunks_10 rfl rfl ?_
        refine qV_rdV (pc := 11) (c_gt hr rfl hk1) nX3_get kX3 lk_X2_54 dX2_joinsChunks_11 hr.obj ⟨le_b rfl, le_b rfl⟩ ⟨le_b rfl, le_b rfl⟩ rfl (le_b rfl) ?_
        refine qV_aload_n (pc := 14) 0 dX2_joinsChunks_14 rfl rfl ?_
        refine qV_get (pc := 15) kX2 1 (le_b rfl) lk_X2_23 rfl dX2_joinsChunks_15 (by first | assumption | exact hU_self _ _ _ | (refine (hU_ne (by omega)).trans ?_; first | assumption | exact hU_self _ _ _ | (refine (hU_ne (by omega)).trans ?_; first | assumption | exact hU_self _ _ _ | (refine (hU_ne (by omega)).trans ?_; first | assumption | exact hU_self _ _ _)))) (by exact rfl) ?_
        refine qV_iload_n (pc := 18) 2 dX2_joinsChunks_18 rfl rfl ?_
        refine qV_iconst (pc := 19) dX2_joinsChunks_19 ?_
        refine qV_iadd (pc := 20) dX2_joinsChunks_20 ?_
        refine qV_rdV (pc := 21) (c_gt hr (i := k + 1) (by omega) h1) nX3_get kX3 lk_X2_54 dX2_joinsChunks_21 hr.obj ⟨le_b rfl, le_b rfl⟩ ⟨le_b rfl, le_b rfl⟩ rfl (le_b rfl) ?_
        refine qV_iadd (pc := 24) dX2_joinsChunks_24 ?_
        refine qV_istore_n (pc := 25) 3 dX2_joinsChunks_25 rfl (le_b rfl) (le_b rfl) rfl ?_
        refine qV_iload_n (pc := 26) 2 dX2_joinsChunks_26 rfl rfl ?_
        refine qV_iconst (pc := 27) dX2_joinsChunks_27 ?_
        refine qV_iadd (pc := 28) dX2_joinsChunks_28 ?_
        refine qV_aload_n (pc := 29) 0 dX2_joinsChunks_29 rfl rfl ?_
        refine qV_get (pc := 30) kX2 1 (le_b rfl) lk_X2_23 rfl dX2_joinsChunks_30 (by first | assumption | exact hU_self _ _ _ | (refine (hU_ne (by omega)).trans ?_; first | assumption | exact hU_self _ _ _ | (refine (hU_ne (by omega)).trans ?_; first | assumption | exact hU_self _ _ _ | (refine (hU_ne (by omega)).trans ?_; first | assumption | exact hU_self _ _ _)))) (by exact rfl) ?_
        refine qV_rdV (pc := 33) (c_size hr) nX3_size kX3 lk_X2_65 dX2_joinsChunks_33 hr.obj ⟨le_b rfl, le_b rfl⟩ ⟨le_b rfl, le_b rfl⟩ rfl (le_b rfl) ?_
        refine qV_icmp_ge (pc := 36) 65 dX2_joinsChunks_36 (by decide) ⟨by omega, by omega⟩ ⟨by omega, by omega⟩ (fun c36 => ?_) (fun c36 => ?_)
        · exfalso; omega
        · refine qV_iload_n (pc := 39) 3 dX2_joinsChunks_39 rfl rfl ?_
          refine qV_bipush (pc := 40) dX2_joinsChunks_40 rfl ?_
          refine qV_icmp_gt (pc := 42) 65 dX2_joinsChunks_42 (by decide) ⟨by omega, by omega⟩ ⟨by omega, by omega⟩ (fun c42 => ?_) (fun c42 => ?_)
          · refine qV_vret (pc := 65) dX2_joinsChunks_65 rfl (le_b rfl) (le_b rfl) ?_
            exact ⟨rfl, hr, Fr.rf, rfl⟩
          · exfalso; omega
    · have hjn : jnN C c k = c := by simp only [jnN]; rw [if_neg (fun q => h1 q.1)]
      have hjf : jnF C c k = C := by simp only [jnF]; rw [if_neg (fun q => h1 q.1)]
      rw [hjn, hjf]
      refine qC.of 2 (by decide) (le_b rfl) ?_
      refine qV_aload_n (pc := 0) 0 dX2_joinsChunks_0 rfl rfl ?_
      refine qV_iload_n (pc := 1) 1 dX2_joinsChunks_1 rfl rfl ?_
      refine qV_rdV (pc := 2) (c_coba ho hr hC hs ⟨by omega, by omega⟩ hx2) nX2_chunkOfByteAhead kX2 lk_X2_90 dX2_joinsChunks_2 (by first | assumption | exact hU_self _ _ _ | (refine (hU_ne (by omega)).trans ?_; first | assumption | exact hU_self _ _ _ | (refine (hU_ne (by omega)).trans ?_; first | assumption | exact hU_self _ _ _ | (refine (hU_ne (by omega)).trans ?_; first | assumption | exact hU_self _ _ _)))) ⟨le_b rfl, le_b rfl⟩ ⟨le_b rfl, le_b rfl⟩ rfl (le_b rfl) ?_
      rw [hkk]
      refine qV_istore_n (pc := 5) 2 dX2_joinsChunks_5 rfl (le_b rfl) (le_b rfl) rfl ?_
      refine qV_aload_n (pc := 6) 0 dX2_joinsChunks_6 rfl rfl ?_
      refine qV_get (pc := 7) kX2 1 (le_b rfl) lk_X2_23 rfl dX2_joinsChunks_7 (by first | assumption | exact hU_self _ _ _ | (refine (hU_ne (by omega)).trans ?_; first | assumption | exact hU_self _ _ _ | (refine (hU_ne (by omega)).trans ?_; first | assumption | exact hU_self _ _ _ | (refine (hU_ne (by omega)).trans ?_; first | assumption | exact hU_self _ _ _)))) (by exact rfl) ?_
      refine qV_iload_n (pc := 10) 2 dX2_joinsChunks_10 rfl rfl ?_
      refine qV_rdV (pc := 11) (c_gt hr rfl hk1) nX3_get kX3 lk_X2_54 dX2_joinsChunks_11 hr.obj ⟨le_b rfl, le_b rfl⟩ ⟨le_b rfl, le_b rfl⟩ rfl (le_b rfl) ?_
      refine qV_aload_n (pc := 14) 0 dX2_joinsChunks_14 rfl rfl ?_
      refine qV_get (pc := 15) kX2 1 (le_b rfl) lk_X2_23 rfl dX2_joinsChunks_15 (by first | assumption | exact hU_self _ _ _ | (refine (hU_ne (by omega)).trans ?_; first | assumption | exact hU_self _ _ _ | (refine (hU_ne (by omega)).trans ?_; first | assumption | exact hU_self _ _ _ | (refine (hU_ne (by omega)).trans ?_; first | assumption | exact hU_self _ _ _)))) (by exact rfl) ?_
      refine qV_iload_n (pc := 18) 2 dX2_joinsChunks_18 rfl rfl ?_
      refine qV_iconst (pc := 19) dX2_joinsChunks_19 ?_
      refine qV_iadd (pc := 20) dX2_joinsChunks_20 ?_
      refine qV_rdV (pc := 21) (c_gt0 hr (Or.inr (by omega)) ⟨by omega, by omega⟩) nX3_get kX3 lk_X2_54 dX2_joinsChunks_21 hr.obj ⟨le_b rfl, le_b rfl⟩ ⟨le_b rfl, le_b rfl⟩ rfl (le_b rfl) ?_
      refine qV_iadd (pc := 24) dX2_joinsChunks_24 ?_
      refine qV_istore_n (pc := 25) 3 dX2_joinsChunks_25 rfl (le_b rfl) (le_b rfl) rfl ?_
      refine qV_iload_n (pc := 26) 2 dX2_joinsChunks_26 rfl rfl ?_
      refine qV_iconst (pc := 27) dX2_joinsChunks_27 ?_
      refine qV_iadd (pc := 28) dX2_joinsChunks_28 ?_
      refine qV_aload_n (pc := 29) 0 dX2_joinsChunks_29 rfl rfl ?_
      refine qV_get (pc := 30) kX2 1 (le_b rfl) lk_X2_23 rfl dX2_joinsChunks_30 (by first | assumption | exact hU_self _ _ _ | (refine (hU_ne (by omega)).trans ?_; first | assumption | exact hU_self _ _ _ | (refine (hU_ne (by omega)).trans ?_; first | assumption | exact hU_self _ _ _ | (refine (hU_ne (by omega)).trans ?_; first | assumption | exact hU_self _ _ _)))) (by exact rfl) ?_
      refine qV_rdV (pc := 33) (c_size hr) nX3_size kX3 lk_X2_65 dX2_joinsChunks_33 hr.obj ⟨le_b rfl, le_b rfl⟩ ⟨le_b rfl, le_b rfl⟩ rfl (le_b rfl) ?_
      refine qV_icmp_ge (pc := 36) 65 dX2_joinsChunks_36 (by decide) ⟨by omega, by omega⟩ ⟨by omega, by omega⟩ (fun c36 => ?_) (fun c36 => ?_)
      · refine qV_vret (pc := 65) dX2_joinsChunks_65 rfl (le_b rfl) (le_b rfl) ?_
        exact ⟨rfl, hr, Fr.rf, rfl⟩
      · exfalso; omega
set_option maxRecDepth 100000 in
set_option maxHeartbeats 4000000 in
theorem split_loop {k parts : Nat} {size y4 y5 : Int} (hk : k < c) (hp : 2 ≤ parts ∧ parts ≤ 4) (h4 : y4 = size / parts) (h5 : y5 = size % parts) (hz : 1 ≤ size ∧ size ≤ 32) : ∀ (m i : Nat) (q : Int) (h1 : qH) (R : Nat → Int), parts - i = m → i ≤ parts → q = i → h1 p = some (pob p rd) → Row h1 (p + 5) B (c + parts - 1) R → (∀ j, j < k + i → R j = (gwF C k parts size) j) → (∀ j, k + parts ≤ j → j < c + parts - 1 → R j = (gwF C k parts size) j) → Fr h h1 (p + 5) (p + 7) → qVM l mX2_splitsChunk 0 0 h sz (fun v h' sz' => v = none ∧ Row h' (p + 5) B (c + parts - 1) (gwF C k parts size) ∧ Fr h h' (p + 5) (p + 7) ∧ sz' = sz) 0 0 h1 sz 40 [some (.ref p), some (vI k), some (vI size), some (vI parts), some (vI y4), some (vI y5), some (vI q)] [] := by
  have hy4 : -100 ≤ y4 ∧ y4 ≤ 100 := by
    rcases (show parts = 2 ∨ parts = 3 ∨ parts = 4 by omega) with e | e | e <;> subst e <;> omega
  have hy5 : -100 ≤ y5 ∧ y5 ≤ 100 := by
    rcases (show parts = 2 ∨ parts = 3 ∨ parts = 4 by omega) with e | e | e <;> subst e <;> omega
  have hG : ∀ i : Nat, i < parts → (gwF C k parts size) (k + i) = y4 + (if (i : Int) < y5 then 1 else 0) := fun i hi => by
    simp only [gwF]
    rw [if_neg (by omega), if_pos (by omega), show k + i - k = i by omega, h4, h5]
  intro m
  induction m with
  | zero =>
    intro i q h1 R hm hi hq ho hr r1 r2 hf
    obtain rfl : i = parts := by omega
    have hle := hr.le
    refine qV_iload (pc := 40) 6 dX2_splitsChunk_40 rfl ?_
    refine qV_iload_n (pc := 42) 3 dX2_splitsChunk_42 rfl rfl ?_
    refine qV_icmp_ge (pc := 43) 79 dX2_splitsChunk_43 (by decide) ⟨by omega, by omega⟩ ⟨by omega, by omega⟩ (fun c43 => ?_) (fun c43 => ?_)
    · refine qV_vret (pc := 79) dX2_splitsChunk_79 rfl (le_b rfl) (le_b rfl) ?_
      refine ⟨rfl, hr.congr (fun j hj => ?_), hf, rfl⟩
      by_cases e : j < k + i
      · exact r1 j e
      · exact r2 j (by omega) hj
    · exfalso; omega
  | succ m ih =>
    intro i q h1 R hm hi hq ho hr r1 r2 hf
    have hle := hr.le
    refine qV_iload (pc := 40) 6 dX2_splitsChunk_40 rfl ?_
    refine qV_iload_n (pc := 42) 3 dX2_splitsChunk_42 rfl rfl ?_
    refine qV_icmp_ge (pc := 43) 79 dX2_splitsChunk_43 (by decide) ⟨by omega, by omega⟩ ⟨by omega, by omega⟩ (fun c43 => ?_) (fun c43 => ?_)
    · exfalso; omega
    · refine qV_aload_n (pc := 46) 0 dX2_splitsChunk_46 rfl rfl ?_
      refine qV_get (pc := 47) kX2 1 (le_b rfl) lk_X2_23 rfl dX2_splitsChunk_47 (by first | assumption | exact hU_self _ _ _ | (refine (hU_ne (by omega)).trans ?_; first | assumption | exact hU_self _ _ _ | (refine (hU_ne (by omega)).trans ?_; first | assumption | exact hU_self _ _ _ | (refine (hU_ne (by omega)).trans ?_; first | assumption | exact hU_self _ _ _)))) (by exact rfl) ?_
      refine qV_iload_n (pc := 50) 1 dX2_splitsChunk_50 rfl rfl ?_
      refine qV_iload (pc := 51) 6 dX2_splitsChunk_51 rfl ?_
      refine qV_iadd (pc := 53) dX2_splitsChunk_53 ?_
      refine qV_iload (pc := 54) 6 dX2_splitsChunk_54 rfl ?_
      refine qV_iload (pc := 56) 5 dX2_splitsChunk_56 rfl ?_
      refine qV_icmp_ge (pc := 58) 68 dX2_splitsChunk_58 (by decide) ⟨by omega, by omega⟩ ⟨by omega, by omega⟩ (fun c58 => ?_) (fun c58 => ?_)
      · refine qV_iload (pc := 68) 4 dX2_splitsChunk_68 rfl ?_
        refine qV_voV (pc := 70) (c_set hr (i := k + i) (by omega) (by omega)) nX3_set kX3 lk_X2_62 dX2_splitsChunk_70 hr.obj ⟨le_b rfl, le_b rfl⟩ ⟨le_b rfl, le_b rfl⟩ rfl (le_b rfl) ?_
        rintro h2 _ ⟨hr2, hf2, rfl⟩
        have ho2 : h2 p = some (pob p rd) := (hf2 p (by omega)).trans ho
        refine qV_iinc (pc := 73) 6 dX2_splitsChunk_73 rfl (le_b rfl) (le_b rfl) rfl ?_
        refine qV_goto (pc := 76) 40 dX2_splitsChunk_76 (by decide) ?_
        refine ih (i + 1) _ h2 _ (by omega) (by omega) (by omega) ho2 hr2 (fun j hj => ?_) (fun j hj hj2 => ?_) (hf.trans hf2)
        · by_cases e : j = k + i
          · subst e
            rw [va_up_self, hG i (by omega)]
            first | (rw [if_neg (by omega)]; omega) | (rw [if_pos (by omega)])
          · rw [va_up_ne _ _ e]
            exact r1 j (by omega)
        · rw [va_up_ne _ _ (by omega)]
          exact r2 j hj hj2
      · refine qV_iload (pc := 61) 4 dX2_splitsChunk_61 rfl ?_
        refine qV_iconst (pc := 63) dX2_splitsChunk_63 ?_
        refine qV_iadd (pc := 64) dX2_splitsChunk_64 ?_
        refine qV_goto (pc := 65) 70 dX2_splitsChunk_65 (by decide) ?_
        refine qV_voV (pc := 70) (c_set hr (i := k + i) (by omega) (by omega)) nX3_set kX3 lk_X2_62 dX2_splitsChunk_70 hr.obj ⟨le_b rfl, le_b rfl⟩ ⟨le_b rfl, le_b rfl⟩ rfl (le_b rfl) ?_
        rintro h2 _ ⟨hr2, hf2, rfl⟩
        have ho2 : h2 p = some (pob p rd) := (hf2 p (by omega)).trans ho
        refine qV_iinc (pc := 73) 6 dX2_splitsChunk_73 rfl (le_b rfl) (le_b rfl) rfl ?_
        refine qV_goto (pc := 76) 40 dX2_splitsChunk_76 (by decide) ?_
        refine ih (i + 1) _ h2 _ (by omega) (by omega) (by omega) ho2 hr2 (fun j hj => ?_) (fun j hj hj2 => ?_) (hf.trans hf2)
        · by_cases e : j = k + i
          · subst e
            rw [va_up_self, hG i (by omega)]
            first | (rw [if_neg (by omega)]; omega) | (rw [if_pos (by omega)])
          · rw [va_up_ne _ _ e]
            exact r1 j (by omega)
        · rw [va_up_ne _ _ (by omega)]
          exact r2 j hj hj2
set_option maxRecDepth 100000 in
set_option maxHeartbeats 4000000 in
theorem c_split {k parts : Nat} {x size : Int} (ho : h p = some (pob p rd)) (hr : Row h (p + 5) B c (va_up C k size)) (hx : x = k) (hk : k < c) (hz : 1 ≤ size ∧ size ≤ 32) (hp : (parts : Int) = (size + 7) / 8) (hB : c + parts - 1 ≤ B) : qVo l mX2_splitsChunk 0 0 [.ref p, vI x, vI size] h sz (fun h' sz' => Row h' (p + 5) B (c + parts - 1) (gwF C k parts size) ∧ Fr h h' (p + 5) (p + 7) ∧ sz' = sz) := by
  subst hx
  have hle := hr.le
  obtain ⟨p1, p2, p3, p4⟩ := parts_ok hz.1 hz.2 hp
  have e0 : (size + 8 - 1) / 8 = (parts : Int) := by rw [hp]; congr 1; omega
  refine qC.of 4 (by decide) (le_b rfl) ?_
  refine qV_iload_n (pc := 0) 2 dX2_splitsChunk_0 rfl rfl ?_
  refine qV_bipush (pc := 1) dX2_splitsChunk_1 rfl ?_
  refine qV_iadd (pc := 3) dX2_splitsChunk_3 ?_
  refine qV_iconst (pc := 4) dX2_splitsChunk_4 ?_
  refine qV_isub (pc := 5) dX2_splitsChunk_5 ?_
  refine qV_bipush (pc := 6) dX2_splitsChunk_6 rfl ?_
  refine qV_idiv (pc := 8) dX2_splitsChunk_8 (by omega) ?_
  rw [e0]
  refine qV_istore_n (pc := 9) 3 dX2_splitsChunk_9 rfl (le_b rfl) (le_b rfl) rfl ?_
  refine qV_iload_n (pc := 10) 3 dX2_splitsChunk_10 rfl rfl ?_
  refine qV_iconst (pc := 11) dX2_splitsChunk_11 ?_
  refine qV_icmp_ge (pc := 12) 16 dX2_splitsChunk_12 (by decide) ⟨by omega, by omega⟩ ⟨by omega, by omega⟩ (fun c12 => ?_) (fun c12 => ?_)
  · refine qV_iload_n (pc := 16) 2 dX2_splitsChunk_16 rfl rfl ?_
    refine qV_iload_n (pc := 17) 3 dX2_splitsChunk_17 rfl rfl ?_
    refine qV_idiv (pc := 18) dX2_splitsChunk_18 (by omega) ?_
    refine qV_istore (pc := 19) 4 dX2_splitsChunk_19 (le_b rfl) (le_b rfl) rfl ?_
    refine qV_iload_n (pc := 21) 2 dX2_splitsChunk_21 rfl rfl ?_
    refine qV_iload_n (pc := 22) 3 dX2_splitsChunk_22 rfl rfl ?_
    refine qV_irem (pc := 23) dX2_splitsChunk_23 (by omega) ?_
    refine qV_istore (pc := 24) 5 dX2_splitsChunk_24 (le_b rfl) (le_b rfl) rfl ?_
    refine qV_aload_n (pc := 26) 0 dX2_splitsChunk_26 rfl rfl ?_
    refine qV_get (pc := 27) kX2 1 (le_b rfl) lk_X2_23 rfl dX2_splitsChunk_27 (by first | assumption | exact hU_self _ _ _ | (refine (hU_ne (by omega)).trans ?_; first | assumption | exact hU_self _ _ _ | (refine (hU_ne (by omega)).trans ?_; first | assumption | exact hU_self _ _ _ | (refine (hU_ne (by omega)).trans ?_; first | assumption | exact hU_self _ _ _)))) (by exact rfl) ?_
    refine qV_iload_n (pc := 30) 1 dX2_splitsChunk_30 rfl rfl ?_
    refine qV_iload_n (pc := 31) 3 dX2_splitsChunk_31 rfl rfl ?_
    refine qV_iconst (pc := 32) dX2_splitsChunk_32 ?_
    refine qV_isub (pc := 33) dX2_splitsChunk_33 ?_
    refine qV_voV (pc := 34) (c_opens (i := k) (k := parts - 1) hr rfl (by omega) (by omega) (by omega)) nX3_opens kX3 lk_X2_69 dX2_splitsChunk_34 hr.obj ⟨le_b rfl, le_b rfl⟩ ⟨le_b rfl, le_b rfl⟩ rfl (le_b rfl) ?_
    rintro h2 _ ⟨⟨T2, hr2, t1, t2⟩, hf2, rfl⟩
    have ho2 : h2 p = some (pob p rd) := (hf2 p (by omega)).trans ho
    refine qV_iconst (pc := 37) dX2_splitsChunk_37 ?_
    refine qV_istore (pc := 38) 6 dX2_splitsChunk_38 (le_b rfl) (le_b rfl) rfl ?_
    rw [show c + (parts - 1) = c + parts - 1 by omega] at hr2
    refine split_loop hk ⟨by omega, by omega⟩ rfl rfl hz parts 0 _ h2 T2 (by omega) (by omega) rfl ho2 hr2 (fun j hj => ?_) (fun j hj hj2 => ?_) hf2
    · rw [t1 j (by omega), va_up_ne _ _ (by omega)]
      simp only [gwF]
      rw [if_pos (by omega)]
    · have e := t2 (j - (parts - 1)) (by omega) (by omega)
      rw [show j - (parts - 1) + (parts - 1) = j by omega] at e
      rw [e, va_up_ne _ _ (by omega)]
      simp only [gwF]
      rw [if_neg (by omega), if_neg (by omega)]
  · refine qV_vret (pc := 15) dX2_splitsChunk_15 rfl (le_b rfl) (le_b rfl) ?_
    obtain rfl : parts = 1 := by omega
    refine ⟨rfl, (show Row h (p + 5) B (c + 1 - 1) (va_up C k size) from hr).congr (fun j hj => ?_), Fr.rf, rfl⟩
    simp only [gwF]
    by_cases e1 : j < k
    · rw [if_pos e1, va_up_ne _ _ (by omega)]
    · rw [if_neg e1]
      by_cases e2 : j = k
      · subst e2
        rw [va_up_self, if_pos (by omega)]
        split <;> omega
      · rw [if_neg (by omega), va_up_ne _ _ e2]
        rfl
set_option maxRecDepth 100000 in
set_option maxHeartbeats 4000000 in
theorem grow_rest {x : Int} {m : Nat} {h1 : qH} {Z : Nat → Int} {z : Nat} (ho : h1 p = some (pob p rd)) (hr : Row h1 (p + 5) B z Z) (hC : ∀ j, j < z → 0 ≤ Z j ∧ Z j ≤ 8) (hz : 0 < z) (hs : csum Z z ≤ 5000) (hx : 0 ≤ x ∧ x ≤ 5000) (hx2 : x ≤ csum Z z) (hm : 0 < m ∧ m ≤ 24) {parts : Nat} (hp : (parts : Int) = (Z (ca Z x z) + m + 7) / 8) (hB : z + parts - 1 ≤ B) (hf : Fr h h1 (p + 5) (p + 7)) : qVM l mX2_growsChunk 0 0 h sz (fun v h' sz' => v = none ∧ Row h' (p + 5) B (z + parts - 1) (gwF Z (ca Z x z) parts (Z (ca Z x z) + m)) ∧ Fr h h' (p + 5) (p + 7) ∧ sz' = sz) 0 0 h1 sz 18 [some (.ref p), some (vI x), some (vI m), none, none] [] := by
  have hk := ca_ex (C := Z) (p := x) (fun j hj => (hC j hj).1) hz hx2
  generalize hkk : ca Z x z = k at hk hp ⊢
  have b1 := hC k hk.1
  have hle := hr.le
  have hk1 := hk.1
  refine qV_aload_n (pc := 18) 0 dX2_growsChunk_18 rfl rfl ?_
  refine qV_iload_n (pc := 19) 1 dX2_growsChunk_19 rfl rfl ?_
  refine qV_rdV (pc := 20) (c_coba ho hr (fun j hj => (hC j hj).1) hs ⟨by omega, by omega⟩ (fun _ => hx2)) nX2_chunkOfByteAhead kX2 lk_X2_90 dX2_growsChunk_20 (by first | assumption | exact hU_self _ _ _ | (refine (hU_ne (by omega)).trans ?_; first | assumption | exact hU_self _ _ _ | (refine (hU_ne (by omega)).trans ?_; first | assumption | exact hU_self _ _ _ | (refine (hU_ne (by omega)).trans ?_; first | assumption | exact hU_self _ _ _)))) ⟨le_b rfl, le_b rfl⟩ ⟨le_b rfl, le_b rfl⟩ rfl (le_b rfl) ?_
  rw [hkk]
  refine qV_istore_n (pc := 23) 3 dX2_growsChunk_23 rfl (le_b rfl) (le_b rfl) rfl ?_
  refine qV_aload_n (pc := 24) 0 dX2_growsChunk_24 rfl rfl ?_
  refine qV_get (pc := 25) kX2 1 (le_b rfl) lk_X2_23 rfl dX2_growsChunk_25 (by first | assumption | exact hU_self _ _ _ | (refine (hU_ne (by omega)).trans ?_; first | assumption | exact hU_self _ _ _ | (refine (hU_ne (by omega)).trans ?_; first | assumption | exact hU_self _ _ _ | (refine (hU_ne (by omega)).trans ?_; first | assumption | exact hU_self _ _ _)))) (by exact rfl) ?_
  refine qV_iload_n (pc := 28) 3 dX2_growsChunk_28 rfl rfl ?_
  refine qV_rdV (pc := 29) (c_gt hr rfl hk1) nX3_get kX3 lk_X2_54 dX2_growsChunk_29 hr.obj ⟨le_b rfl, le_b rfl⟩ ⟨le_b rfl, le_b rfl⟩ rfl (le_b rfl) ?_
  refine qV_iload_n (pc := 32) 2 dX2_growsChunk_32 rfl rfl ?_
  refine qV_iadd (pc := 33) dX2_growsChunk_33 ?_
  refine qV_istore (pc := 34) 4 dX2_growsChunk_34 (le_b rfl) (le_b rfl) rfl ?_
  refine qV_aload_n (pc := 36) 0 dX2_growsChunk_36 rfl rfl ?_
  refine qV_get (pc := 37) kX2 1 (le_b rfl) lk_X2_23 rfl dX2_growsChunk_37 (by first | assumption | exact hU_self _ _ _ | (refine (hU_ne (by omega)).trans ?_; first | assumption | exact hU_self _ _ _ | (refine (hU_ne (by omega)).trans ?_; first | assumption | exact hU_self _ _ _ | (refine (hU_ne (by omega)).trans ?_; first | assumption | exact hU_self _ _ _)))) (by exact rfl) ?_
  refine qV_iload_n (pc := 40) 3 dX2_growsChunk_40 rfl rfl ?_
  refine qV_iload (pc := 41) 4 dX2_growsChunk_41 rfl ?_
  refine qV_voV (pc := 43) (c_set hr rfl hk1) nX3_set kX3 lk_X2_62 dX2_growsChunk_43 hr.obj ⟨le_b rfl, le_b rfl⟩ ⟨le_b rfl, le_b rfl⟩ rfl (le_b rfl) ?_
  rintro h2 _ ⟨hr2, hf2, rfl⟩
  have ho2 : h2 p = some (pob p rd) := (hf2 p (by omega)).trans ho
  refine qV_aload_n (pc := 46) 0 dX2_growsChunk_46 rfl rfl ?_
  refine qV_iload_n (pc := 47) 3 dX2_growsChunk_47 rfl rfl ?_
  refine qV_iload (pc := 48) 4 dX2_growsChunk_48 rfl ?_
  refine qV_voV (pc := 50) (c_split (parts := parts) ho2 hr2 rfl hk1 ⟨by omega, by omega⟩ hp hB) nX2_splitsChunk kX2 lk_X2_93 dX2_growsChunk_50 (by first | assumption | exact hU_self _ _ _ | (refine (hU_ne (by omega)).trans ?_; first | assumption | exact hU_self _ _ _ | (refine (hU_ne (by omega)).trans ?_; first | assumption | exact hU_self _ _ _ | (refine (hU_ne (by omega)).trans ?_; first | assumption | exact hU_self _ _ _)))) ⟨le_b rfl, le_b rfl⟩ ⟨le_b rfl, le_b rfl⟩ rfl (le_b rfl) ?_
  rintro h3 _ ⟨hr3, hf3, rfl⟩
  refine qV_vret (pc := 53) dX2_growsChunk_53 rfl (le_b rfl) (le_b rfl) ?_
  exact ⟨rfl, hr3, (hf.trans hf2).trans hf3, rfl⟩
set_option maxRecDepth 100000 in
set_option maxHeartbeats 4000000 in
theorem c_grow {x : Int} {m : Nat} (ho : h p = some (pob p rd)) (hr : Row h (p + 5) B c C) {z : Nat} {Z : Nat → Int} (ez : z = if c = 0 then 1 else c) (eZ : Z = if c = 0 then (fun _ => 0) else C) (hC : ∀ j, j < z → 0 ≤ Z j ∧ Z j ≤ 8) (hs : csum Z z ≤ 5000) (hx : 0 ≤ x ∧ x ≤ 5000) (hx2 : x ≤ csum Z z) (hm : 0 < m ∧ m ≤ 24) {parts : Nat} (hp : (parts : Int) = (Z (ca Z x z) + m + 7) / 8) (hB : z + parts - 1 ≤ B) (hB1 : 1 ≤ B) : qVo l mX2_growsChunk 0 0 [.ref p, vI x, vI m] h sz (fun h' sz' => Row h' (p + 5) B (z + parts - 1) (gwF Z (ca Z x z) parts (Z (ca Z x z) + m)) ∧ Fr h h' (p + 5) (p + 7) ∧ sz' = sz) := by
  have hle := hr.le
  refine qC.of 2 (by decide) (le_b rfl) ?_
  refine qV_aload_n (pc := 0) 0 dX2_growsChunk_0 rfl rfl ?_
  refine qV_get (pc := 1) kX2 1 (le_b rfl) lk_X2_23 rfl dX2_growsChunk_1 (by first | assumption | exact hU_self _ _ _ | (refine (hU_ne (by omega)).trans ?_; first | assumption | exact hU_self _ _ _ | (refine (hU_ne (by omega)).trans ?_; first | assumption | exact hU_self _ _ _ | (refine (hU_ne (by omega)).trans ?_; first | assumption | exact hU_self _ _ _)))) (by exact rfl) ?_
  refine qV_rdV (pc := 4) (c_size hr) nX3_size kX3 lk_X2_65 dX2_growsChunk_4 hr.obj ⟨le_b rfl, le_b rfl⟩ ⟨le_b rfl, le_b rfl⟩ rfl (le_b rfl) ?_
  refine qV_ifne (pc := 7) 18 dX2_growsChunk_7 (by decide) ⟨by omega, by omega⟩ (fun c7 => ?_) (fun c7 => ?_)
  · have c0 : ¬ c = 0 := by omega
    rw [if_neg c0] at ez eZ
    subst ez; subst eZ
    first
    | exact grow_rest ho hr hC (by omega) hs hx hx2 hm hp hB Fr.rf
    | exact grow_rest ho2 (hr2.congr (fun j hj => by
        obtain rfl : j = 0 := by omega
        exact va_up_self _ _ _)) hC (by omega) hs hx hx2 hm hp hB hf2
  · obtain rfl : c = 0 := by omega
    rw [if_pos rfl] at ez eZ
    subst ez; subst eZ
    refine qV_aload_n (pc := 10) 0 dX2_growsChunk_10 rfl rfl ?_
    refine qV_get (pc := 11) kX2 1 (le_b rfl) lk_X2_23 rfl dX2_growsChunk_11 (by first | assumption | exact hU_self _ _ _ | (refine (hU_ne (by omega)).trans ?_; first | assumption | exact hU_self _ _ _ | (refine (hU_ne (by omega)).trans ?_; first | assumption | exact hU_self _ _ _ | (refine (hU_ne (by omega)).trans ?_; first | assumption | exact hU_self _ _ _)))) (by exact rfl) ?_
    refine qV_iconst (pc := 14) dX2_growsChunk_14 ?_
    refine qV_voV (pc := 15) (c_add hr (by omega)) nX3_add kX3 lk_X2_26 dX2_growsChunk_15 hr.obj ⟨le_b rfl, le_b rfl⟩ ⟨le_b rfl, le_b rfl⟩ rfl (le_b rfl) ?_
    rintro h2 _ ⟨hr2, hf2, rfl⟩
    have ho2 : h2 p = some (pob p rd) := (hf2 p (by omega)).trans ho
    first
    | exact grow_rest ho hr hC (by omega) hs hx hx2 hm hp hB Fr.rf
    | exact grow_rest ho2 (hr2.congr (fun j hj => by
        obtain rfl : j = 0 := by omega
        exact va_up_self _ _ _)) hC (by omega) hs hx hx2 hm hp hB hf2
end PAGEC
