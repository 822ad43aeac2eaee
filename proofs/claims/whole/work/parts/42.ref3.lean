/-! ===== the reference: bytes and chunks change ===== -/
def SPx (g : Nat → Int) (n : Nat) (T : Nat → Int) (c : Nat) (C m : Nat → Int) (rd : Int) : Prop := g 0 = n ∧ g 1 = c ∧ g 2 = rd ∧ (∀ j, j < n → g (3 + j) = T j) ∧ (∀ k, k < c → g (259 + k) = C k) ∧ ∀ j, j < 26 → g (515 + j) = m j
abbrev hM (h : qH) (r : Nat) (g : Nat → Int) : qH := hU h (r + 1) (iA 0 541 g)
section REF3
variable {l : Launch} {h : qH} {sz r : Nat} {kn ty st : Int}
theorem qV_mono {l : Launch} {M : MI} {mc ms : Nat} {h0 : qH} {sz0 : Nat} {Q Q' : Option Value → qH → Nat → Prop} {k n : Nat} {h : qH} {sz pc : Nat} {L : List (Option Value)} {st : List Value} (a : qVM l M mc ms h0 sz0 Q k n h sz pc L st) (e : ∀ v h' sz', Q v h' sz' → Q' v h' sz') : qVM l M mc ms h0 sz0 Q' k n h sz pc L st := by
  intro D p e0 s m args below meth c H locs ls hF hK hE hz hR hS hA hL T hT X
  obtain ⟨t, a1, o, b1, b2, ⟨v, h', sz', r1, r2, r3⟩, b4⟩ := a D p e0 s m args below meth c H locs ls hF hK hE hz hR hS hA hL T hT X
  exact ⟨t, a1, o, b1, b2, ⟨v, h', sz', r1, e _ _ _ r2, r3⟩, b4⟩
set_option maxRecDepth 100000 in
set_option maxHeartbeats 4000000 in
theorem opens_up {k d c : Nat} {s : Nat → Int} (ho : h r = some (rob r kn ty st)) (hd : 0 < d) (hc : c + d ≤ 250) (hk : k < c) (s1 : s 1 = c) : ∀ (m : Nat) (q : Int) (g : Nat → Int), k + 1 ≤ m → m ≤ c → q = (m : Int) - 1 → (∀ t, t < m → g (259 + t) = s (259 + t)) → (∀ t, m ≤ t → t < c → g (259 + t + d) = s (259 + t)) → (∀ q, (q < 259 ∨ 515 ≤ q) → g q = s q) → qVM l mX7_opens 0 0 h sz (fun v h' sz' => v = none ∧ (∃ g, h' = hM h r g ∧ g 1 = (c : Int) + d ∧ (∀ t, t ≤ k → g (259 + t) = s (259 + t)) ∧ (∀ t, k < t → t < c → g (259 + t + d) = s (259 + t)) ∧ ∀ q, q ≠ 1 → (q < 259 ∨ 515 ≤ q) → g q = s q) ∧ sz' = sz) 0 0 (hM h r g) sz 13 [some (.ref r), some (vI k), some (vI d), some (vI q)] [] := by
  intro m
  induction m with
  | zero => intro q g h1; omega
  | succ m ih =>
    intro q g h1 h2 hq g1 g2 g3
    have e1 : g 1 = c := (g3 1 (by omega)).trans s1
    by_cases hm : m = k
    · subst hm
      refine qV_iload_n (pc := 13) 3 dX7_opens_13 rfl rfl ?_
      refine qV_iload_n (pc := 14) 1 dX7_opens_14 rfl rfl ?_
      refine qV_icmp_le (pc := 15) 46 dX7_opens_15 (by decide) ⟨by omega, by omega⟩ ⟨by omega, by omega⟩ (fun c15 => ?_) (fun c15 => ?_)
      · refine qV_goto (pc := 46) 93 dX7_opens_46 (by decide) ?_
        refine qV_aload_n (pc := 93) 0 dX7_opens_93 rfl rfl ?_
        refine qV_get (pc := 94) kX7 0 (le_b rfl) lk_X7_7 rfl dX7_opens_94 (by first | assumption | exact hU_self _ _ _ | (refine (hU_ne (by omega)).trans ?_; first | assumption | exact hU_self _ _ _ | (refine (hU_ne (by omega)).trans ?_; first | assumption | exact hU_self _ _ _ | (refine (hU_ne (by omega)).trans ?_; first | assumption | exact hU_self _ _ _)))) (by exact rfl) ?_
        refine qV_iconst (pc := 97) dX7_opens_97 ?_
        refine qV_dup2 (pc := 98) dX7_opens_98 rfl rfl ?_
        refine qV_ialdN (pc := 99) (1) dX7_opens_99 (by first | assumption | exact hU_self _ _ _ | (refine (hU_ne (by omega)).trans ?_; first | assumption | exact hU_self _ _ _ | (refine (hU_ne (by omega)).trans ?_; first | assumption | exact hU_self _ _ _ | (refine (hU_ne (by omega)).trans ?_; first | assumption | exact hU_self _ _ _)))) (by omega) (by omega) e1 ?_
        refine qV_iload_n (pc := 100) 2 dX7_opens_100 rfl rfl ?_
        refine qV_iadd (pc := 101) dX7_opens_101 ?_
        refine qV_iastM (pc := 102) (1) dX7_opens_102 (by omega) (by omega) ?_
        refine qV_vret (pc := 103) dX7_opens_103 rfl (le_b rfl) (le_b rfl) ?_
        refine ⟨rfl, ⟨_, rfl, va_up_self _ _ _, fun t ht => ?_, fun t ht ht2 => ?_, fun q hq1 hq2 => ?_⟩, rfl⟩
        · rw [va_up_ne _ _ (by omega)]; exact g1 t (by omega)
        · rw [va_up_ne _ _ (by omega)]; exact g2 t (by omega) ht2
        · rw [va_up_ne _ _ hq1]; exact g3 q hq2
      · exfalso; omega
    · have e2 := g1 m (by omega)
      refine qV_iload_n (pc := 13) 3 dX7_opens_13 rfl rfl ?_
      refine qV_iload_n (pc := 14) 1 dX7_opens_14 rfl rfl ?_
      refine qV_icmp_le (pc := 15) 46 dX7_opens_15 (by decide) ⟨by omega, by omega⟩ ⟨by omega, by omega⟩ (fun c15 => ?_) (fun c15 => ?_)
      · exfalso; omega
      · refine qV_aload_n (pc := 18) 0 dX7_opens_18 rfl rfl ?_
        refine qV_get (pc := 19) kX7 0 (le_b rfl) lk_X7_7 rfl dX7_opens_19 (by first | assumption | exact hU_self _ _ _ | (refine (hU_ne (by omega)).trans ?_; first | assumption | exact hU_self _ _ _ | (refine (hU_ne (by omega)).trans ?_; first | assumption | exact hU_self _ _ _ | (refine (hU_ne (by omega)).trans ?_; first | assumption | exact hU_self _ _ _)))) (by exact rfl) ?_
        refine qV_sipush (pc := 22) dX7_opens_22 rfl ?_
        refine qV_iload_n (pc := 25) 3 dX7_opens_25 rfl rfl ?_
        refine qV_iadd (pc := 26) dX7_opens_26 ?_
        refine qV_iload_n (pc := 27) 2 dX7_opens_27 rfl rfl ?_
        refine qV_iadd (pc := 28) dX7_opens_28 ?_
        refine qV_aload_n (pc := 29) 0 dX7_opens_29 rfl rfl ?_
        refine qV_get (pc := 30) kX7 0 (le_b rfl) lk_X7_7 rfl dX7_opens_30 (by first | assumption | exact hU_self _ _ _ | (refine (hU_ne (by omega)).trans ?_; first | assumption | exact hU_self _ _ _ | (refine (hU_ne (by omega)).trans ?_; first | assumption | exact hU_self _ _ _ | (refine (hU_ne (by omega)).trans ?_; first | assumption | exact hU_self _ _ _)))) (by exact rfl) ?_
        refine qV_sipush (pc := 33) dX7_opens_33 rfl ?_
        refine qV_iload_n (pc := 36) 3 dX7_opens_36 rfl rfl ?_
        refine qV_iadd (pc := 37) dX7_opens_37 ?_
        refine qV_ialdN (pc := 38) (259 + m) dX7_opens_38 (by first | assumption | exact hU_self _ _ _ | (refine (hU_ne (by omega)).trans ?_; first | assumption | exact hU_self _ _ _ | (refine (hU_ne (by omega)).trans ?_; first | assumption | exact hU_self _ _ _ | (refine (hU_ne (by omega)).trans ?_; first | assumption | exact hU_self _ _ _)))) (by omega) (by omega) e2 ?_
        refine qV_iastM (pc := 39) (259 + m + d) dX7_opens_39 (by omega) (by omega) ?_
        refine qV_iinc (pc := 40) 3 dX7_opens_40 rfl (le_b rfl) (le_b rfl) rfl ?_
        refine qV_goto (pc := 43) 13 dX7_opens_43 (by decide) ?_
        refine ih _ _ (by omega) (by omega) (by omega) (fun t ht => ?_) (fun t ht ht2 => ?_) (fun q hq2 => ?_)
        · rw [va_up_ne _ _ (by omega)]; exact g1 t (by omega)
        · by_cases e : t = m
          · subst e; rw [va_up_self]
          · rw [va_up_ne _ _ (by omega)]; exact g2 t (by omega) ht2
        · rw [va_up_ne _ _ (by omega)]; exact g3 q hq2
set_option maxRecDepth 100000 in
set_option maxHeartbeats 4000000 in
theorem opens_dn {k d c : Nat} {z : Int} {s : Nat → Int} (ho : h r = some (rob r kn ty st)) (hz : z = -(d : Int)) (hc : c ≤ 250) (hd : d ≤ 1) (hk : k < c) (s1 : s 1 = c) : ∀ (m w : Nat) (q : Int) (g : Nat → Int), c - w = m → k < w → q = w → (∀ t, t ≤ k → g (259 + t) = s (259 + t)) → (∀ t, k < t → t < w → t + d < c → g (259 + t) = s (259 + t + d)) → (∀ t, w ≤ t → t < c → g (259 + t) = s (259 + t)) → (∀ q, (q < 259 ∨ 515 ≤ q) → g q = s q) → w ≤ c → qVM l mX7_opens 0 0 h sz (fun v h' sz' => v = none ∧ (∃ g, h' = hM h r g ∧ g 1 = (c : Int) - d ∧ (∀ t, t ≤ k → g (259 + t) = s (259 + t)) ∧ (∀ t, k < t → t + d < c → g (259 + t) = s (259 + t + d)) ∧ ∀ q, q ≠ 1 → (q < 259 ∨ 515 ≤ q) → g q = s q) ∧ sz' = sz) 0 0 (hM h r g) sz 53 [some (.ref r), some (vI k), some (vI z), some (vI q)] [] := by
  have hend : ∀ (w : Nat) (q : Int) (g : Nat → Int), c ≤ w + d → k < w → q = w → w ≤ c → (∀ t, t ≤ k → g (259 + t) = s (259 + t)) → (∀ t, k < t → t < w → t + d < c → g (259 + t) = s (259 + t + d)) → (∀ q, (q < 259 ∨ 515 ≤ q) → g q = s q) → qVM l mX7_opens 0 0 h sz (fun v h' sz' => v = none ∧ (∃ g, h' = hM h r g ∧ g 1 = (c : Int) - d ∧ (∀ t, t ≤ k → g (259 + t) = s (259 + t)) ∧ (∀ t, k < t → t + d < c → g (259 + t) = s (259 + t + d)) ∧ ∀ q, q ≠ 1 → (q < 259 ∨ 515 ≤ q) → g q = s q) ∧ sz' = sz) 0 0 (hM h r g) sz 53 [some (.ref r), some (vI k), some (vI z), some (vI q)] [] := by
    intro w q g hw hkw hq hwc g1 g2 g4
    have e1 : g 1 = c := (g4 1 (by omega)).trans s1
    refine qV_iload_n (pc := 53) 3 dX7_opens_53 rfl rfl ?_
    refine qV_iload_n (pc := 54) 2 dX7_opens_54 rfl rfl ?_
    refine qV_isub (pc := 55) dX7_opens_55 ?_
    refine qV_aload_n (pc := 56) 0 dX7_opens_56 rfl rfl ?_
    refine qV_get (pc := 57) kX7 0 (le_b rfl) lk_X7_7 rfl dX7_opens_57 (by first | assumption | exact hU_self _ _ _ | (refine (hU_ne (by omega)).trans ?_; first | assumption | exact hU_self _ _ _ | (refine (hU_ne (by omega)).trans ?_; first | assumption | exact hU_self _ _ _ | (refine (hU_ne (by omega)).trans ?_; first | assumption | exact hU_self _ _ _)))) (by exact rfl) ?_
    refine qV_iconst (pc := 60) dX7_opens_60 ?_
    refine qV_ialdN (pc := 61) (1) dX7_opens_61 (by first | assumption | exact hU_self _ _ _ | (refine (hU_ne (by omega)).trans ?_; first | assumption | exact hU_self _ _ _ | (refine (hU_ne (by omega)).trans ?_; first | assumption | exact hU_self _ _ _ | (refine (hU_ne (by omega)).trans ?_; first | assumption | exact hU_self _ _ _)))) (by omega) (by omega) e1 ?_
    refine qV_icmp_ge (pc := 62) 93 dX7_opens_62 (by decide) ⟨by omega, by omega⟩ ⟨by omega, by omega⟩ (fun c62 => ?_) (fun c62 => ?_)
    · refine qV_aload_n (pc := 93) 0 dX7_opens_93 rfl rfl ?_
      refine qV_get (pc := 94) kX7 0 (le_b rfl) lk_X7_7 rfl dX7_opens_94 (by first | assumption | exact hU_self _ _ _ | (refine (hU_ne (by omega)).trans ?_; first | assumption | exact hU_self _ _ _ | (refine (hU_ne (by omega)).trans ?_; first | assumption | exact hU_self _ _ _ | (refine (hU_ne (by omega)).trans ?_; first | assumption | exact hU_self _ _ _)))) (by exact rfl) ?_
      refine qV_iconst (pc := 97) dX7_opens_97 ?_
      refine qV_dup2 (pc := 98) dX7_opens_98 rfl rfl ?_
      refine qV_ialdN (pc := 99) (1) dX7_opens_99 (by first | assumption | exact hU_self _ _ _ | (refine (hU_ne (by omega)).trans ?_; first | assumption | exact hU_self _ _ _ | (refine (hU_ne (by omega)).trans ?_; first | assumption | exact hU_self _ _ _ | (refine (hU_ne (by omega)).trans ?_; first | assumption | exact hU_self _ _ _)))) (by omega) (by omega) e1 ?_
      refine qV_iload_n (pc := 100) 2 dX7_opens_100 rfl rfl ?_
      refine qV_iadd (pc := 101) dX7_opens_101 ?_
      refine qV_iastM (pc := 102) (1) dX7_opens_102 (by omega) (by omega) ?_
      refine qV_vret (pc := 103) dX7_opens_103 rfl (le_b rfl) (le_b rfl) ?_
      refine ⟨rfl, ⟨_, rfl, ?_, fun t ht => ?_, fun t ht ht2 => ?_, fun q hq1 hq2 => ?_⟩, rfl⟩
      · rw [va_up_self]; omega
      · rw [va_up_ne _ _ (by omega)]; exact g1 t (by omega)
      · rw [va_up_ne _ _ (by omega)]; exact g2 t ht (by omega) ht2
      · rw [va_up_ne _ _ hq1]; exact g4 q hq2
    · exfalso; omega
  intro m
  induction m with
  | zero => intro w q g hm hkw hq g1 g2 g3 g4 hwc; exact hend w q g (by omega) hkw hq hwc g1 g2 g4
  | succ m ih =>
    intro w q g hm hkw hq g1 g2 g3 g4 hwc
    by_cases hlast : c ≤ w + d
    · exact hend w q g hlast hkw hq hwc g1 g2 g4
    · have e1 : g 1 = c := (g4 1 (by omega)).trans s1
      have e2 := g3 (w + d) (by omega) (by omega)
      refine qV_iload_n (pc := 53) 3 dX7_opens_53 rfl rfl ?_
      refine qV_iload_n (pc := 54) 2 dX7_opens_54 rfl rfl ?_
      refine qV_isub (pc := 55) dX7_opens_55 ?_
      refine qV_aload_n (pc := 56) 0 dX7_opens_56 rfl rfl ?_
      refine qV_get (pc := 57) kX7 0 (le_b rfl) lk_X7_7 rfl dX7_opens_57 (by first | assumption | exact hU_self _ _ _ | (refine (hU_ne (by omega)).trans ?_; first | assumption | exact hU_self _ _ _ | (refine (hU_ne (by omega)).trans ?_; first | assumption | exact hU_self _ _ _ | (refine (hU_ne (by omega)).trans ?_; first | assumption | exact hU_self _ _ _)))) (by exact rfl) ?_
      refine qV_iconst (pc := 60) dX7_opens_60 ?_
      refine qV_ialdN (pc := 61) (1) dX7_opens_61 (by first | assumption | exact hU_self _ _ _ | (refine (hU_ne (by omega)).trans ?_; first | assumption | exact hU_self _ _ _ | (refine (hU_ne (by omega)).trans ?_; first | assumption | exact hU_self _ _ _ | (refine (hU_ne (by omega)).trans ?_; first | assumption | exact hU_self _ _ _)))) (by omega) (by omega) e1 ?_
      refine qV_icmp_ge (pc := 62) 93 dX7_opens_62 (by decide) ⟨by omega, by omega⟩ ⟨by omega, by omega⟩ (fun c62 => ?_) (fun c62 => ?_)
      · exfalso; omega
      · refine qV_aload_n (pc := 65) 0 dX7_opens_65 rfl rfl ?_
        refine qV_get (pc := 66) kX7 0 (le_b rfl) lk_X7_7 rfl dX7_opens_66 (by first | assumption | exact hU_self _ _ _ | (refine (hU_ne (by omega)).trans ?_; first | assumption | exact hU_self _ _ _ | (refine (hU_ne (by omega)).trans ?_; first | assumption | exact hU_self _ _ _ | (refine (hU_ne (by omega)).trans ?_; first | assumption | exact hU_self _ _ _)))) (by exact rfl) ?_
        refine qV_sipush (pc := 69) dX7_opens_69 rfl ?_
        refine qV_iload_n (pc := 72) 3 dX7_opens_72 rfl rfl ?_
        refine qV_iadd (pc := 73) dX7_opens_73 ?_
        refine qV_aload_n (pc := 74) 0 dX7_opens_74 rfl rfl ?_
        refine qV_get (pc := 75) kX7 0 (le_b rfl) lk_X7_7 rfl dX7_opens_75 (by first | assumption | exact hU_self _ _ _ | (refine (hU_ne (by omega)).trans ?_; first | assumption | exact hU_self _ _ _ | (refine (hU_ne (by omega)).trans ?_; first | assumption | exact hU_self _ _ _ | (refine (hU_ne (by omega)).trans ?_; first | assumption | exact hU_self _ _ _)))) (by exact rfl) ?_
        refine qV_sipush (pc := 78) dX7_opens_78 rfl ?_
        refine qV_iload_n (pc := 81) 3 dX7_opens_81 rfl rfl ?_
        refine qV_iadd (pc := 82) dX7_opens_82 ?_
        refine qV_iload_n (pc := 83) 2 dX7_opens_83 rfl rfl ?_
        refine qV_isub (pc := 84) dX7_opens_84 ?_
        refine qV_ialdN (pc := 85) (259 + (w + d)) dX7_opens_85 (by first | assumption | exact hU_self _ _ _ | (refine (hU_ne (by omega)).trans ?_; first | assumption | exact hU_self _ _ _ | (refine (hU_ne (by omega)).trans ?_; first | assumption | exact hU_self _ _ _ | (refine (hU_ne (by omega)).trans ?_; first | assumption | exact hU_self _ _ _)))) (by omega) (by omega) e2 ?_
        refine qV_iastM (pc := 86) (259 + w) dX7_opens_86 (by omega) (by omega) ?_
        refine qV_iinc (pc := 87) 3 dX7_opens_87 rfl (le_b rfl) (le_b rfl) rfl ?_
        refine qV_goto (pc := 90) 53 dX7_opens_90 (by decide) ?_
        refine ih (w + 1) _ _ (by omega) (by omega) (by omega) (fun t ht => ?_) (fun t ht ht2 ht3 => ?_) (fun t ht ht2 => ?_) (fun q hq2 => ?_) (by omega)
        · rw [va_up_ne _ _ (by omega)]; exact g1 t ht
        · by_cases e : t = w
          · subst e; rw [va_up_self, Nat.add_assoc]
          · rw [va_up_ne _ _ (by omega)]; exact g2 t ht (by omega) ht3
        · rw [va_up_ne _ _ (by omega)]; exact g3 t (by omega) ht2
        · rw [va_up_ne _ _ (by omega)]; exact g4 q hq2
set_option maxRecDepth 100000 in
set_option maxHeartbeats 4000000 in
theorem m_opensU {p q : Int} {k d c : Nat} {s : Nat → Int} (ho : h r = some (rob r kn ty st)) (hs : h (r + 1) = some (iA 0 541 s)) (hp : p = k) (hq : q = d) (hd : 0 < d) (hc : c + d ≤ 250) (hk : k < c) (s1 : s 1 = c) : qVo l mX7_opens 0 0 [.ref r, vI p, vI q] h sz (fun h' sz' => (∃ g, h' = hM h r g ∧ g 1 = (c : Int) + d ∧ (∀ t, t ≤ k → g (259 + t) = s (259 + t)) ∧ (∀ t, k < t → t < c → g (259 + t + d) = s (259 + t)) ∧ ∀ q, q ≠ 1 → (q < 259 ∨ 515 ≤ q) → g q = s q) ∧ sz' = sz) := by
  subst hp; subst hq
  refine qC.of 1 (by decide) (le_b rfl) ?_
  refine qV_iload_n (pc := 0) 2 dX7_opens_0 rfl rfl ?_
  refine qV_ifle (pc := 1) 49 dX7_opens_1 (by decide) ⟨by omega, by omega⟩ (fun c1 => ?_) (fun c1 => ?_)
  · exfalso; omega
  · refine qV_aload_n (pc := 4) 0 dX7_opens_4 rfl rfl ?_
    refine qV_get (pc := 5) kX7 0 (le_b rfl) lk_X7_7 rfl dX7_opens_5 (by first | assumption | exact hU_self _ _ _ | (refine (hU_ne (by omega)).trans ?_; first | assumption | exact hU_self _ _ _ | (refine (hU_ne (by omega)).trans ?_; first | assumption | exact hU_self _ _ _ | (refine (hU_ne (by omega)).trans ?_; first | assumption | exact hU_self _ _ _)))) (by exact rfl) ?_
    refine qV_iconst (pc := 8) dX7_opens_8 ?_
    refine qV_ialdN (pc := 9) (1) dX7_opens_9 (by first | assumption | exact hU_self _ _ _ | (refine (hU_ne (by omega)).trans ?_; first | assumption | exact hU_self _ _ _ | (refine (hU_ne (by omega)).trans ?_; first | assumption | exact hU_self _ _ _ | (refine (hU_ne (by omega)).trans ?_; first | assumption | exact hU_self _ _ _)))) (by omega) (by omega) s1 ?_
    refine qV_iconst (pc := 10) dX7_opens_10 ?_
    refine qV_isub (pc := 11) dX7_opens_11 ?_
    refine qV_istore_n (pc := 12) 3 dX7_opens_12 rfl (le_b rfl) (le_b rfl) rfl ?_
    refine qV_heap ?_ (hU_id hs).symm rfl
    exact opens_up ho hd hc hk s1 c _ s (by omega) (Nat.le_refl _) rfl (fun _ _ => rfl) (fun t ht ht2 => by omega) (fun _ _ => rfl)
set_option maxRecDepth 100000 in
set_option maxHeartbeats 4000000 in
theorem m_opensD {p q : Int} {k d c : Nat} {s : Nat → Int} (ho : h r = some (rob r kn ty st)) (hs : h (r + 1) = some (iA 0 541 s)) (hp : p = k) (hq : q = -(d : Int)) (hd : d ≤ 1) (hc : c ≤ 250) (hk : k < c) (s1 : s 1 = c) : qVo l mX7_opens 0 0 [.ref r, vI p, vI q] h sz (fun h' sz' => (∃ g, h' = hM h r g ∧ g 1 = (c : Int) - d ∧ (∀ t, t ≤ k → g (259 + t) = s (259 + t)) ∧ (∀ t, k < t → t + d < c → g (259 + t) = s (259 + t + d)) ∧ ∀ q, q ≠ 1 → (q < 259 ∨ 515 ≤ q) → g q = s q) ∧ sz' = sz) := by
  subst hp
  refine qC.of 1 (by decide) (le_b rfl) ?_
  refine qV_iload_n (pc := 0) 2 dX7_opens_0 rfl rfl ?_
  refine qV_ifle (pc := 1) 49 dX7_opens_1 (by decide) ⟨by omega, by omega⟩ (fun c1 => ?_) (fun c1 => ?_)
  · refine qV_iload_n (pc := 49) 1 dX7_opens_49 rfl rfl ?_
    refine qV_iconst (pc := 50) dX7_opens_50 ?_
    refine qV_iadd (pc := 51) dX7_opens_51 ?_
    refine qV_istore_n (pc := 52) 3 dX7_opens_52 rfl (le_b rfl) (le_b rfl) rfl ?_
    refine qV_heap ?_ (hU_id hs).symm rfl
    exact opens_dn ho hq hc hd hk s1 (c - (k + 1)) (k + 1) _ s (by omega) (by omega) (by omega) (fun _ _ => rfl) (fun t ht ht2 => by omega) (fun _ _ _ => rfl) (fun _ _ => rfl) (by omega)
  · exfalso; omega
set_option maxRecDepth 100000 in
set_option maxHeartbeats 4000000 in
theorem mtake {n c : Nat} {T C m0 : Nat → Int} {x k rd : Int} (ho : h r = some (rob r kn ty st)) (hx : 0 ≤ x ∧ x ≤ 5000) (hk : 0 ≤ k ∧ k ≤ 5000) (hrd : -9 ≤ rd ∧ rd ≤ 5000) (hm0 : ∀ j, j < 26 → -9 ≤ m0 j ∧ m0 j ≤ 5000) (hn : n ≤ 216) (hcn : c ≤ 250) : ∀ (m i : Nat) (q : Int) (g : Nat → Int) (x3 : Option Value) (y4 : Int) (x6 x7 : Option Value), 26 - i = m → i ≤ 26 → q = 515 + (i : Int) → SPx g n T c C (fun j => if j < i then mvT (m0 j) x k else m0 j) rd → qVM l mX7_taking 0 0 h sz (fun v h' sz' => v = none ∧ (∃ g, h' = hM h r g ∧ SPx g n T c C (fun j => mvT (m0 j) x k) (mvT rd x k)) ∧ sz' = sz) 0 0 (hM h r g) sz 312 [some (.ref r), some (vI x), some (vI k), x3, some (vI y4), some (vI q), x6, x7] [] := by
  intro m
  induction m with
  | zero =>
    intro i q g x3 y4 x6 x7 hm hi hq hS
    obtain rfl : i = 26 := by omega
    obtain ⟨s0, s1, s2, sT, sC, sM⟩ := hS
    refine qV_iload (pc := 312) 5 dX7_taking_312 rfl ?_
    refine qV_sipush (pc := 314) dX7_taking_314 rfl ?_
    refine qV_icmp_ge (pc := 317) 345 dX7_taking_317 (by decide) ⟨by omega, by omega⟩ ⟨by omega, by omega⟩ (fun c317 => ?_) (fun c317 => ?_)
    · refine qV_aload_n (pc := 345) 0 dX7_taking_345 rfl rfl ?_
      refine qV_get (pc := 346) kX7 0 (le_b rfl) lk_X7_7 rfl dX7_taking_346 (by first | assumption | exact hU_self _ _ _ | (refine (hU_ne (by omega)).trans ?_; first | assumption | exact hU_self _ _ _ | (refine (hU_ne (by omega)).trans ?_; first | assumption | exact hU_self _ _ _ | (refine (hU_ne (by omega)).trans ?_; first | assumption | exact hU_self _ _ _)))) (by exact rfl) ?_
      refine qV_iconst (pc := 349) dX7_taking_349 ?_
      refine qV_aload_n (pc := 350) 0 dX7_taking_350 rfl rfl ?_
      refine qV_get (pc := 351) kX7 0 (le_b rfl) lk_X7_7 rfl dX7_taking_351 (by first | assumption | exact hU_self _ _ _ | (refine (hU_ne (by omega)).trans ?_; first | assumption | exact hU_self _ _ _ | (refine (hU_ne (by omega)).trans ?_; first | assumption | exact hU_self _ _ _ | (refine (hU_ne (by omega)).trans ?_; first | assumption | exact hU_self _ _ _)))) (by exact rfl) ?_
      refine qV_iconst (pc := 354) dX7_taking_354 ?_
      refine qV_ialdN (pc := 355) (2) dX7_taking_355 (by first | assumption | exact hU_self _ _ _ | (refine (hU_ne (by omega)).trans ?_; first | assumption | exact hU_self _ _ _ | (refine (hU_ne (by omega)).trans ?_; first | assumption | exact hU_self _ _ _ | (refine (hU_ne (by omega)).trans ?_; first | assumption | exact hU_self _ _ _)))) (by omega) (by omega) s2 ?_
      refine qV_iload_n (pc := 356) 1 dX7_taking_356 rfl rfl ?_
      refine qV_iload_n (pc := 357) 2 dX7_taking_357 rfl rfl ?_
      refine qV_rdS (pc := 358) (m_goes hrd hx hk) nX7_goes lk_X7_50 dX7_taking_358 ⟨le_b rfl, le_b rfl⟩ ⟨le_b rfl, le_b rfl⟩ rfl (le_b rfl) ?_
      refine qV_iastM (pc := 361) (2) dX7_taking_361 (by omega) (by omega) ?_
      refine qV_vret (pc := 362) dX7_taking_362 rfl (le_b rfl) (le_b rfl) ?_
      refine ⟨rfl, ⟨_, rfl, (va_up_ne _ _ (by omega)).trans s0, (va_up_ne _ _ (by omega)).trans s1, ?_, fun j hj => (va_up_ne _ _ (by omega)).trans (sT j hj), fun j hj => (va_up_ne _ _ (by omega)).trans (sC j hj), fun j hj => ?_⟩, rfl⟩
      · rw [va_up_self]
      · rw [va_up_ne _ _ (by omega), sM j hj]; simp only []; rw [if_pos hj]
    · exfalso; omega
  | succ m ih =>
    intro i q g x3 y4 x6 x7 hm hi hq hS
    obtain ⟨s0, s1, s2, sT, sC, sM⟩ := hS
    have b := hm0 i (by omega)
    have e1 : g (515 + i) = m0 i := by rw [sM i (by omega)]; simp only []; rw [if_neg (by omega)]
    refine qV_iload (pc := 312) 5 dX7_taking_312 rfl ?_
    refine qV_sipush (pc := 314) dX7_taking_314 rfl ?_
    refine qV_icmp_ge (pc := 317) 345 dX7_taking_317 (by decide) ⟨by omega, by omega⟩ ⟨by omega, by omega⟩ (fun c317 => ?_) (fun c317 => ?_)
    · exfalso; omega
    · refine qV_aload_n (pc := 320) 0 dX7_taking_320 rfl rfl ?_
      refine qV_get (pc := 321) kX7 0 (le_b rfl) lk_X7_7 rfl dX7_taking_321 (by first | assumption | exact hU_self _ _ _ | (refine (hU_ne (by omega)).trans ?_; first | assumption | exact hU_self _ _ _ | (refine (hU_ne (by omega)).trans ?_; first | assumption | exact hU_self _ _ _ | (refine (hU_ne (by omega)).trans ?_; first | assumption | exact hU_self _ _ _)))) (by exact rfl) ?_
      refine qV_iload (pc := 324) 5 dX7_taking_324 rfl ?_
      refine qV_aload_n (pc := 326) 0 dX7_taking_326 rfl rfl ?_
      refine qV_get (pc := 327) kX7 0 (le_b rfl) lk_X7_7 rfl dX7_taking_327 (by first | assumption | exact hU_self _ _ _ | (refine (hU_ne (by omega)).trans ?_; first | assumption | exact hU_self _ _ _ | (refine (hU_ne (by omega)).trans ?_; first | assumption | exact hU_self _ _ _ | (refine (hU_ne (by omega)).trans ?_; first | assumption | exact hU_self _ _ _)))) (by exact rfl) ?_
      refine qV_iload (pc := 330) 5 dX7_taking_330 rfl ?_
      refine qV_ialdN (pc := 332) (515 + i) dX7_taking_332 (by first | assumption | exact hU_self _ _ _ | (refine (hU_ne (by omega)).trans ?_; first | assumption | exact hU_self _ _ _ | (refine (hU_ne (by omega)).trans ?_; first | assumption | exact hU_self _ _ _ | (refine (hU_ne (by omega)).trans ?_; first | assumption | exact hU_self _ _ _)))) (by omega) (by omega) e1 ?_
      refine qV_iload_n (pc := 333) 1 dX7_taking_333 rfl rfl ?_
      refine qV_iload_n (pc := 334) 2 dX7_taking_334 rfl rfl ?_
      refine qV_rdS (pc := 335) (m_goes b hx hk) nX7_goes lk_X7_50 dX7_taking_335 ⟨le_b rfl, le_b rfl⟩ ⟨le_b rfl, le_b rfl⟩ rfl (le_b rfl) ?_
      refine qV_iastM (pc := 338) (515 + i) dX7_taking_338 (by omega) (by omega) ?_
      refine qV_iinc (pc := 339) 5 dX7_taking_339 rfl (le_b rfl) (le_b rfl) rfl ?_
      refine qV_goto (pc := 342) 312 dX7_taking_342 (by decide) ?_
      refine ih (i + 1) _ _ _ _ _ _ (by omega) (by omega) (by omega) ⟨(va_up_ne _ _ (by omega)).trans s0, (va_up_ne _ _ (by omega)).trans s1, (va_up_ne _ _ (by omega)).trans s2, fun j hj => (va_up_ne _ _ (by omega)).trans (sT j hj), fun j hj => (va_up_ne _ _ (by omega)).trans (sC j hj), fun j hj => ?_⟩
      by_cases e : j = i
      · subst e
        rw [va_up_self]
        simp only []
        rw [if_pos (by omega)]
      · rw [va_up_ne _ _ (by omega), sM j hj]
        simp only []
        by_cases e2 : j < i
        · rw [if_pos e2, if_pos (by omega)]
        · rw [if_neg e2, if_neg (by omega)]
set_option maxRecDepth 100000 in
set_option maxHeartbeats 4000000 in
theorem mputs {n c : Nat} {T C m0 : Nat → Int} {x k rd : Int} (ho : h r = some (rob r kn ty st)) (hx : 0 ≤ x ∧ x ≤ 5000) (hk : 0 ≤ k ∧ k ≤ 5000) (hrd : -9 ≤ rd ∧ rd ≤ 5000) (hm0 : ∀ j, j < 26 → -9 ≤ m0 j ∧ m0 j ≤ 5000) (hn : n ≤ 216) (hcn : c ≤ 250) : ∀ (m i : Nat) (q : Int) (g : Nat → Int) (x2 x3 x5 x6 : Option Value) (y7 : Int), 26 - i = m → i ≤ 26 → q = 515 + (i : Int) → SPx g n T c C (fun j => if j < i then mvP (m0 j) x k else m0 j) rd → qVM l mX7_putting 0 0 h sz (fun v h' sz' => v = none ∧ (∃ g, h' = hM h r g ∧ SPx g n T c C (fun j => mvP (m0 j) x k) (mvP rd x k)) ∧ sz' = sz) 0 0 (hM h r g) sz 213 [some (.ref r), some (vI x), x2, x3, some (vI k), x5, x6, some (vI y7), some (vI q)] [] := by
  intro m
  induction m with
  | zero =>
    intro i q g x2 x3 x5 x6 y7 hm hi hq hS
    obtain rfl : i = 26 := by omega
    obtain ⟨s0, s1, s2, sT, sC, sM⟩ := hS
    refine qV_iload (pc := 213) 8 dX7_putting_213 rfl ?_
    refine qV_sipush (pc := 215) dX7_putting_215 rfl ?_
    refine qV_icmp_ge (pc := 218) 254 dX7_putting_218 (by decide) ⟨by omega, by omega⟩ ⟨by omega, by omega⟩ (fun c218 => ?_) (fun c218 => ?_)
    · refine qV_aload_n (pc := 254) 0 dX7_putting_254 rfl rfl ?_
      refine qV_get (pc := 255) kX7 0 (le_b rfl) lk_X7_7 rfl dX7_putting_255 (by first | assumption | exact hU_self _ _ _ | (refine (hU_ne (by omega)).trans ?_; first | assumption | exact hU_self _ _ _ | (refine (hU_ne (by omega)).trans ?_; first | assumption | exact hU_self _ _ _ | (refine (hU_ne (by omega)).trans ?_; first | assumption | exact hU_self _ _ _)))) (by exact rfl) ?_
      refine qV_iconst (pc := 258) dX7_putting_258 ?_
      refine qV_dup2 (pc := 259) dX7_putting_259 rfl rfl ?_
      refine qV_ialdN (pc := 260) (2) dX7_putting_260 (by first | assumption | exact hU_self _ _ _ | (refine (hU_ne (by omega)).trans ?_; first | assumption | exact hU_self _ _ _ | (refine (hU_ne (by omega)).trans ?_; first | assumption | exact hU_self _ _ _ | (refine (hU_ne (by omega)).trans ?_; first | assumption | exact hU_self _ _ _)))) (by omega) (by omega) s2 ?_
      refine qV_aload_n (pc := 261) 0 dX7_putting_261 rfl rfl ?_
      refine qV_get (pc := 262) kX7 0 (le_b rfl) lk_X7_7 rfl dX7_putting_262 (by first | assumption | exact hU_self _ _ _ | (refine (hU_ne (by omega)).trans ?_; first | assumption | exact hU_self _ _ _ | (refine (hU_ne (by omega)).trans ?_; first | assumption | exact hU_self _ _ _ | (refine (hU_ne (by omega)).trans ?_; first | assumption | exact hU_self _ _ _)))) (by exact rfl) ?_
      refine qV_iconst (pc := 265) dX7_putting_265 ?_
      refine qV_ialdN (pc := 266) (2) dX7_putting_266 (by first | assumption | exact hU_self _ _ _ | (refine (hU_ne (by omega)).trans ?_; first | assumption | exact hU_self _ _ _ | (refine (hU_ne (by omega)).trans ?_; first | assumption | exact hU_self _ _ _ | (refine (hU_ne (by omega)).trans ?_; first | assumption | exact hU_self _ _ _)))) (by omega) (by omega) s2 ?_
      refine qV_iload_n (pc := 267) 1 dX7_putting_267 rfl rfl ?_
      refine qV_icmp_le (pc := 268) 276 dX7_putting_268 (by decide) ⟨by omega, by omega⟩ ⟨by omega, by omega⟩ (fun c268 => ?_) (fun c268 => ?_)
      · have e9 : mvP rd x k = rd + 0 := by simp only [mvP]; rw [if_pos (by omega)]; omega
        refine qV_iconst (pc := 276) dX7_putting_276 ?_
        refine qV_iadd (pc := 277) dX7_putting_277 ?_
        refine qV_iastM (pc := 278) (2) dX7_putting_278 (by omega) (by omega) ?_
        refine qV_vret (pc := 279) dX7_putting_279 rfl (le_b rfl) (le_b rfl) ?_
        refine ⟨rfl, ⟨_, rfl, (va_up_ne _ _ (by omega)).trans s0, (va_up_ne _ _ (by omega)).trans s1, ?_, fun j hj => (va_up_ne _ _ (by omega)).trans (sT j hj), fun j hj => (va_up_ne _ _ (by omega)).trans (sC j hj), fun j hj => ?_⟩, rfl⟩
        · rw [va_up_self]; exact e9.symm
        · rw [va_up_ne _ _ (by omega), sM j hj]; simp only []; rw [if_pos hj]
      · have e9 : mvP rd x k = rd + k := by simp only [mvP]; rw [if_neg (by omega)]
        refine qV_iload (pc := 271) 4 dX7_putting_271 rfl ?_
        refine qV_goto (pc := 273) 277 dX7_putting_273 (by decide) ?_
        refine qV_iadd (pc := 277) dX7_putting_277 ?_
        refine qV_iastM (pc := 278) (2) dX7_putting_278 (by omega) (by omega) ?_
        refine qV_vret (pc := 279) dX7_putting_279 rfl (le_b rfl) (le_b rfl) ?_
        refine ⟨rfl, ⟨_, rfl, (va_up_ne _ _ (by omega)).trans s0, (va_up_ne _ _ (by omega)).trans s1, ?_, fun j hj => (va_up_ne _ _ (by omega)).trans (sT j hj), fun j hj => (va_up_ne _ _ (by omega)).trans (sC j hj), fun j hj => ?_⟩, rfl⟩
        · rw [va_up_self]; exact e9.symm
        · rw [va_up_ne _ _ (by omega), sM j hj]; simp only []; rw [if_pos hj]
    · exfalso; omega
  | succ m ih =>
    intro i q g x2 x3 x5 x6 y7 hm hi hq hS
    obtain ⟨s0, s1, s2, sT, sC, sM⟩ := hS
    have b := hm0 i (by omega)
    have e1 : g (515 + i) = m0 i := by rw [sM i (by omega)]; simp only []; rw [if_neg (by omega)]
    refine qV_iload (pc := 213) 8 dX7_putting_213 rfl ?_
    refine qV_sipush (pc := 215) dX7_putting_215 rfl ?_
    refine qV_icmp_ge (pc := 218) 254 dX7_putting_218 (by decide) ⟨by omega, by omega⟩ ⟨by omega, by omega⟩ (fun c218 => ?_) (fun c218 => ?_)
    · exfalso; omega
    · refine qV_aload_n (pc := 221) 0 dX7_putting_221 rfl rfl ?_
      refine qV_get (pc := 222) kX7 0 (le_b rfl) lk_X7_7 rfl dX7_putting_222 (by first | assumption | exact hU_self _ _ _ | (refine (hU_ne (by omega)).trans ?_; first | assumption | exact hU_self _ _ _ | (refine (hU_ne (by omega)).trans ?_; first | assumption | exact hU_self _ _ _ | (refine (hU_ne (by omega)).trans ?_; first | assumption | exact hU_self _ _ _)))) (by exact rfl) ?_
      refine qV_iload (pc := 225) 8 dX7_putting_225 rfl ?_
      refine qV_dup2 (pc := 227) dX7_putting_227 rfl rfl ?_
      refine qV_ialdN (pc := 228) (515 + i) dX7_putting_228 (by first | assumption | exact hU_self _ _ _ | (refine (hU_ne (by omega)).trans ?_; first | assumption | exact hU_self _ _ _ | (refine (hU_ne (by omega)).trans ?_; first | assumption | exact hU_self _ _ _ | (refine (hU_ne (by omega)).trans ?_; first | assumption | exact hU_self _ _ _)))) (by omega) (by omega) e1 ?_
      refine qV_aload_n (pc := 229) 0 dX7_putting_229 rfl rfl ?_
      refine qV_get (pc := 230) kX7 0 (le_b rfl) lk_X7_7 rfl dX7_putting_230 (by first | assumption | exact hU_self _ _ _ | (refine (hU_ne (by omega)).trans ?_; first | assumption | exact hU_self _ _ _ | (refine (hU_ne (by omega)).trans ?_; first | assumption | exact hU_self _ _ _ | (refine (hU_ne (by omega)).trans ?_; first | assumption | exact hU_self _ _ _)))) (by exact rfl) ?_
      refine qV_iload (pc := 233) 8 dX7_putting_233 rfl ?_
      refine qV_ialdN (pc := 235) (515 + i) dX7_putting_235 (by first | assumption | exact hU_self _ _ _ | (refine (hU_ne (by omega)).trans ?_; first | assumption | exact hU_self _ _ _ | (refine (hU_ne (by omega)).trans ?_; first | assumption | exact hU_self _ _ _ | (refine (hU_ne (by omega)).trans ?_; first | assumption | exact hU_self _ _ _)))) (by omega) (by omega) e1 ?_
      refine qV_iload_n (pc := 236) 1 dX7_putting_236 rfl rfl ?_
      refine qV_icmp_le (pc := 237) 245 dX7_putting_237 (by decide) ⟨by omega, by omega⟩ ⟨by omega, by omega⟩ (fun c237 => ?_) (fun c237 => ?_)
      · have e9 : mvP (m0 i) x k = m0 i + 0 := by simp only [mvP]; rw [if_pos (by omega)]; omega
        refine qV_iconst (pc := 245) dX7_putting_245 ?_
        refine qV_iadd (pc := 246) dX7_putting_246 ?_
        refine qV_iastM (pc := 247) (515 + i) dX7_putting_247 (by omega) (by omega) ?_
        refine qV_iinc (pc := 248) 8 dX7_putting_248 rfl (le_b rfl) (le_b rfl) rfl ?_
        refine qV_goto (pc := 251) 213 dX7_putting_251 (by decide) ?_
        refine ih (i + 1) _ _ _ _ _ _ _ (by omega) (by omega) (by omega) ⟨(va_up_ne _ _ (by omega)).trans s0, (va_up_ne _ _ (by omega)).trans s1, (va_up_ne _ _ (by omega)).trans s2, fun j hj => (va_up_ne _ _ (by omega)).trans (sT j hj), fun j hj => (va_up_ne _ _ (by omega)).trans (sC j hj), fun j hj => ?_⟩
        by_cases e : j = i
        · subst e
          rw [va_up_self]
          simp only []
          rw [if_pos (by omega)]
          exact e9.symm
        · rw [va_up_ne _ _ (by omega), sM j hj]
          simp only []
          by_cases e2 : j < i
          · rw [if_pos e2, if_pos (by omega)]
          · rw [if_neg e2, if_neg (by omega)]
      · have e9 : mvP (m0 i) x k = m0 i + k := by simp only [mvP]; rw [if_neg (by omega)]
        refine qV_iload (pc := 240) 4 dX7_putting_240 rfl ?_
        refine qV_goto (pc := 242) 246 dX7_putting_242 (by decide) ?_
        refine qV_iadd (pc := 246) dX7_putting_246 ?_
        refine qV_iastM (pc := 247) (515 + i) dX7_putting_247 (by omega) (by omega) ?_
        refine qV_iinc (pc := 248) 8 dX7_putting_248 rfl (le_b rfl) (le_b rfl) rfl ?_
        refine qV_goto (pc := 251) 213 dX7_putting_251 (by decide) ?_
        refine ih (i + 1) _ _ _ _ _ _ _ (by omega) (by omega) (by omega) ⟨(va_up_ne _ _ (by omega)).trans s0, (va_up_ne _ _ (by omega)).trans s1, (va_up_ne _ _ (by omega)).trans s2, fun j hj => (va_up_ne _ _ (by omega)).trans (sT j hj), fun j hj => (va_up_ne _ _ (by omega)).trans (sC j hj), fun j hj => ?_⟩
        by_cases e : j = i
        · subst e
          rw [va_up_self]
          simp only []
          rw [if_pos (by omega)]
          exact e9.symm
        · rw [va_up_ne _ _ (by omega), sM j hj]
          simp only []
          by_cases e2 : j < i
          · rw [if_pos e2, if_pos (by omega)]
          · rw [if_neg e2, if_neg (by omega)]
set_option maxRecDepth 100000 in
set_option maxHeartbeats 4000000 in
theorem take1 {c i k : Nat} {C s : Nat → Int} {Q : Option Value → qH → Nat → Prop} (ho : h r = some (rob r kn ty st)) (hi : i ≤ 5000) (hk : k ≤ 5000) (hc : c ≤ 216) (hC : ∀ j, j < c → 0 ≤ C j) (hcs : csum C c ≤ 5000) (s1 : s 1 = c)
    (kk : ∀ (g : Nat → Int) (b q : Int) (x5 x6 x7 : Option Value), (∀ t, t < c → g (259 + t) = stay C i k t) → (∀ q, (q < 259 ∨ 515 ≤ q) → g q = s q) → qVM l mX7_taking 0 0 h sz Q 0 0 (hM h r g) sz 100 [some (.ref r), some (vI i), some (vI k), some (vI (b)), some (vI q), x5, x6, x7] []) :
    ∀ (m j : Nat) (q : Int) (g : Nat → Int) (x5 x6 x7 : Option Value), c - j = m → j ≤ c → q = j → (∀ t, t < j → g (259 + t) = stay C i k t) → (∀ t, j ≤ t → t < c → g (259 + t) = C t) → (∀ q, (q < 259 ∨ 515 ≤ q) → g q = s q) → qVM l mX7_taking 0 0 h sz Q 0 0 (hM h r g) sz 5 [some (.ref r), some (vI i), some (vI k), some (vI (csum C j)), some (vI q), x5, x6, x7] [] := by
  intro m
  induction m with
  | zero =>
    intro j q g x5 x6 x7 hm hj hq g1 g2 g3
    obtain rfl : j = c := by omega
    have e1 : g 1 = j := (g3 1 (by omega)).trans s1
    refine qV_iload (pc := 5) 4 dX7_taking_5 rfl ?_
    refine qV_aload_n (pc := 7) 0 dX7_taking_7 rfl rfl ?_
    refine qV_get (pc := 8) kX7 0 (le_b rfl) lk_X7_7 rfl dX7_taking_8 (by first | assumption | exact hU_self _ _ _ | (refine (hU_ne (by omega)).trans ?_; first | assumption | exact hU_self _ _ _ | (refine (hU_ne (by omega)).trans ?_; first | assumption | exact hU_self _ _ _ | (refine (hU_ne (by omega)).trans ?_; first | assumption | exact hU_self _ _ _)))) (by exact rfl) ?_
    refine qV_iconst (pc := 11) dX7_taking_11 ?_
    refine qV_ialdN (pc := 12) (1) dX7_taking_12 (by first | assumption | exact hU_self _ _ _ | (refine (hU_ne (by omega)).trans ?_; first | assumption | exact hU_self _ _ _ | (refine (hU_ne (by omega)).trans ?_; first | assumption | exact hU_self _ _ _ | (refine (hU_ne (by omega)).trans ?_; first | assumption | exact hU_self _ _ _)))) (by omega) (by omega) e1 ?_
    refine qV_icmp_ge (pc := 13) 100 dX7_taking_13 (by decide) ⟨by omega, by omega⟩ ⟨by omega, by omega⟩ (fun c13 => ?_) (fun c13 => ?_)
    · exact kk g _ _ _ _ _ g1 g3
    · exfalso; omega
  | succ m ih =>
    intro j q g x5 x6 x7 hm hj hq g1 g2 g3
    have e1 : g 1 = c := (g3 1 (by omega)).trans s1
    have e2 := g2 j (Nat.le_refl j) (by omega)
    have t1 := csum_mono hC (a := j + 1) (b := c) (by omega) (Nat.le_refl c)
    have t2 := csum_nn hC (b := j) (by omega)
    have t3 := csum_succ C j
    have t4 := hC j (by omega)
    refine qV_iload (pc := 5) 4 dX7_taking_5 rfl ?_
    refine qV_aload_n (pc := 7) 0 dX7_taking_7 rfl rfl ?_
    refine qV_get (pc := 8) kX7 0 (le_b rfl) lk_X7_7 rfl dX7_taking_8 (by first | assumption | exact hU_self _ _ _ | (refine (hU_ne (by omega)).trans ?_; first | assumption | exact hU_self _ _ _ | (refine (hU_ne (by omega)).trans ?_; first | assumption | exact hU_self _ _ _ | (refine (hU_ne (by omega)).trans ?_; first | assumption | exact hU_self _ _ _)))) (by exact rfl) ?_
    refine qV_iconst (pc := 11) dX7_taking_11 ?_
    refine qV_ialdN (pc := 12) (1) dX7_taking_12 (by first | assumption | exact hU_self _ _ _ | (refine (hU_ne (by omega)).trans ?_; first | assumption | exact hU_self _ _ _ | (refine (hU_ne (by omega)).trans ?_; first | assumption | exact hU_self _ _ _ | (refine (hU_ne (by omega)).trans ?_; first | assumption | exact hU_self _ _ _)))) (by omega) (by omega) e1 ?_
    refine qV_icmp_ge (pc := 13) 100 dX7_taking_13 (by decide) ⟨by omega, by omega⟩ ⟨by omega, by omega⟩ (fun c13 => ?_) (fun c13 => ?_)
    · exfalso; omega
    · refine qV_iload_n (pc := 16) 3 dX7_taking_16 rfl rfl ?_
      refine qV_aload_n (pc := 17) 0 dX7_taking_17 rfl rfl ?_
      refine qV_get (pc := 18) kX7 0 (le_b rfl) lk_X7_7 rfl dX7_taking_18 (by first | assumption | exact hU_self _ _ _ | (refine (hU_ne (by omega)).trans ?_; first | assumption | exact hU_self _ _ _ | (refine (hU_ne (by omega)).trans ?_; first | assumption | exact hU_self _ _ _ | (refine (hU_ne (by omega)).trans ?_; first | assumption | exact hU_self _ _ _)))) (by exact rfl) ?_
      refine qV_sipush (pc := 21) dX7_taking_21 rfl ?_
      refine qV_iload (pc := 24) 4 dX7_taking_24 rfl ?_
      refine qV_iadd (pc := 26) dX7_taking_26 ?_
      refine qV_ialdN (pc := 27) (259 + j) dX7_taking_27 (by first | assumption | exact hU_self _ _ _ | (refine (hU_ne (by omega)).trans ?_; first | assumption | exact hU_self _ _ _ | (refine (hU_ne (by omega)).trans ?_; first | assumption | exact hU_self _ _ _ | (refine (hU_ne (by omega)).trans ?_; first | assumption | exact hU_self _ _ _)))) (by omega) (by omega) e2 ?_
      refine qV_iadd (pc := 28) dX7_taking_28 ?_
      refine qV_istore (pc := 29) 5 dX7_taking_29 (le_b rfl) (le_b rfl) rfl ?_
      refine qV_iload_n (pc := 31) 3 dX7_taking_31 rfl rfl ?_
      refine qV_iload_n (pc := 32) 1 dX7_taking_32 rfl rfl ?_
      refine qV_icmp_le (pc := 33) 40 dX7_taking_33 (by decide) ⟨by omega, by omega⟩ ⟨by omega, by omega⟩ (fun c33 => ?_) (fun c33 => ?_)
      · refine qV_iload_n (pc := 40) 1 dX7_taking_40 rfl rfl ?_
        refine qV_istore (pc := 41) 6 dX7_taking_41 (le_b rfl) (le_b rfl) rfl ?_
        refine qV_iload (pc := 43) 5 dX7_taking_43 rfl ?_
        refine qV_iload_n (pc := 45) 1 dX7_taking_45 rfl rfl ?_
        refine qV_iload_n (pc := 46) 2 dX7_taking_46 rfl rfl ?_
        refine qV_iadd (pc := 47) dX7_taking_47 ?_
        refine qV_icmp_ge (pc := 48) 56 dX7_taking_48 (by decide) ⟨by omega, by omega⟩ ⟨by omega, by omega⟩ (fun c48 => ?_) (fun c48 => ?_)
        · refine qV_iload_n (pc := 56) 1 dX7_taking_56 rfl rfl ?_
          refine qV_iload_n (pc := 57) 2 dX7_taking_57 rfl rfl ?_
          refine qV_iadd (pc := 58) dX7_taking_58 ?_
          refine qV_istore (pc := 59) 7 dX7_taking_59 (le_b rfl) (le_b rfl) rfl ?_
          refine qV_aload_n (pc := 61) 0 dX7_taking_61 rfl rfl ?_
          refine qV_get (pc := 62) kX7 0 (le_b rfl) lk_X7_7 rfl dX7_taking_62 (by first | assumption | exact hU_self _ _ _ | (refine (hU_ne (by omega)).trans ?_; first | assumption | exact hU_self _ _ _ | (refine (hU_ne (by omega)).trans ?_; first | assumption | exact hU_self _ _ _ | (refine (hU_ne (by omega)).trans ?_; first | assumption | exact hU_self _ _ _)))) (by exact rfl) ?_
          refine qV_sipush (pc := 65) dX7_taking_65 rfl ?_
          refine qV_iload (pc := 68) 4 dX7_taking_68 rfl ?_
          refine qV_iadd (pc := 70) dX7_taking_70 ?_
          refine qV_dup2 (pc := 71) dX7_taking_71 rfl rfl ?_
          refine qV_ialdN (pc := 72) (259 + j) dX7_taking_72 (by first | assumption | exact hU_self _ _ _ | (refine (hU_ne (by omega)).trans ?_; first | assumption | exact hU_self _ _ _ | (refine (hU_ne (by omega)).trans ?_; first | assumption | exact hU_self _ _ _ | (refine (hU_ne (by omega)).trans ?_; first | assumption | exact hU_self _ _ _)))) (by omega) (by omega) e2 ?_
          refine qV_iload (pc := 73) 7 dX7_taking_73 rfl ?_
          refine qV_iload (pc := 75) 6 dX7_taking_75 rfl ?_
          refine qV_icmp_le (pc := 77) 88 dX7_taking_77 (by decide) ⟨by omega, by omega⟩ ⟨by omega, by omega⟩ (fun c77 => ?_) (fun c77 => ?_)
          · refine qV_iconst (pc := 88) dX7_taking_88 ?_
            refine qV_isub (pc := 89) dX7_taking_89 ?_
            refine qV_iastM (pc := 90) (259 + j) dX7_taking_90 (by omega) (by omega) ?_
            refine qV_iload (pc := 91) 5 dX7_taking_91 rfl ?_
            refine qV_istore_n (pc := 93) 3 dX7_taking_93 rfl (le_b rfl) (le_b rfl) rfl ?_
            refine qV_iinc (pc := 94) 4 dX7_taking_94 rfl (le_b rfl) (le_b rfl) rfl ?_
            refine qV_goto (pc := 97) 5 dX7_taking_97 (by decide) ?_
            refine ih (j + 1) _ _ _ _ _ (by omega) (by omega) (by omega) (fun t ht => ?_) (fun t ht ht2 => ?_) (fun q hq2 => ?_)
            · by_cases e : t = j
              · subst e; rw [va_up_self]; simp only [stay]; omega
              · rw [va_up_ne _ _ (by omega)]; exact g1 t (by omega)
            · rw [va_up_ne _ _ (by omega)]; exact g2 t (by omega) ht2
            · rw [va_up_ne _ _ (by omega)]; exact g3 q hq2
          · refine qV_iload (pc := 80) 7 dX7_taking_80 rfl ?_
            refine qV_iload (pc := 82) 6 dX7_taking_82 rfl ?_
            refine qV_isub (pc := 84) dX7_taking_84 ?_
            refine qV_goto (pc := 85) 89 dX7_taking_85 (by decide) ?_
            refine qV_isub (pc := 89) dX7_taking_89 ?_
            refine qV_iastM (pc := 90) (259 + j) dX7_taking_90 (by omega) (by omega) ?_
            refine qV_iload (pc := 91) 5 dX7_taking_91 rfl ?_
            refine qV_istore_n (pc := 93) 3 dX7_taking_93 rfl (le_b rfl) (le_b rfl) rfl ?_
            refine qV_iinc (pc := 94) 4 dX7_taking_94 rfl (le_b rfl) (le_b rfl) rfl ?_
            refine qV_goto (pc := 97) 5 dX7_taking_97 (by decide) ?_
            refine ih (j + 1) _ _ _ _ _ (by omega) (by omega) (by omega) (fun t ht => ?_) (fun t ht ht2 => ?_) (fun q hq2 => ?_)
            · by_cases e : t = j
              · subst e; rw [va_up_self]; simp only [stay]; omega
              · rw [va_up_ne _ _ (by omega)]; exact g1 t (by omega)
            · rw [va_up_ne _ _ (by omega)]; exact g2 t (by omega) ht2
            · rw [va_up_ne _ _ (by omega)]; exact g3 q hq2
        · refine qV_iload (pc := 51) 5 dX7_taking_51 rfl ?_
          refine qV_goto (pc := 53) 59 dX7_taking_53 (by decide) ?_
          refine qV_istore (pc := 59) 7 dX7_taking_59 (le_b rfl) (le_b rfl) rfl ?_
          refine qV_aload_n (pc := 61) 0 dX7_taking_61 rfl rfl ?_
          refine qV_get (pc := 62) kX7 0 (le_b rfl) lk_X7_7 rfl dX7_taking_62 (by first | assumption | exact hU_self _ _ _ | (refine (hU_ne (by omega)).trans ?_; first | assumption | exact hU_self _ _ _ | (refine (hU_ne (by omega)).trans ?_; first | assumption | exact hU_self _ _ _ | (refine (hU_ne (by omega)).trans ?_; first | assumption | exact hU_self _ _ _)))) (by exact rfl) ?_
          refine qV_sipush (pc := 65) dX7_taking_65 rfl ?_
          refine qV_iload (pc := 68) 4 dX7_taking_68 rfl ?_
          refine qV_iadd (pc := 70) dX7_taking_70 ?_
          refine qV_dup2 (pc := 71) dX7_taking_71 rfl rfl ?_
          refine qV_ialdN (pc := 72) (259 + j) dX7_taking_72 (by first | assumption | exact hU_self _ _ _ | (refine (hU_ne (by omega)).trans ?_; first | assumption | exact hU_self _ _ _ | (refine (hU_ne (by omega)).trans ?_; first | assumption | exact hU_self _ _ _ | (refine (hU_ne (by omega)).trans ?_; first | assumption | exact hU_self _ _ _)))) (by omega) (by omega) e2 ?_
          refine qV_iload (pc := 73) 7 dX7_taking_73 rfl ?_
          refine qV_iload (pc := 75) 6 dX7_taking_75 rfl ?_
          refine qV_icmp_le (pc := 77) 88 dX7_taking_77 (by decide) ⟨by omega, by omega⟩ ⟨by omega, by omega⟩ (fun c77 => ?_) (fun c77 => ?_)
          · refine qV_iconst (pc := 88) dX7_taking_88 ?_
            refine qV_isub (pc := 89) dX7_taking_89 ?_
            refine qV_iastM (pc := 90) (259 + j) dX7_taking_90 (by omega) (by omega) ?_
            refine qV_iload (pc := 91) 5 dX7_taking_91 rfl ?_
            refine qV_istore_n (pc := 93) 3 dX7_taking_93 rfl (le_b rfl) (le_b rfl) rfl ?_
            refine qV_iinc (pc := 94) 4 dX7_taking_94 rfl (le_b rfl) (le_b rfl) rfl ?_
            refine qV_goto (pc := 97) 5 dX7_taking_97 (by decide) ?_
            refine ih (j + 1) _ _ _ _ _ (by omega) (by omega) (by omega) (fun t ht => ?_) (fun t ht ht2 => ?_) (fun q hq2 => ?_)
            · by_cases e : t = j
              · subst e; rw [va_up_self]; simp only [stay]; omega
              · rw [va_up_ne _ _ (by omega)]; exact g1 t (by omega)
            · rw [va_up_ne _ _ (by omega)]; exact g2 t (by omega) ht2
            · rw [va_up_ne _ _ (by omega)]; exact g3 q hq2
          · refine qV_iload (pc := 80) 7 dX7_taking_80 rfl ?_
            refine qV_iload (pc := 82) 6 dX7_taking_82 rfl ?_
            refine qV_isub (pc := 84) dX7_taking_84 ?_
            refine qV_goto (pc := 85) 89 dX7_taking_85 (by decide) ?_
            refine qV_isub (pc := 89) dX7_taking_89 ?_
            refine qV_iastM (pc := 90) (259 + j) dX7_taking_90 (by omega) (by omega) ?_
            refine qV_iload (pc := 91) 5 dX7_taking_91 rfl ?_
            refine qV_istore_n (pc := 93) 3 dX7_taking_93 rfl (le_b rfl) (le_b rfl) rfl ?_
            refine qV_iinc (pc := 94) 4 dX7_taking_94 rfl (le_b rfl) (le_b rfl) rfl ?_
            refine qV_goto (pc := 97) 5 dX7_taking_97 (by decide) ?_
            refine ih (j + 1) _ _ _ _ _ (by omega) (by omega) (by omega) (fun t ht => ?_) (fun t ht ht2 => ?_) (fun q hq2 => ?_)
            · by_cases e : t = j
              · subst e; rw [va_up_self]; simp only [stay]; omega
              · rw [va_up_ne _ _ (by omega)]; exact g1 t (by omega)
            · rw [va_up_ne _ _ (by omega)]; exact g2 t (by omega) ht2
            · rw [va_up_ne _ _ (by omega)]; exact g3 q hq2
      · refine qV_iload_n (pc := 36) 3 dX7_taking_36 rfl rfl ?_
        refine qV_goto (pc := 37) 41 dX7_taking_37 (by decide) ?_
        refine qV_istore (pc := 41) 6 dX7_taking_41 (le_b rfl) (le_b rfl) rfl ?_
        refine qV_iload (pc := 43) 5 dX7_taking_43 rfl ?_
        refine qV_iload_n (pc := 45) 1 dX7_taking_45 rfl rfl ?_
        refine qV_iload_n (pc := 46) 2 dX7_taking_46 rfl rfl ?_
        refine qV_iadd (pc := 47) dX7_taking_47 ?_
        refine qV_icmp_ge (pc := 48) 56 dX7_taking_48 (by decide) ⟨by omega, by omega⟩ ⟨by omega, by omega⟩ (fun c48 => ?_) (fun c48 => ?_)
        · refine qV_iload_n (pc := 56) 1 dX7_taking_56 rfl rfl ?_
          refine qV_iload_n (pc := 57) 2 dX7_taking_57 rfl rfl ?_
          refine qV_iadd (pc := 58) dX7_taking_58 ?_
          refine qV_istore (pc := 59) 7 dX7_taking_59 (le_b rfl) (le_b rfl) rfl ?_
          refine qV_aload_n (pc := 61) 0 dX7_taking_61 rfl rfl ?_
          refine qV_get (pc := 62) kX7 0 (le_b rfl) lk_X7_7 rfl dX7_taking_62 (by first | assumption | exact hU_self _ _ _ | (refine (hU_ne (by omega)).trans ?_; first | assumption | exact hU_self _ _ _ | (refine (hU_ne (by omega)).trans ?_; first | assumption | exact hU_self _ _ _ | (refine (hU_ne (by omega)).trans ?_; first | assumption | exact hU_self _ _ _)))) (by exact rfl) ?_
          refine qV_sipush (pc := 65) dX7_taking_65 rfl ?_
          refine qV_iload (pc := 68) 4 dX7_taking_68 rfl ?_
          refine qV_iadd (pc := 70) dX7_taking_70 ?_
          refine qV_dup2 (pc := 71) dX7_taking_71 rfl rfl ?_
          refine qV_ialdN (pc := 72) (259 + j) dX7_taking_72 (by first | assumption | exact hU_self _ _ _ | (refine (hU_ne (by omega)).trans ?_; first | assumption | exact hU_self _ _ _ | (refine (hU_ne (by omega)).trans ?_; first | assumption | exact hU_self _ _ _ | (refine (hU_ne (by omega)).trans ?_; first | assumption | exact hU_self _ _ _)))) (by omega) (by omega) e2 ?_
          refine qV_iload (pc := 73) 7 dX7_taking_73 rfl ?_
          refine qV_iload (pc := 75) 6 dX7_taking_75 rfl ?_
          refine qV_icmp_le (pc := 77) 88 dX7_taking_77 (by decide) ⟨by omega, by omega⟩ ⟨by omega, by omega⟩ (fun c77 => ?_) (fun c77 => ?_)
          · refine qV_iconst (pc := 88) dX7_taking_88 ?_
            refine qV_isub (pc := 89) dX7_taking_89 ?_
            refine qV_iastM (pc := 90) (259 + j) dX7_taking_90 (by omega) (by omega) ?_
            refine qV_iload (pc := 91) 5 dX7_taking_91 rfl ?_
            refine qV_istore_n (pc := 93) 3 dX7_taking_93 rfl (le_b rfl) (le_b rfl) rfl ?_
            refine qV_iinc (pc := 94) 4 dX7_taking_94 rfl (le_b rfl) (le_b rfl) rfl ?_
            refine qV_goto (pc := 97) 5 dX7_taking_97 (by decide) ?_
            refine ih (j + 1) _ _ _ _ _ (by omega) (by omega) (by omega) (fun t ht => ?_) (fun t ht ht2 => ?_) (fun q hq2 => ?_)
            · by_cases e : t = j
              · subst e; rw [va_up_self]; simp only [stay]; omega
              · rw [va_up_ne _ _ (by omega)]; exact g1 t (by omega)
            · rw [va_up_ne _ _ (by omega)]; exact g2 t (by omega) ht2
            · rw [va_up_ne _ _ (by omega)]; exact g3 q hq2
          · refine qV_iload (pc := 80) 7 dX7_taking_80 rfl ?_
            refine qV_iload (pc := 82) 6 dX7_taking_82 rfl ?_
            refine qV_isub (pc := 84) dX7_taking_84 ?_
            refine qV_goto (pc := 85) 89 dX7_taking_85 (by decide) ?_
            refine qV_isub (pc := 89) dX7_taking_89 ?_
            refine qV_iastM (pc := 90) (259 + j) dX7_taking_90 (by omega) (by omega) ?_
            refine qV_iload (pc := 91) 5 dX7_taking_91 rfl ?_
            refine qV_istore_n (pc := 93) 3 dX7_taking_93 rfl (le_b rfl) (le_b rfl) rfl ?_
            refine qV_iinc (pc := 94) 4 dX7_taking_94 rfl (le_b rfl) (le_b rfl) rfl ?_
            refine qV_goto (pc := 97) 5 dX7_taking_97 (by decide) ?_
            refine ih (j + 1) _ _ _ _ _ (by omega) (by omega) (by omega) (fun t ht => ?_) (fun t ht ht2 => ?_) (fun q hq2 => ?_)
            · by_cases e : t = j
              · subst e; rw [va_up_self]; simp only [stay]; omega
              · rw [va_up_ne _ _ (by omega)]; exact g1 t (by omega)
            · rw [va_up_ne _ _ (by omega)]; exact g2 t (by omega) ht2
            · rw [va_up_ne _ _ (by omega)]; exact g3 q hq2
        · refine qV_iload (pc := 51) 5 dX7_taking_51 rfl ?_
          refine qV_goto (pc := 53) 59 dX7_taking_53 (by decide) ?_
          refine qV_istore (pc := 59) 7 dX7_taking_59 (le_b rfl) (le_b rfl) rfl ?_
          refine qV_aload_n (pc := 61) 0 dX7_taking_61 rfl rfl ?_
          refine qV_get (pc := 62) kX7 0 (le_b rfl) lk_X7_7 rfl dX7_taking_62 (by first | assumption | exact hU_self _ _ _ | (refine (hU_ne (by omega)).trans ?_; first | assumption | exact hU_self _ _ _ | (refine (hU_ne (by omega)).trans ?_; first | assumption | exact hU_self _ _ _ | (refine (hU_ne (by omega)).trans ?_; first | assumption | exact hU_self _ _ _)))) (by exact rfl) ?_
          refine qV_sipush (pc := 65) dX7_taking_65 rfl ?_
          refine qV_iload (pc := 68) 4 dX7_taking_68 rfl ?_
          refine qV_iadd (pc := 70) dX7_taking_70 ?_
          refine qV_dup2 (pc := 71) dX7_taking_71 rfl rfl ?_
          refine qV_ialdN (pc := 72) (259 + j) dX7_taking_72 (by first | assumption | exact hU_self _ _ _ | (refine (hU_ne (by omega)).trans ?_; first | assumption | exact hU_self _ _ _ | (refine (hU_ne (by omega)).trans ?_; first | assumption | exact hU_self _ _ _ | (refine (hU_ne (by omega)).trans ?_; first | assumption | exact hU_self _ _ _)))) (by omega) (by omega) e2 ?_
          refine qV_iload (pc := 73) 7 dX7_taking_73 rfl ?_
          refine qV_iload (pc := 75) 6 dX7_taking_75 rfl ?_
          refine qV_icmp_le (pc := 77) 88 dX7_taking_77 (by decide) ⟨by omega, by omega⟩ ⟨by omega, by omega⟩ (fun c77 => ?_) (fun c77 => ?_)
          · refine qV_iconst (pc := 88) dX7_taking_88 ?_
            refine qV_isub (pc := 89) dX7_taking_89 ?_
            refine qV_iastM (pc := 90) (259 + j) dX7_taking_90 (by omega) (by omega) ?_
            refine qV_iload (pc := 91) 5 dX7_taking_91 rfl ?_
            refine qV_istore_n (pc := 93) 3 dX7_taking_93 rfl (le_b rfl) (le_b rfl) rfl ?_
            refine qV_iinc (pc := 94) 4 dX7_taking_94 rfl (le_b rfl) (le_b rfl) rfl ?_
            refine qV_goto (pc := 97) 5 dX7_taking_97 (by decide) ?_
            refine ih (j + 1) _ _ _ _ _ (by omega) (by omega) (by omega) (fun t ht => ?_) (fun t ht ht2 => ?_) (fun q hq2 => ?_)
            · by_cases e : t = j
              · subst e; rw [va_up_self]; simp only [stay]; omega
              · rw [va_up_ne _ _ (by omega)]; exact g1 t (by omega)
            · rw [va_up_ne _ _ (by omega)]; exact g2 t (by omega) ht2
            · rw [va_up_ne _ _ (by omega)]; exact g3 q hq2
          · refine qV_iload (pc := 80) 7 dX7_taking_80 rfl ?_
            refine qV_iload (pc := 82) 6 dX7_taking_82 rfl ?_
            refine qV_isub (pc := 84) dX7_taking_84 ?_
            refine qV_goto (pc := 85) 89 dX7_taking_85 (by decide) ?_
            refine qV_isub (pc := 89) dX7_taking_89 ?_
            refine qV_iastM (pc := 90) (259 + j) dX7_taking_90 (by omega) (by omega) ?_
            refine qV_iload (pc := 91) 5 dX7_taking_91 rfl ?_
            refine qV_istore_n (pc := 93) 3 dX7_taking_93 rfl (le_b rfl) (le_b rfl) rfl ?_
            refine qV_iinc (pc := 94) 4 dX7_taking_94 rfl (le_b rfl) (le_b rfl) rfl ?_
            refine qV_goto (pc := 97) 5 dX7_taking_97 (by decide) ?_
            refine ih (j + 1) _ _ _ _ _ (by omega) (by omega) (by omega) (fun t ht => ?_) (fun t ht ht2 => ?_) (fun q hq2 => ?_)
            · by_cases e : t = j
              · subst e; rw [va_up_self]; simp only [stay]; omega
              · rw [va_up_ne _ _ (by omega)]; exact g1 t (by omega)
            · rw [va_up_ne _ _ (by omega)]; exact g2 t (by omega) ht2
            · rw [va_up_ne _ _ (by omega)]; exact g3 q hq2
set_option maxRecDepth 100000 in
set_option maxHeartbeats 4000000 in
theorem take2 {c i k : Nat} {S s : Nat → Int} {Q : Option Value → qH → Nat → Prop} (ho : h r = some (rob r kn ty st)) (hc : c ≤ 216) (hS : ∀ j, j < c → 0 ≤ S j ∧ S j ≤ 5000) (s1 : s 1 = c)
    (kk : ∀ (g : Nat → Int) (w q x3 : Int) (x6 x7 : Option Value), w = shN S c → (∀ t, t < shN S c → g (259 + t) = shF S c t) → (∀ q, (q < 259 ∨ 515 ≤ q) → g q = s q) → qVM l mX7_taking 0 0 h sz Q 0 0 (hM h r g) sz 162 [some (.ref r), some (vI i), some (vI k), some (vI x3), some (vI w), some (vI q), x6, x7] []) :
    ∀ (m j : Nat) (w q : Int) (g : Nat → Int) (x3 : Int) (x6 x7 : Option Value), c - j = m → j ≤ c → q = j → w = shN S j → (∀ t, t < shN S j → g (259 + t) = shF S j t) → (∀ t, j ≤ t → t < c → g (259 + t) = S t) → (∀ q, (q < 259 ∨ 515 ≤ q) → g q = s q) → qVM l mX7_taking 0 0 h sz Q 0 0 (hM h r g) sz 106 [some (.ref r), some (vI i), some (vI k), some (vI x3), some (vI w), some (vI q), x6, x7] [] := by
  intro m
  induction m with
  | zero =>
    intro j w q g x3 x6 x7 hm hj hq hw g1 g2 g3
    obtain rfl : j = c := by omega
    have e1 : g 1 = j := (g3 1 (by omega)).trans s1
    refine qV_iload (pc := 106) 5 dX7_taking_106 rfl ?_
    refine qV_aload_n (pc := 108) 0 dX7_taking_108 rfl rfl ?_
    refine qV_get (pc := 109) kX7 0 (le_b rfl) lk_X7_7 rfl dX7_taking_109 (by first | assumption | exact hU_self _ _ _ | (refine (hU_ne (by omega)).trans ?_; first | assumption | exact hU_self _ _ _ | (refine (hU_ne (by omega)).trans ?_; first | assumption | exact hU_self _ _ _ | (refine (hU_ne (by omega)).trans ?_; first | assumption | exact hU_self _ _ _)))) (by exact rfl) ?_
    refine qV_iconst (pc := 112) dX7_taking_112 ?_
    refine qV_ialdN (pc := 113) (1) dX7_taking_113 (by first | assumption | exact hU_self _ _ _ | (refine (hU_ne (by omega)).trans ?_; first | assumption | exact hU_self _ _ _ | (refine (hU_ne (by omega)).trans ?_; first | assumption | exact hU_self _ _ _ | (refine (hU_ne (by omega)).trans ?_; first | assumption | exact hU_self _ _ _)))) (by omega) (by omega) e1 ?_
    refine qV_icmp_ge (pc := 114) 162 dX7_taking_114 (by decide) ⟨by omega, by omega⟩ ⟨by omega, by omega⟩ (fun c114 => ?_) (fun c114 => ?_)
    · exact kk g _ _ _ _ _ hw g1 g3
    · exfalso; omega
  | succ m ih =>
    intro j w q g x3 x6 x7 hm hj hq hw g1 g2 g3
    have e1 : g 1 = c := (g3 1 (by omega)).trans s1
    have e2 := g2 j (Nat.le_refl j) (by omega)
    have hb := hS j (by omega)
    have hsl := shN_le S j
    refine qV_iload (pc := 106) 5 dX7_taking_106 rfl ?_
    refine qV_aload_n (pc := 108) 0 dX7_taking_108 rfl rfl ?_
    refine qV_get (pc := 109) kX7 0 (le_b rfl) lk_X7_7 rfl dX7_taking_109 (by first | assumption | exact hU_self _ _ _ | (refine (hU_ne (by omega)).trans ?_; first | assumption | exact hU_self _ _ _ | (refine (hU_ne (by omega)).trans ?_; first | assumption | exact hU_self _ _ _ | (refine (hU_ne (by omega)).trans ?_; first | assumption | exact hU_self _ _ _)))) (by exact rfl) ?_
    refine qV_iconst (pc := 112) dX7_taking_112 ?_
    refine qV_ialdN (pc := 113) (1) dX7_taking_113 (by first | assumption | exact hU_self _ _ _ | (refine (hU_ne (by omega)).trans ?_; first | assumption | exact hU_self _ _ _ | (refine (hU_ne (by omega)).trans ?_; first | assumption | exact hU_self _ _ _ | (refine (hU_ne (by omega)).trans ?_; first | assumption | exact hU_self _ _ _)))) (by omega) (by omega) e1 ?_
    refine qV_icmp_ge (pc := 114) 162 dX7_taking_114 (by decide) ⟨by omega, by omega⟩ ⟨by omega, by omega⟩ (fun c114 => ?_) (fun c114 => ?_)
    · exfalso; omega
    · refine qV_aload_n (pc := 117) 0 dX7_taking_117 rfl rfl ?_
      refine qV_get (pc := 118) kX7 0 (le_b rfl) lk_X7_7 rfl dX7_taking_118 (by first | assumption | exact hU_self _ _ _ | (refine (hU_ne (by omega)).trans ?_; first | assumption | exact hU_self _ _ _ | (refine (hU_ne (by omega)).trans ?_; first | assumption | exact hU_self _ _ _ | (refine (hU_ne (by omega)).trans ?_; first | assumption | exact hU_self _ _ _)))) (by exact rfl) ?_
      refine qV_sipush (pc := 121) dX7_taking_121 rfl ?_
      refine qV_iload (pc := 124) 5 dX7_taking_124 rfl ?_
      refine qV_iadd (pc := 126) dX7_taking_126 ?_
      refine qV_ialdN (pc := 127) (259 + j) dX7_taking_127 (by first | assumption | exact hU_self _ _ _ | (refine (hU_ne (by omega)).trans ?_; first | assumption | exact hU_self _ _ _ | (refine (hU_ne (by omega)).trans ?_; first | assumption | exact hU_self _ _ _ | (refine (hU_ne (by omega)).trans ?_; first | assumption | exact hU_self _ _ _)))) (by omega) (by omega) e2 ?_
      refine qV_ifle (pc := 128) 156 dX7_taking_128 (by decide) ⟨by omega, by omega⟩ (fun c128 => ?_) (fun c128 => ?_)
      · refine qV_iinc (pc := 156) 5 dX7_taking_156 rfl (le_b rfl) (le_b rfl) rfl ?_
        refine qV_goto (pc := 159) 106 dX7_taking_159 (by decide) ?_
        first
        | (refine ih (j + 1) _ _ _ _ _ _ (by omega) (by omega) (by omega) (by simp only [shN]; rw [if_neg (by omega)]; exact hw) (fun t ht => ?_) (fun t ht ht2 => g2 t (by omega) ht2) g3
           simp only [shN] at ht
           rw [if_neg (by omega)] at ht
           simp only [shF]
           rw [if_neg (by omega)]
           exact g1 t ht)
        | (refine ih (j + 1) _ _ _ _ _ _ (by omega) (by omega) (by omega) (by simp only [shN]; rw [if_pos (by omega)]; omega) (fun t ht => ?_) (fun t ht ht2 => ?_) (fun q hq2 => ?_)
           · simp only [shN] at ht
             rw [if_pos (by omega)] at ht
             simp only [shF]
             rw [if_pos (by omega)]
             by_cases e : t = shN S j
             · subst e; rw [va_up_self, va_up_self]
             · rw [va_up_ne _ _ (by omega), va_up_ne _ _ e]; exact g1 t (by omega)
           · rw [va_up_ne _ _ (by omega)]; exact g2 t (by omega) ht2
           · rw [va_up_ne _ _ (by omega)]; exact g3 q hq2)
      · refine qV_aload_n (pc := 131) 0 dX7_taking_131 rfl rfl ?_
        refine qV_get (pc := 132) kX7 0 (le_b rfl) lk_X7_7 rfl dX7_taking_132 (by first | assumption | exact hU_self _ _ _ | (refine (hU_ne (by omega)).trans ?_; first | assumption | exact hU_self _ _ _ | (refine (hU_ne (by omega)).trans ?_; first | assumption | exact hU_self _ _ _ | (refine (hU_ne (by omega)).trans ?_; first | assumption | exact hU_self _ _ _)))) (by exact rfl) ?_
        refine qV_sipush (pc := 135) dX7_taking_135 rfl ?_
        refine qV_iload (pc := 138) 4 dX7_taking_138 rfl ?_
        refine qV_iadd (pc := 140) dX7_taking_140 ?_
        refine qV_aload_n (pc := 141) 0 dX7_taking_141 rfl rfl ?_
        refine qV_get (pc := 142) kX7 0 (le_b rfl) lk_X7_7 rfl dX7_taking_142 (by first | assumption | exact hU_self _ _ _ | (refine (hU_ne (by omega)).trans ?_; first | assumption | exact hU_self _ _ _ | (refine (hU_ne (by omega)).trans ?_; first | assumption | exact hU_self _ _ _ | (refine (hU_ne (by omega)).trans ?_; first | assumption | exact hU_self _ _ _)))) (by exact rfl) ?_
        refine qV_sipush (pc := 145) dX7_taking_145 rfl ?_
        refine qV_iload (pc := 148) 5 dX7_taking_148 rfl ?_
        refine qV_iadd (pc := 150) dX7_taking_150 ?_
        refine qV_ialdN (pc := 151) (259 + j) dX7_taking_151 (by first | assumption | exact hU_self _ _ _ | (refine (hU_ne (by omega)).trans ?_; first | assumption | exact hU_self _ _ _ | (refine (hU_ne (by omega)).trans ?_; first | assumption | exact hU_self _ _ _ | (refine (hU_ne (by omega)).trans ?_; first | assumption | exact hU_self _ _ _)))) (by omega) (by omega) e2 ?_
        refine qV_iastM (pc := 152) (259 + shN S j) dX7_taking_152 (by omega) (by omega) ?_
        refine qV_iinc (pc := 153) 4 dX7_taking_153 rfl (le_b rfl) (le_b rfl) rfl ?_
        refine qV_iinc (pc := 156) 5 dX7_taking_156 rfl (le_b rfl) (le_b rfl) rfl ?_
        refine qV_goto (pc := 159) 106 dX7_taking_159 (by decide) ?_
        first
        | (refine ih (j + 1) _ _ _ _ _ _ (by omega) (by omega) (by omega) (by simp only [shN]; rw [if_neg (by omega)]; exact hw) (fun t ht => ?_) (fun t ht ht2 => g2 t (by omega) ht2) g3
           simp only [shN] at ht
           rw [if_neg (by omega)] at ht
           simp only [shF]
           rw [if_neg (by omega)]
           exact g1 t ht)
        | (refine ih (j + 1) _ _ _ _ _ _ (by omega) (by omega) (by omega) (by simp only [shN]; rw [if_pos (by omega)]; omega) (fun t ht => ?_) (fun t ht ht2 => ?_) (fun q hq2 => ?_)
           · simp only [shN] at ht
             rw [if_pos (by omega)] at ht
             simp only [shF]
             rw [if_pos (by omega)]
             by_cases e : t = shN S j
             · subst e; rw [va_up_self, va_up_self]
             · rw [va_up_ne _ _ (by omega), va_up_ne _ _ e]; exact g1 t (by omega)
           · rw [va_up_ne _ _ (by omega)]; exact g2 t (by omega) ht2
           · rw [va_up_ne _ _ (by omega)]; exact g3 q hq2)
set_option maxRecDepth 100000 in
set_option maxHeartbeats 4000000 in
theorem take3 {n i k : Nat} {w : Int} {T s : Nat → Int} {Q : Option Value → qH → Nat → Prop} (ho : h r = some (rob r kn ty st)) (hn : n ≤ 216) (hik : i + k ≤ n) (s0 : s 0 = n)
    (kk : ∀ (g : Nat → Int) (q x3 : Int) (x6 x7 : Option Value), (∀ t, t + k < n → g (3 + t) = if t < i then T t else T (t + k)) → (∀ q, (q < 3 ∨ 3 + n ≤ q) → g q = s q) → qVM l mX7_taking 0 0 h sz Q 0 0 (hM h r g) sz 212 [some (.ref r), some (vI i), some (vI k), some (vI x3), some (vI w), some (vI q), x6, x7] []) :
    ∀ (m v : Nat) (q : Int) (g : Nat → Int) (x3 : Int) (x6 x7 : Option Value), n - v = m → i ≤ v → v + k ≤ n → q = v → (∀ t, t < v → g (3 + t) = if t < i then T t else T (t + k)) → (∀ t, v ≤ t → t < n → g (3 + t) = T t) → (∀ q, (q < 3 ∨ 3 + n ≤ q) → g q = s q) → qVM l mX7_taking 0 0 h sz Q 0 0 (hM h r g) sz 173 [some (.ref r), some (vI i), some (vI k), some (vI x3), some (vI w), some (vI q), x6, x7] [] := by
  have hend : ∀ (v : Nat) (q : Int) (g : Nat → Int) (x3 : Int) (x6 x7 : Option Value), v + k = n → q = v → (∀ t, t < v → g (3 + t) = if t < i then T t else T (t + k)) → (∀ q, (q < 3 ∨ 3 + n ≤ q) → g q = s q) → qVM l mX7_taking 0 0 h sz Q 0 0 (hM h r g) sz 173 [some (.ref r), some (vI i), some (vI k), some (vI x3), some (vI w), some (vI q), x6, x7] [] := by
    intro v q g x3 x6 x7 hv hq g1 g3
    have e1 : g 0 = n := (g3 0 (by omega)).trans s0
    refine qV_iload (pc := 173) 5 dX7_taking_173 rfl ?_
    refine qV_iload_n (pc := 175) 2 dX7_taking_175 rfl rfl ?_
    refine qV_iadd (pc := 176) dX7_taking_176 ?_
    refine qV_aload_n (pc := 177) 0 dX7_taking_177 rfl rfl ?_
    refine qV_get (pc := 178) kX7 0 (le_b rfl) lk_X7_7 rfl dX7_taking_178 (by first | assumption | exact hU_self _ _ _ | (refine (hU_ne (by omega)).trans ?_; first | assumption | exact hU_self _ _ _ | (refine (hU_ne (by omega)).trans ?_; first | assumption | exact hU_self _ _ _ | (refine (hU_ne (by omega)).trans ?_; first | assumption | exact hU_self _ _ _)))) (by exact rfl) ?_
    refine qV_iconst (pc := 181) dX7_taking_181 ?_
    refine qV_ialdN (pc := 182) (0) dX7_taking_182 (by first | assumption | exact hU_self _ _ _ | (refine (hU_ne (by omega)).trans ?_; first | assumption | exact hU_self _ _ _ | (refine (hU_ne (by omega)).trans ?_; first | assumption | exact hU_self _ _ _ | (refine (hU_ne (by omega)).trans ?_; first | assumption | exact hU_self _ _ _)))) (by omega) (by omega) e1 ?_
    refine qV_icmp_ge (pc := 183) 212 dX7_taking_183 (by decide) ⟨by omega, by omega⟩ ⟨by omega, by omega⟩ (fun c183 => ?_) (fun c183 => ?_)
    · exact kk g _ _ _ _ (fun t ht => g1 t (by omega)) g3
    · exfalso; omega
  intro m
  induction m with
  | zero => intro v q g x3 x6 x7 hm hv hvk hq g1 g2 g3; exact hend v q g x3 x6 x7 (by omega) hq g1 g3
  | succ m ih =>
    intro v q g x3 x6 x7 hm hv hvk hq g1 g2 g3
    by_cases hl : v + k = n
    · exact hend v q g x3 x6 x7 hl hq g1 g3
    · have e1 : g 0 = n := (g3 0 (by omega)).trans s0
      have e2 := g2 (v + k) (by omega) (by omega)
      refine qV_iload (pc := 173) 5 dX7_taking_173 rfl ?_
      refine qV_iload_n (pc := 175) 2 dX7_taking_175 rfl rfl ?_
      refine qV_iadd (pc := 176) dX7_taking_176 ?_
      refine qV_aload_n (pc := 177) 0 dX7_taking_177 rfl rfl ?_
      refine qV_get (pc := 178) kX7 0 (le_b rfl) lk_X7_7 rfl dX7_taking_178 (by first | assumption | exact hU_self _ _ _ | (refine (hU_ne (by omega)).trans ?_; first | assumption | exact hU_self _ _ _ | (refine (hU_ne (by omega)).trans ?_; first | assumption | exact hU_self _ _ _ | (refine (hU_ne (by omega)).trans ?_; first | assumption | exact hU_self _ _ _)))) (by exact rfl) ?_
      refine qV_iconst (pc := 181) dX7_taking_181 ?_
      refine qV_ialdN (pc := 182) (0) dX7_taking_182 (by first | assumption | exact hU_self _ _ _ | (refine (hU_ne (by omega)).trans ?_; first | assumption | exact hU_self _ _ _ | (refine (hU_ne (by omega)).trans ?_; first | assumption | exact hU_self _ _ _ | (refine (hU_ne (by omega)).trans ?_; first | assumption | exact hU_self _ _ _)))) (by omega) (by omega) e1 ?_
      refine qV_icmp_ge (pc := 183) 212 dX7_taking_183 (by decide) ⟨by omega, by omega⟩ ⟨by omega, by omega⟩ (fun c183 => ?_) (fun c183 => ?_)
      · exfalso; omega
      · refine qV_aload_n (pc := 186) 0 dX7_taking_186 rfl rfl ?_
        refine qV_get (pc := 187) kX7 0 (le_b rfl) lk_X7_7 rfl dX7_taking_187 (by first | assumption | exact hU_self _ _ _ | (refine (hU_ne (by omega)).trans ?_; first | assumption | exact hU_self _ _ _ | (refine (hU_ne (by omega)).trans ?_; first | assumption | exact hU_self _ _ _ | (refine (hU_ne (by omega)).trans ?_; first | assumption | exact hU_self _ _ _)))) (by exact rfl) ?_
        refine qV_iconst (pc := 190) dX7_taking_190 ?_
        refine qV_iload (pc := 191) 5 dX7_taking_191 rfl ?_
        refine qV_iadd (pc := 193) dX7_taking_193 ?_
        refine qV_aload_n (pc := 194) 0 dX7_taking_194 rfl rfl ?_
        refine qV_get (pc := 195) kX7 0 (le_b rfl) lk_X7_7 rfl dX7_taking_195 (by first | assumption | exact hU_self _ _ _ | (refine (hU_ne (by omega)).trans ?_; first | assumption | exact hU_self _ _ _ | (refine (hU_ne (by omega)).trans ?_; first | assumption | exact hU_self _ _ _ | (refine (hU_ne (by omega)).trans ?_; first | assumption | exact hU_self _ _ _)))) (by exact rfl) ?_
        refine qV_iconst (pc := 198) dX7_taking_198 ?_
        refine qV_iload (pc := 199) 5 dX7_taking_199 rfl ?_
        refine qV_iadd (pc := 201) dX7_taking_201 ?_
        refine qV_iload_n (pc := 202) 2 dX7_taking_202 rfl rfl ?_
        refine qV_iadd (pc := 203) dX7_taking_203 ?_
        refine qV_ialdN (pc := 204) (3 + (v + k)) dX7_taking_204 (by first | assumption | exact hU_self _ _ _ | (refine (hU_ne (by omega)).trans ?_; first | assumption | exact hU_self _ _ _ | (refine (hU_ne (by omega)).trans ?_; first | assumption | exact hU_self _ _ _ | (refine (hU_ne (by omega)).trans ?_; first | assumption | exact hU_self _ _ _)))) (by omega) (by omega) e2 ?_
        refine qV_iastM (pc := 205) (3 + v) dX7_taking_205 (by omega) (by omega) ?_
        refine qV_iinc (pc := 206) 5 dX7_taking_206 rfl (le_b rfl) (le_b rfl) rfl ?_
        refine qV_goto (pc := 209) 173 dX7_taking_209 (by decide) ?_
        refine ih (v + 1) _ _ _ _ _ (by omega) (by omega) (by omega) (by omega) (fun t ht => ?_) (fun t ht ht2 => ?_) (fun q hq2 => ?_)
        · by_cases e : t = v
          · subst e; rw [va_up_self, if_neg (by omega)]
          · rw [va_up_ne _ _ (by omega)]; exact g1 t (by omega)
        · rw [va_up_ne _ _ (by omega)]; exact g2 t (by omega) ht2
        · rw [va_up_ne _ _ (by omega)]; exact g3 q hq2
set_option maxRecDepth 100000 in
set_option maxHeartbeats 4000000 in
theorem take_join {n c i k : Nat} {T C m0 g : Nat → Int} {w rd : Int} {Q : Option Value → qH → Nat → Prop} {x3 x5 x6 x7 : Option Value} (ho : h r = some (rob r kn ty st)) (hS : SPx g n T c C m0 rd) (hw : w = c) (hc : c ≤ 216) (hC : ∀ j, j < c → 0 ≤ C j ∧ C j ≤ 8) (hcs : csum C c ≤ 5000) (hi : i ≤ 5000) (hx2 : 0 < c → (i : Int) ≤ csum C c)
    (hn : n ≤ 216) (kk : ∀ (g' : Nat → Int) (x3 : Option Value) (x4 : Int) (x5 x6 x7 : Option Value), SPx g' n T (jnN C c (ca C i c)) (jnF C c (ca C i c)) m0 rd → qVM l mX7_taking 0 0 h sz Q 0 0 (hM h r g') sz 307 [some (.ref r), some (vI i), some (vI k), x3, some (vI x4), x5, x6, x7] []) : qVM l mX7_taking 0 0 h sz Q 0 0 (hM h r g) sz 222 [some (.ref r), some (vI i), some (vI k), x3, some (vI w), x5, x6, x7] [] := by
  obtain ⟨s0, s1, s2, sT, sC, sM⟩ := id hS
  have ho1 : hM h r g r = some (rob r kn ty st) := (hU_ne (by omega)).trans ho
  by_cases h0 : c = 0
  · have hjn : jnN C c (ca C i c) = c := by simp only [jnN]; rw [if_neg (by omega)]
    have hjf : jnF C c (ca C i c) = C := by simp only [jnF]; rw [if_neg (by omega)]
    rw [hjn, hjf] at kk
    refine qV_iload (pc := 222) 4 dX7_taking_222 rfl ?_
    refine qV_ifle (pc := 224) 307 dX7_taking_224 (by decide) ⟨by omega, by omega⟩ (fun c224 => ?_) (fun c224 => ?_)
    · exact kk g _ _ _ _ _ hS
    · exfalso; omega
  · have hk := ca_ex (C := C) (p := i) (fun j hj => (hC j hj).1) (by omega) (hx2 (by omega))
    have hca := m_chunkAt (l := l) (sz := sz) ho1 (hU_self _ _ _) sC (fun j hj => (hC j hj).1) hcs ⟨by omega, by omega⟩ (hx2 (by omega)) (by omega) (by omega)
    generalize ca C i c = a at hk hca kk
    have ha := hk.1
    have ba := hC a ha
    have ea := sC a ha
    by_cases h1 : a + 1 < c
    · have bb := hC (a + 1) h1
      have eb := sC (a + 1) h1
      by_cases h8 : C a + C (a + 1) ≤ 8
      · have hjn : jnN C c a = c - 1 := by simp only [jnN]; rw [if_pos ⟨h1, h8⟩]
        have hjf : jnF C c a = (fun j => if j < a then C j else if j = a then C a + C (a + 1) else C (j + 1)) := by simp only [jnF]; rw [if_pos ⟨h1, h8⟩]
        rw [hjn, hjf] at kk
        refine qV_iload (pc := 222) 4 dX7_taking_222 rfl ?_
        refine qV_ifle (pc := 224) 307 dX7_taking_224 (by decide) ⟨by omega, by omega⟩ (fun c224 => ?_) (fun c224 => ?_)
        · exfalso; omega
        · refine qV_aload_n (pc := 227) 0 dX7_taking_227 rfl rfl ?_
          refine qV_iload_n (pc := 228) 1 dX7_taking_228 rfl rfl ?_
          refine qV_rdV (pc := 229) (hca) nX7_chunkAt kX7 lk_X7_42 dX7_taking_229 (by first | assumption | exact hU_self _ _ _ | (refine (hU_ne (by omega)).trans ?_; first | assumption | exact hU_self _ _ _ | (refine (hU_ne (by omega)).trans ?_; first | assumption | exact hU_self _ _ _ | (refine (hU_ne (by omega)).trans ?_; first | assumption | exact hU_self _ _ _)))) ⟨le_b rfl, le_b rfl⟩ ⟨le_b rfl, le_b rfl⟩ rfl (le_b rfl) ?_
          refine qV_istore (pc := 232) 5 dX7_taking_232 (le_b rfl) (le_b rfl) rfl ?_
          refine qV_iload (pc := 234) 5 dX7_taking_234 rfl ?_
          refine qV_iconst (pc := 236) dX7_taking_236 ?_
          refine qV_iadd (pc := 237) dX7_taking_237 ?_
          refine qV_iload (pc := 238) 4 dX7_taking_238 rfl ?_
          refine qV_icmp_ge (pc := 240) 307 dX7_taking_240 (by decide) ⟨by omega, by omega⟩ ⟨by omega, by omega⟩ (fun c240 => ?_) (fun c240 => ?_)
          · exfalso; omega
          · refine qV_aload_n (pc := 243) 0 dX7_taking_243 rfl rfl ?_
            refine qV_get (pc := 244) kX7 0 (le_b rfl) lk_X7_7 rfl dX7_taking_244 (by first | assumption | exact hU_self _ _ _ | (refine (hU_ne (by omega)).trans ?_; first | assumption | exact hU_self _ _ _ | (refine (hU_ne (by omega)).trans ?_; first | assumption | exact hU_self _ _ _ | (refine (hU_ne (by omega)).trans ?_; first | assumption | exact hU_self _ _ _)))) (by exact rfl) ?_
            refine qV_sipush (pc := 247) dX7_taking_247 rfl ?_
            refine qV_iload (pc := 250) 5 dX7_taking_250 rfl ?_
            refine qV_iadd (pc := 252) dX7_taking_252 ?_
            refine qV_ialdN (pc := 253) (259 + a) dX7_taking_253 (by first | assumption | exact hU_self _ _ _ | (refine (hU_ne (by omega)).trans ?_; first | assumption | exact hU_self _ _ _ | (refine (hU_ne (by omega)).trans ?_; first | assumption | exact hU_self _ _ _ | (refine (hU_ne (by omega)).trans ?_; first | assumption | exact hU_self _ _ _)))) (by omega) (by omega) ea ?_
            refine qV_aload_n (pc := 254) 0 dX7_taking_254 rfl rfl ?_
            refine qV_get (pc := 255) kX7 0 (le_b rfl) lk_X7_7 rfl dX7_taking_255 (by first | assumption | exact hU_self _ _ _ | (refine (hU_ne (by omega)).trans ?_; first | assumption | exact hU_self _ _ _ | (refine (hU_ne (by omega)).trans ?_; first | assumption | exact hU_self _ _ _ | (refine (hU_ne (by omega)).trans ?_; first | assumption | exact hU_self _ _ _)))) (by exact rfl) ?_
            refine qV_sipush (pc := 258) dX7_taking_258 rfl ?_
            refine qV_iload (pc := 261) 5 dX7_taking_261 rfl ?_
            refine qV_iadd (pc := 263) dX7_taking_263 ?_
            refine qV_iconst (pc := 264) dX7_taking_264 ?_
            refine qV_iadd (pc := 265) dX7_taking_265 ?_
            refine qV_ialdN (pc := 266) (259 + (a + 1)) dX7_taking_266 (by first | assumption | exact hU_self _ _ _ | (refine (hU_ne (by omega)).trans ?_; first | assumption | exact hU_self _ _ _ | (refine (hU_ne (by omega)).trans ?_; first | assumption | exact hU_self _ _ _ | (refine (hU_ne (by omega)).trans ?_; first | assumption | exact hU_self _ _ _)))) (by omega) (by omega) eb ?_
            refine qV_iadd (pc := 267) dX7_taking_267 ?_
            refine qV_bipush (pc := 268) dX7_taking_268 rfl ?_
            refine qV_icmp_gt (pc := 270) 307 dX7_taking_270 (by decide) ⟨by omega, by omega⟩ ⟨by omega, by omega⟩ (fun c270 => ?_) (fun c270 => ?_)
            · exfalso; omega
            · refine qV_aload_n (pc := 273) 0 dX7_taking_273 rfl rfl ?_
              refine qV_get (pc := 274) kX7 0 (le_b rfl) lk_X7_7 rfl dX7_taking_274 (by first | assumption | exact hU_self _ _ _ | (refine (hU_ne (by omega)).trans ?_; first | assumption | exact hU_self _ _ _ | (refine (hU_ne (by omega)).trans ?_; first | assumption | exact hU_self _ _ _ | (refine (hU_ne (by omega)).trans ?_; first | assumption | exact hU_self _ _ _)))) (by exact rfl) ?_
              refine qV_sipush (pc := 277) dX7_taking_277 rfl ?_
              refine qV_iload (pc := 280) 5 dX7_taking_280 rfl ?_
              refine qV_iadd (pc := 282) dX7_taking_282 ?_
              refine qV_dup2 (pc := 283) dX7_taking_283 rfl rfl ?_
              refine qV_ialdN (pc := 284) (259 + a) dX7_taking_284 (by first | assumption | exact hU_self _ _ _ | (refine (hU_ne (by omega)).trans ?_; first | assumption | exact hU_self _ _ _ | (refine (hU_ne (by omega)).trans ?_; first | assumption | exact hU_self _ _ _ | (refine (hU_ne (by omega)).trans ?_; first | assumption | exact hU_self _ _ _)))) (by omega) (by omega) ea ?_
              refine qV_aload_n (pc := 285) 0 dX7_taking_285 rfl rfl ?_
              refine qV_get (pc := 286) kX7 0 (le_b rfl) lk_X7_7 rfl dX7_taking_286 (by first | assumption | exact hU_self _ _ _ | (refine (hU_ne (by omega)).trans ?_; first | assumption | exact hU_self _ _ _ | (refine (hU_ne (by omega)).trans ?_; first | assumption | exact hU_self _ _ _ | (refine (hU_ne (by omega)).trans ?_; first | assumption | exact hU_self _ _ _)))) (by exact rfl) ?_
              refine qV_sipush (pc := 289) dX7_taking_289 rfl ?_
              refine qV_iload (pc := 292) 5 dX7_taking_292 rfl ?_
              refine qV_iadd (pc := 294) dX7_taking_294 ?_
              refine qV_iconst (pc := 295) dX7_taking_295 ?_
              refine qV_iadd (pc := 296) dX7_taking_296 ?_
              refine qV_ialdN (pc := 297) (259 + (a + 1)) dX7_taking_297 (by first | assumption | exact hU_self _ _ _ | (refine (hU_ne (by omega)).trans ?_; first | assumption | exact hU_self _ _ _ | (refine (hU_ne (by omega)).trans ?_; first | assumption | exact hU_self _ _ _ | (refine (hU_ne (by omega)).trans ?_; first | assumption | exact hU_self _ _ _)))) (by omega) (by omega) eb ?_
              refine qV_iadd (pc := 298) dX7_taking_298 ?_
              refine qV_iastM (pc := 299) (259 + a) dX7_taking_299 (by omega) (by omega) ?_
              refine qV_aload_n (pc := 300) 0 dX7_taking_300 rfl rfl ?_
              refine qV_iload (pc := 301) 5 dX7_taking_301 rfl ?_
              refine qV_iconst (pc := 303) dX7_taking_303 ?_
              refine qV_voV (pc := 304) (m_opensD (k := a) (d := 1) (c := c) ((hU_ne (by omega)).trans ho) (hU_self _ _ _) rfl rfl (by omega) (by omega) ha ((va_up_ne _ _ (by omega)).trans s1)) nX7_opens kX7 lk_X7_46 dX7_taking_304 (by first | assumption | exact hU_self _ _ _ | (refine (hU_ne (by omega)).trans ?_; first | assumption | exact hU_self _ _ _ | (refine (hU_ne (by omega)).trans ?_; first | assumption | exact hU_self _ _ _ | (refine (hU_ne (by omega)).trans ?_; first | assumption | exact hU_self _ _ _)))) ⟨le_b rfl, le_b rfl⟩ ⟨le_b rfl, le_b rfl⟩ rfl (le_b rfl) ?_
              rintro h2 _ ⟨⟨g2, rfl, o1, o2, o3, o4⟩, rfl⟩
              refine qV_heap ?_ (hU_hU _ _ _ _) rfl
              refine kk g2 _ _ _ _ _ ⟨?_, ?_, ?_, fun j hj => ?_, fun j hj => ?_, fun j hj => ?_⟩
              · rw [o4 0 (by omega) (by omega), va_up_ne _ _ (by omega)]; exact s0
              · rw [o1]; omega
              · rw [o4 2 (by omega) (by omega), va_up_ne _ _ (by omega)]; exact s2
              · rw [o4 _ (by omega) (by omega), va_up_ne _ _ (by omega)]; exact sT j hj
              · show g2 (259 + j) = if j < a then C j else if j = a then C a + C (a + 1) else C (j + 1)
                by_cases e1 : j < a
                · rw [if_pos e1, o2 j (by omega), va_up_ne _ _ (by omega)]; exact sC j (by omega)
                · rw [if_neg e1]
                  by_cases e2 : j = a
                  · subst e2; rw [if_pos rfl, o2 j (Nat.le_refl _), va_up_self]
                  · rw [if_neg e2, o3 j (by omega) (by omega), va_up_ne _ _ (by omega), Nat.add_assoc]; exact sC _ (by omega)
              · rw [o4 _ (by omega) (by omega), va_up_ne _ _ (by omega)]; exact sM j hj
      · have hjn : jnN C c a = c := by simp only [jnN]; rw [if_neg (fun q => h8 q.2)]
        have hjf : jnF C c a = C := by simp only [jnF]; rw [if_neg (fun q => h8 q.2)]
        rw [hjn, hjf] at kk
        refine qV_iload (pc := 222) 4 dX7_taking_222 rfl ?_
        refine qV_ifle (pc := 224) 307 dX7_taking_224 (by decide) ⟨by omega, by omega⟩ (fun c224 => ?_) (fun c224 => ?_)
        · exfalso; omega
        · refine qV_aload_n (pc := 227) 0 dX7_taking_227 rfl rfl ?_
          refine qV_iload_n (pc := 228) 1 dX7_taking_228 rfl rfl ?_
          refine qV_rdV (pc := 229) (hca) nX7_chunkAt kX7 lk_X7_42 dX7_taking_229 (by first | assumption | exact hU_self _ _ _ | (refine (hU_ne (by omega)).trans ?_; first | assumption | exact hU_self _ _ _ | (refine (hU_ne (by omega)).trans ?_; first | assumption | exact hU_self _ _ _ | (refine (hU_ne (by omega)).trans ?_; first | assumption | exact hU_self _ _ _)))) ⟨le_b rfl, le_b rfl⟩ ⟨le_b rfl, le_b rfl⟩ rfl (le_b rfl) ?_
          refine qV_istore (pc := 232) 5 dX7_taking_232 (le_b rfl) (le_b rfl) rfl ?_
          refine qV_iload (pc := 234) 5 dX7_taking_234 rfl ?_
          refine qV_iconst (pc := 236) dX7_taking_236 ?_
          refine qV_iadd (pc := 237) dX7_taking_237 ?_
          refine qV_iload (pc := 238) 4 dX7_taking_238 rfl ?_
          refine qV_icmp_ge (pc := 240) 307 dX7_taking_240 (by decide) ⟨by omega, by omega⟩ ⟨by omega, by omega⟩ (fun c240 => ?_) (fun c240 => ?_)
          · exfalso; omega
          · refine qV_aload_n (pc := 243) 0 dX7_taking_243 rfl rfl ?_
            refine qV_get (pc := 244) kX7 0 (le_b rfl) lk_X7_7 rfl dX7_taking_244 (by first | assumption | exact hU_self _ _ _ | (refine (hU_ne (by omega)).trans ?_; first | assumption | exact hU_self _ _ _ | (refine (hU_ne (by omega)).trans ?_; first | assumption | exact hU_self _ _ _ | (refine (hU_ne (by omega)).trans ?_; first | assumption | exact hU_self _ _ _)))) (by exact rfl) ?_
            refine qV_sipush (pc := 247) dX7_taking_247 rfl ?_
            refine qV_iload (pc := 250) 5 dX7_taking_250 rfl ?_
            refine qV_iadd (pc := 252) dX7_taking_252 ?_
            refine qV_ialdN (pc := 253) (259 + a) dX7_taking_253 (by first | assumption | exact hU_self _ _ _ | (refine (hU_ne (by omega)).trans ?_; first | assumption | exact hU_self _ _ _ | (refine (hU_ne (by omega)).trans ?_; first | assumption | exact hU_self _ _ _ | (refine (hU_ne (by omega)).trans ?_; first | assumption | exact hU_self _ _ _)))) (by omega) (by omega) ea ?_
            refine qV_aload_n (pc := 254) 0 dX7_taking_254 rfl rfl ?_
            refine qV_get (pc := 255) kX7 0 (le_b rfl) lk_X7_7 rfl dX7_taking_255 (by first | assumption | exact hU_self _ _ _ | (refine (hU_ne (by omega)).trans ?_; first | assumption | exact hU_self _ _ _ | (refine (hU_ne (by omega)).trans ?_; first | assumption | exact hU_self _ _ _ | (refine (hU_ne (by omega)).trans ?_; first | assumption | exact hU_self _ _ _)))) (by exact rfl) ?_
            refine qV_sipush (pc := 258) dX7_taking_258 rfl ?_
            refine qV_iload (pc := 261) 5 dX7_taking_261 rfl ?_
            refine qV_iadd (pc := 263) dX7_taking_263 ?_
            refine qV_iconst (pc := 264) dX7_taking_264 ?_
            refine qV_iadd (pc := 265) dX7_taking_265 ?_
            refine qV_ialdN (pc := 266) (259 + (a + 1)) dX7_taking_266 (by first | assumption | exact hU_self _ _ _ | (refine (hU_ne (by omega)).trans ?_; first | assumption | exact hU_self _ _ _ | (refine (hU_ne (by omega)).trans ?_; first | assumption | exact hU_self _ _ _ | (refine (hU_ne (by omega)).trans ?_; first | assumption | exact hU_self _ _ _)))) (by omega) (by omega) eb ?_
            refine qV_iadd (pc := 267) dX7_taking_267 ?_
            refine qV_bipush (pc := 268) dX7_taking_268 rfl ?_
            refine qV_icmp_gt (pc := 270) 307 dX7_taking_270 (by decide) ⟨by omega, by omega⟩ ⟨by omega, by omega⟩ (fun c270 => ?_) (fun c270 => ?_)
            · exact kk g _ _ _ _ _ hS
            · exfalso; omega
    · have hjn : jnN C c a = c := by simp only [jnN]; rw [if_neg (fun q => h1 q.1)]
      have hjf : jnF C c a = C := by simp only [jnF]; rw [if_neg (fun q => h1 q.1)]
      rw [hjn, hjf] at kk
      refine qV_iload (pc := 222) 4 dX7_taking_222 rfl ?_
      refine qV_ifle (pc := 224) 307 dX7_taking_224 (by decide) ⟨by omega, by omega⟩ (fun c224 => ?_) (fun c224 => ?_)
      · exfalso; omega
      · refine qV_aload_n (pc := 227) 0 dX7_taking_227 rfl rfl ?_
        refine qV_iload_n (pc := 228) 1 dX7_taking_228 rfl rfl ?_
        refine qV_rdV (pc := 229) (hca) nX7_chunkAt kX7 lk_X7_42 dX7_taking_229 (by first | assumption | exact hU_self _ _ _ | (refine (hU_ne (by omega)).trans ?_; first | assumption | exact hU_self _ _ _ | (refine (hU_ne (by omega)).trans ?_; first | assumption | exact hU_self _ _ _ | (refine (hU_ne (by omega)).trans ?_; first | assumption | exact hU_self _ _ _)))) ⟨le_b rfl, le_b rfl⟩ ⟨le_b rfl, le_b rfl⟩ rfl (le_b rfl) ?_
        refine qV_istore (pc := 232) 5 dX7_taking_232 (le_b rfl) (le_b rfl) rfl ?_
        refine qV_iload (pc := 234) 5 dX7_taking_234 rfl ?_
        refine qV_iconst (pc := 236) dX7_taking_236 ?_
        refine qV_iadd (pc := 237) dX7_taking_237 ?_
        refine qV_iload (pc := 238) 4 dX7_taking_238 rfl ?_
        refine qV_icmp_ge (pc := 240) 307 dX7_taking_240 (by decide) ⟨by omega, by omega⟩ ⟨by omega, by omega⟩ (fun c240 => ?_) (fun c240 => ?_)
        · exact kk g _ _ _ _ _ hS
        · exfalso; omega
set_option maxRecDepth 100000 in
set_option maxHeartbeats 4000000 in
theorem m_taking {p q : Int} {i k : Nat} {s : Nat → Int} {P : PG} (ho : h r = some (rob r kn ty st)) (hs : h (r + 1) = some (iA 0 541 s)) (hP : SP s P) (hw : wf 216 P) (hp : p = i) (hq : q = k) (hk0 : 0 < k) (hik : i + k ≤ P.1) : qVo l mX7_taking 0 0 [.ref r, vI p, vI q] h sz (fun h' sz' => (∃ g, h' = hM h r g ∧ SP g (takeP P i k)) ∧ sz' = sz) := by
  subst hp; subst hq
  obtain ⟨z1, z2⟩ := wf_sh hw hik
  obtain ⟨p0, p1, p2, pT, pC, pM⟩ := id hP
  obtain ⟨w1, w2, w3, w4, w5, w6, w7⟩ := id hw
  have wcl := hw.c_le
  have hC : ∀ j, j < P.2.2.1 → 0 ≤ P.2.2.2.1 j := fun j hj => by have := w3 j hj; omega
  have hsl : shC P i k ≤ P.2.2.1 := shN_le _ _
  refine qC.of 5 (by decide) (le_b rfl) ?_
  refine qV_iconst (pc := 0) dX7_taking_0 ?_
  refine qV_istore_n (pc := 1) 3 dX7_taking_1 rfl (le_b rfl) (le_b rfl) rfl ?_
  refine qV_iconst (pc := 2) dX7_taking_2 ?_
  refine qV_istore (pc := 3) 4 dX7_taking_3 (le_b rfl) (le_b rfl) rfl ?_
  refine qV_heap ?_ (hU_id hs).symm rfl
  refine take1 ho (by omega) (by omega) (by omega) hC (by omega) p1 (fun g b q x5 x6 x7 g1 g3 => ?_) P.2.2.1 0 _ s _ _ _ (by omega) (by omega) rfl (fun t ht => by omega) (fun t _ ht => pC t ht) (fun _ _ => rfl)
  refine qV_iconst (pc := 100) dX7_taking_100 ?_
  refine qV_istore (pc := 101) 4 dX7_taking_101 (le_b rfl) (le_b rfl) rfl ?_
  refine qV_iconst (pc := 103) dX7_taking_103 ?_
  refine qV_istore (pc := 104) 5 dX7_taking_104 (le_b rfl) (le_b rfl) rfl ?_
  refine take2 (S := stay P.2.2.2.1 i k) ho (by omega) (fun j hj => ⟨(stay_in (hC j hj)).1, by have := (stay_in (p := i) (k := k) (hC j hj)).2; have := w3 j hj; omega⟩) p1 (fun g w q x3 x6 x7 hww g4 g5 => ?_) P.2.2.1 0 _ _ g _ _ _ (by omega) (by omega) rfl rfl (fun t ht => by simp [shN] at ht) (fun t _ ht => g1 t ht) g3
  refine qV_aload_n (pc := 162) 0 dX7_taking_162 rfl rfl ?_
  refine qV_get (pc := 163) kX7 0 (le_b rfl) lk_X7_7 rfl dX7_taking_163 (by first | assumption | exact hU_self _ _ _ | (refine (hU_ne (by omega)).trans ?_; first | assumption | exact hU_self _ _ _ | (refine (hU_ne (by omega)).trans ?_; first | assumption | exact hU_self _ _ _ | (refine (hU_ne (by omega)).trans ?_; first | assumption | exact hU_self _ _ _)))) (by exact rfl) ?_
  refine qV_iconst (pc := 166) dX7_taking_166 ?_
  refine qV_iload (pc := 167) 4 dX7_taking_167 rfl ?_
  refine qV_iastM (pc := 169) (1) dX7_taking_169 (by omega) (by omega) ?_
  refine qV_iload_n (pc := 170) 1 dX7_taking_170 rfl rfl ?_
  refine qV_istore (pc := 171) 5 dX7_taking_171 (le_b rfl) (le_b rfl) rfl ?_
  refine take3 (T := P.2.1) (n := P.1) ho w1 hik ((va_up_ne _ _ (by omega)).trans ((g5 0 (by omega)).trans p0)) (fun g6 q x3 x6 x7 g7 g8 => ?_) (P.1 - i) i _ _ _ _ _ (by omega) (Nat.le_refl i) hik rfl (fun t ht => ?_) (fun t _ ht => ?_) (fun _ _ => rfl)
  · have e60 : g6 0 = P.1 := (g8 0 (by omega)).trans ((va_up_ne _ _ (by omega)).trans ((g5 0 (by omega)).trans p0))
    refine qV_aload_n (pc := 212) 0 dX7_taking_212 rfl rfl ?_
    refine qV_get (pc := 213) kX7 0 (le_b rfl) lk_X7_7 rfl dX7_taking_213 (by first | assumption | exact hU_self _ _ _ | (refine (hU_ne (by omega)).trans ?_; first | assumption | exact hU_self _ _ _ | (refine (hU_ne (by omega)).trans ?_; first | assumption | exact hU_self _ _ _ | (refine (hU_ne (by omega)).trans ?_; first | assumption | exact hU_self _ _ _)))) (by exact rfl) ?_
    refine qV_iconst (pc := 216) dX7_taking_216 ?_
    refine qV_dup2 (pc := 217) dX7_taking_217 rfl rfl ?_
    refine qV_ialdN (pc := 218) (0) dX7_taking_218 (by first | assumption | exact hU_self _ _ _ | (refine (hU_ne (by omega)).trans ?_; first | assumption | exact hU_self _ _ _ | (refine (hU_ne (by omega)).trans ?_; first | assumption | exact hU_self _ _ _ | (refine (hU_ne (by omega)).trans ?_; first | assumption | exact hU_self _ _ _)))) (by omega) (by omega) e60 ?_
    refine qV_iload_n (pc := 219) 2 dX7_taking_219 rfl rfl ?_
    refine qV_isub (pc := 220) dX7_taking_220 ?_
    refine qV_iastM (pc := 221) (0) dX7_taking_221 (by omega) (by omega) ?_
    refine take_join (n := P.1 - k) (c := shC P i k) (T := fun j => if j < i then P.2.1 j else P.2.1 (j + k)) (C := shG P i k) (m0 := fun j => mq (P.2.2.2.2.1 j)) (rd := P.2.2.2.2.2) ho ⟨?_, ?_, ?_, fun j hj => ?_, fun j hj => ?_, fun j hj => ?_⟩ hww (by omega) (fun j hj => by have := z1 j hj; omega) (by omega) (by omega) (fun _ => by omega) (by omega) (fun g9 x3 x4 x5 x6 x7 hS9 => ?_)
    · rw [va_up_self]; omega
    · rw [va_up_ne _ _ (by omega), g8 1 (by omega), va_up_self]; exact hww
    · rw [va_up_ne _ _ (by omega), g8 2 (by omega), va_up_ne _ _ (by omega), g5 2 (by omega)]; exact p2
    · rw [va_up_ne _ _ (by omega)]; exact g7 j (by omega)
    · rw [va_up_ne _ _ (by omega), g8 _ (by omega), va_up_ne _ _ (by omega)]; exact g4 j hj
    · rw [va_up_ne _ _ (by omega), g8 _ (by omega), va_up_ne _ _ (by omega), g5 _ (by omega)]; exact pM j hj
    · have hcap : jnN (shG P i k) (shC P i k) (ca (shG P i k) i (shC P i k)) ≤ 250 := by simp only [jnN]; split <;> omega
      refine qV_sipush (pc := 307) dX7_taking_307 rfl ?_
      refine qV_istore (pc := 310) 5 dX7_taking_310 (le_b rfl) (le_b rfl) rfl ?_
      refine qV_mono (mtake (n := P.1 - k) (c := jnN (shG P i k) (shC P i k) (ca (shG P i k) i (shC P i k))) (T := fun j => if j < i then P.2.1 j else P.2.1 (j + k)) (C := jnF (shG P i k) (shC P i k) (ca (shG P i k) i (shC P i k))) (m0 := fun j => mq (P.2.2.2.2.1 j)) (rd := P.2.2.2.2.2) ho ⟨by omega, by omega⟩ ⟨by omega, by omega⟩ ⟨by omega, by omega⟩ (fun j hj => by have := mq_in hw w1 hj; omega) (by omega) hcap 26 0 _ g9 _ _ _ _ (by omega) (by omega) rfl ?_) ?_
      · obtain ⟨a0, a1, a2, a3, a4, a5⟩ := hS9
        exact ⟨a0, a1, a2, a3, a4, fun j hj => by rw [a5 j hj]; simp only []; rw [if_neg (by omega)]⟩
      · rintro v h' sz' ⟨rfl, ⟨g10, rfl, b0, b1, b2, b3, b4, b5⟩, rfl⟩
        refine ⟨rfl, ⟨g10, rfl, b0, b1, b2, b3, b4, fun j hj => ?_⟩, rfl⟩
        rw [b5 j hj]
        have := w5 j hj
        simp only [takeP, mq, mvT]
        repeat' split
        all_goals omega
  · rw [va_up_ne _ _ (by omega), g5 _ (by omega), if_pos ht]; exact pT t (by omega)
  · rw [va_up_ne _ _ (by omega), g5 _ (by omega)]; exact pT t ht
set_option maxRecDepth 100000 in
set_option maxHeartbeats 4000000 in
theorem m_opens {p q : Int} {k d c : Nat} {s : Nat → Int} (ho : h r = some (rob r kn ty st)) (hs : h (r + 1) = some (iA 0 541 s)) (hp : p = k) (hq : q = d) (hc : c + d ≤ 250) (hk : k < c) (s1 : s 1 = c) : qC l mX7_opens 0 0 [.ref r, vI p, vI q] h sz (fun v h' sz' => v = none ∧ (∃ g, h' = hM h r g ∧ g 1 = (c : Int) + d ∧ (∀ t, t ≤ k → g (259 + t) = s (259 + t)) ∧ (∀ t, k < t → t < c → g (259 + t + d) = s (259 + t)) ∧ ∀ q, q ≠ 1 → (q < 259 ∨ 515 ≤ q) → g q = s q) ∧ sz' = sz) := by
  by_cases hd : d = 0
  · subst hp; subst hd
    refine qC.of 1 (by decide) (le_b rfl) ?_
    refine qV_iload_n (pc := 0) 2 dX7_opens_0 rfl rfl ?_
    refine qV_ifle (pc := 1) 49 dX7_opens_1 (by decide) ⟨by omega, by omega⟩ (fun c1 => ?_) (fun c1 => ?_)
    · refine qV_iload_n (pc := 49) 1 dX7_opens_49 rfl rfl ?_
      refine qV_iconst (pc := 50) dX7_opens_50 ?_
      refine qV_iadd (pc := 51) dX7_opens_51 ?_
      refine qV_istore_n (pc := 52) 3 dX7_opens_52 rfl (le_b rfl) (le_b rfl) rfl ?_
      refine qV_heap ?_ (hU_id hs).symm rfl
      refine qV_mono (opens_dn (d := 0) ho (by omega) (by omega) (by omega) hk s1 (c - (k + 1)) (k + 1) _ s (by omega) (by omega) (by omega) (fun _ _ => rfl) (fun t ht ht2 => by omega) (fun _ _ _ => rfl) (fun _ _ => rfl) (by omega)) ?_
      rintro v h' sz' ⟨e1, ⟨g, e2, g1, g2, g3, g4⟩, e3⟩
      exact ⟨e1, ⟨g, e2, by rw [g1]; omega, g2, fun t h1 h2 => by have := g3 t h1 (by omega); exact this, g4⟩, e3⟩
    · exfalso; omega
  · exact m_opensU ho hs hp hq (by omega) hc hk s1
set_option maxRecDepth 100000 in
set_option maxHeartbeats 4000000 in
theorem put1 {n i m fa : Nat} {at0 : Int} {s : Nat → Int} {Q : Option Value → qH → Nat → Prop} (ho : h r = some (rob r kn ty st)) (hn : n + m ≤ 216) (hi : i ≤ n) (hm0 : 0 < m)
    (kk : ∀ (g : Nat → Int) (q : Int) (x6 x7 x8 : Option Value), (∀ t, t < i → g (3 + t) = s (3 + t)) → (∀ t, i ≤ t → t < n → g (3 + t + m) = s (3 + t)) → (∀ q, (q < 3 ∨ 219 ≤ q) → g q = s q) → qVM l mX7_putting 0 0 h sz Q 0 0 (hM h r g) sz 43 [some (.ref r), some (vI i), some (.ref fa), some (vI at0), some (vI m), some (vI q), x6, x7, x8] []) :
    ∀ (d : Nat) (q : Int) (g : Nat → Int) (x6 x7 x8 : Option Value), i ≤ d → d ≤ n → q = (d : Int) - 1 → (∀ t, t < d → g (3 + t) = s (3 + t)) → (∀ t, d ≤ t → t < n → g (3 + t + m) = s (3 + t)) → (∀ q, (q < 3 ∨ 219 ≤ q) → g q = s q) → qVM l mX7_putting 0 0 h sz Q 0 0 (hM h r g) sz 10 [some (.ref r), some (vI i), some (.ref fa), some (vI at0), some (vI m), some (vI q), x6, x7, x8] [] := by
  have hend : ∀ (q : Int) (g : Nat → Int) (x6 x7 x8 : Option Value), q = (i : Int) - 1 → (∀ t, t < i → g (3 + t) = s (3 + t)) → (∀ t, i ≤ t → t < n → g (3 + t + m) = s (3 + t)) → (∀ q, (q < 3 ∨ 219 ≤ q) → g q = s q) → qVM l mX7_putting 0 0 h sz Q 0 0 (hM h r g) sz 10 [some (.ref r), some (vI i), some (.ref fa), some (vI at0), some (vI m), some (vI q), x6, x7, x8] [] := by
    intro q g x6 x7 x8 hq g1 g2 g3
    refine qV_iload (pc := 10) 5 dX7_putting_10 rfl ?_
    refine qV_iload_n (pc := 12) 1 dX7_putting_12 rfl rfl ?_
    refine qV_icmp_lt (pc := 13) 43 dX7_putting_13 (by decide) ⟨by omega, by omega⟩ ⟨by omega, by omega⟩ (fun c13 => ?_) (fun c13 => ?_)
    · exact kk g _ _ _ _ g1 g2 g3
    · exfalso; omega
  intro d
  induction d with
  | zero =>
    intro q g x6 x7 x8 hd hdn hq g1 g2 g3
    obtain rfl : i = 0 := by omega
    exact hend q g x6 x7 x8 hq g1 g2 g3
  | succ d ih =>
    intro q g x6 x7 x8 hd hdn hq g1 g2 g3
    by_cases e : i = d + 1
    · subst e; exact hend q g x6 x7 x8 hq g1 g2 g3
    · have e1 := g1 d (by omega)
      refine qV_iload (pc := 10) 5 dX7_putting_10 rfl ?_
      refine qV_iload_n (pc := 12) 1 dX7_putting_12 rfl rfl ?_
      refine qV_icmp_lt (pc := 13) 43 dX7_putting_13 (by decide) ⟨by omega, by omega⟩ ⟨by omega, by omega⟩ (fun c13 => ?_) (fun c13 => ?_)
      · exfalso; omega
      · refine qV_aload_n (pc := 16) 0 dX7_putting_16 rfl rfl ?_
        refine qV_get (pc := 17) kX7 0 (le_b rfl) lk_X7_7 rfl dX7_putting_17 (by first | assumption | exact hU_self _ _ _ | (refine (hU_ne (by omega)).trans ?_; first | assumption | exact hU_self _ _ _ | (refine (hU_ne (by omega)).trans ?_; first | assumption | exact hU_self _ _ _ | (refine (hU_ne (by omega)).trans ?_; first | assumption | exact hU_self _ _ _)))) (by exact rfl) ?_
        refine qV_iconst (pc := 20) dX7_putting_20 ?_
        refine qV_iload (pc := 21) 5 dX7_putting_21 rfl ?_
        refine qV_iadd (pc := 23) dX7_putting_23 ?_
        refine qV_iload (pc := 24) 4 dX7_putting_24 rfl ?_
        refine qV_iadd (pc := 26) dX7_putting_26 ?_
        refine qV_aload_n (pc := 27) 0 dX7_putting_27 rfl rfl ?_
        refine qV_get (pc := 28) kX7 0 (le_b rfl) lk_X7_7 rfl dX7_putting_28 (by first | assumption | exact hU_self _ _ _ | (refine (hU_ne (by omega)).trans ?_; first | assumption | exact hU_self _ _ _ | (refine (hU_ne (by omega)).trans ?_; first | assumption | exact hU_self _ _ _ | (refine (hU_ne (by omega)).trans ?_; first | assumption | exact hU_self _ _ _)))) (by exact rfl) ?_
        refine qV_iconst (pc := 31) dX7_putting_31 ?_
        refine qV_iload (pc := 32) 5 dX7_putting_32 rfl ?_
        refine qV_iadd (pc := 34) dX7_putting_34 ?_
        refine qV_ialdN (pc := 35) (3 + d) dX7_putting_35 (by first | assumption | exact hU_self _ _ _ | (refine (hU_ne (by omega)).trans ?_; first | assumption | exact hU_self _ _ _ | (refine (hU_ne (by omega)).trans ?_; first | assumption | exact hU_self _ _ _ | (refine (hU_ne (by omega)).trans ?_; first | assumption | exact hU_self _ _ _)))) (by omega) (by omega) e1 ?_
        refine qV_iastM (pc := 36) (3 + d + m) dX7_putting_36 (by omega) (by omega) ?_
        refine qV_iinc (pc := 37) 5 dX7_putting_37 rfl (le_b rfl) (le_b rfl) rfl ?_
        refine qV_goto (pc := 40) 10 dX7_putting_40 (by decide) ?_
        refine ih _ _ _ _ _ (by omega) (by omega) (by omega) (fun t ht => ?_) (fun t ht ht2 => ?_) (fun q hq2 => ?_)
        · rw [va_up_ne _ _ (by omega)]; exact g1 t (by omega)
        · by_cases e : t = d
          · subst e; rw [va_up_self]
          · rw [va_up_ne _ _ (by omega)]; exact g2 t (by omega) ht2
        · rw [va_up_ne _ _ (by omega)]; exact g3 q hq2
set_option maxRecDepth 100000 in
set_option maxHeartbeats 4000000 in
theorem put2 {n i m fa a N : Nat} {at0 : Int} {f W s : Nat → Int} {Q : Option Value → qH → Nat → Prop} (ho : h r = some (rob r kn ty st)) (hn : n + m ≤ 216) (hi : i ≤ n) (hfa : h fa = some (iA 0 N f)) (hfr : fa ≠ r + 1) (ha : at0 = a) (hN : a + m ≤ N ∧ N ≤ 100000) (hf : ∀ j, j < m → f (a + j) = W j)
    (kk : ∀ (g : Nat → Int) (q : Int) (x6 x7 x8 : Option Value), (∀ t, t < m → g (3 + i + t) = W t) → (∀ q, (q < 3 + i ∨ 3 + i + m ≤ q) → g q = s q) → qVM l mX7_putting 0 0 h sz Q 0 0 (hM h r g) sz 76 [some (.ref r), some (vI i), some (.ref fa), some (vI at0), some (vI m), some (vI q), x6, x7, x8] []) :
    ∀ (d v : Nat) (q : Int) (g : Nat → Int) (x6 x7 x8 : Option Value), m - v = d → v ≤ m → q = (v : Int) → (∀ t, t < v → g (3 + i + t) = W t) → (∀ q, (q < 3 + i ∨ 3 + i + m ≤ q) → g q = s q) → qVM l mX7_putting 0 0 h sz Q 0 0 (hM h r g) sz 46 [some (.ref r), some (vI i), some (.ref fa), some (vI at0), some (vI m), some (vI q), x6, x7, x8] [] := by
  intro d
  induction d with
  | zero =>
    intro v q g x6 x7 x8 hd hv hq g1 g2
    obtain rfl : v = m := by omega
    refine qV_iload (pc := 46) 5 dX7_putting_46 rfl ?_
    refine qV_iload (pc := 48) 4 dX7_putting_48 rfl ?_
    refine qV_icmp_ge (pc := 50) 76 dX7_putting_50 (by decide) ⟨by omega, by omega⟩ ⟨by omega, by omega⟩ (fun c50 => ?_) (fun c50 => ?_)
    · exact kk g _ _ _ _ g1 g2
    · exfalso; omega
  | succ d ih =>
    intro v q g x6 x7 x8 hd hv hq g1 g2
    have e1 := hf v (by omega)
    refine qV_iload (pc := 46) 5 dX7_putting_46 rfl ?_
    refine qV_iload (pc := 48) 4 dX7_putting_48 rfl ?_
    refine qV_icmp_ge (pc := 50) 76 dX7_putting_50 (by decide) ⟨by omega, by omega⟩ ⟨by omega, by omega⟩ (fun c50 => ?_) (fun c50 => ?_)
    · exfalso; omega
    · refine qV_aload_n (pc := 53) 0 dX7_putting_53 rfl rfl ?_
      refine qV_get (pc := 54) kX7 0 (le_b rfl) lk_X7_7 rfl dX7_putting_54 (by first | assumption | exact hU_self _ _ _ | (refine (hU_ne (by omega)).trans ?_; first | assumption | exact hU_self _ _ _ | (refine (hU_ne (by omega)).trans ?_; first | assumption | exact hU_self _ _ _ | (refine (hU_ne (by omega)).trans ?_; first | assumption | exact hU_self _ _ _)))) (by exact rfl) ?_
      refine qV_iconst (pc := 57) dX7_putting_57 ?_
      refine qV_iload_n (pc := 58) 1 dX7_putting_58 rfl rfl ?_
      refine qV_iadd (pc := 59) dX7_putting_59 ?_
      refine qV_iload (pc := 60) 5 dX7_putting_60 rfl ?_
      refine qV_iadd (pc := 62) dX7_putting_62 ?_
      refine qV_aload_n (pc := 63) 2 dX7_putting_63 rfl rfl ?_
      refine qV_iload_n (pc := 64) 3 dX7_putting_64 rfl rfl ?_
      refine qV_iload (pc := 65) 5 dX7_putting_65 rfl ?_
      refine qV_iadd (pc := 67) dX7_putting_67 ?_
      refine qV_ialdN (pc := 68) (a + v) dX7_putting_68 (by first | assumption | exact hU_self _ _ _ | (refine (hU_ne (by omega)).trans ?_; first | assumption | exact hU_self _ _ _ | (refine (hU_ne (by omega)).trans ?_; first | assumption | exact hU_self _ _ _ | (refine (hU_ne (by omega)).trans ?_; first | assumption | exact hU_self _ _ _)))) (by omega) (by omega) e1 ?_
      refine qV_iastM (pc := 69) (3 + i + v) dX7_putting_69 (by omega) (by omega) ?_
      refine qV_iinc (pc := 70) 5 dX7_putting_70 rfl (le_b rfl) (le_b rfl) rfl ?_
      refine qV_goto (pc := 73) 46 dX7_putting_73 (by decide) ?_
      refine ih (v + 1) _ _ _ _ _ (by omega) (by omega) (by omega) (fun t ht => ?_) (fun q hq2 => ?_)
      · by_cases e : t = v
        · subst e; rw [va_up_self]
        · rw [va_up_ne _ _ (by omega)]; exact g1 t (by omega)
      · rw [va_up_ne _ _ (by omega)]; exact g2 q hq2
set_option maxRecDepth 100000 in
set_option maxHeartbeats 4000000 in
theorem put3 {i m fa k p : Nat} {at0 z : Int} {s : Nat → Int} {Q : Option Value → qH → Nat → Prop} (ho : h r = some (rob r kn ty st)) (hz : 1 ≤ z ∧ z ≤ 32) (hp : 1 ≤ p ∧ p ≤ 4) (hk : k ≤ 230)
    (kk : ∀ (g : Nat → Int) (x8 : Option Value), (∀ t, t < p → g (259 + k + t) = z / p + (if (t : Int) < z % p then 1 else 0)) → (∀ q, (q < 259 + k ∨ 259 + k + p ≤ q) → g q = s q) → qVM l mX7_putting 0 0 h sz Q 0 0 (hM h r g) sz 197 [some (.ref r), some (vI i), some (.ref fa), some (vI at0), some (vI m), some (vI k), some (vI z), some (vI p), x8] []) :
    ∀ (d v : Nat) (q : Int) (g : Nat → Int), p - v = d → v ≤ p → q = (v : Int) → (∀ t, t < v → g (259 + k + t) = z / p + (if (t : Int) < z % p then 1 else 0)) → (∀ q, (q < 259 + k ∨ 259 + k + p ≤ q) → g q = s q) → qVM l mX7_putting 0 0 h sz Q 0 0 (hM h r g) sz 149 [some (.ref r), some (vI i), some (.ref fa), some (vI at0), some (vI m), some (vI k), some (vI z), some (vI p), some (vI q)] [] := by
  have hr1 : 0 ≤ z % (p : Int) := Int.emod_nonneg z (by omega)
  have hr2 : z % (p : Int) < p := Int.emod_lt_of_pos z (by omega)
  intro d
  induction d with
  | zero =>
    intro v q g hd hv hq g1 g2
    obtain rfl : v = p := by omega
    refine qV_iload (pc := 149) 8 dX7_putting_149 rfl ?_
    refine qV_iload (pc := 151) 7 dX7_putting_151 rfl ?_
    refine qV_icmp_ge (pc := 153) 197 dX7_putting_153 (by decide) ⟨by omega, by omega⟩ ⟨by omega, by omega⟩ (fun c153 => ?_) (fun c153 => ?_)
    · exact kk g _ g1 g2
    · exfalso; omega
  | succ d ih =>
    intro v q g hd hv hq g1 g2
    refine qV_iload (pc := 149) 8 dX7_putting_149 rfl ?_
    refine qV_iload (pc := 151) 7 dX7_putting_151 rfl ?_
    refine qV_icmp_ge (pc := 153) 197 dX7_putting_153 (by decide) ⟨by omega, by omega⟩ ⟨by omega, by omega⟩ (fun c153 => ?_) (fun c153 => ?_)
    · exfalso; omega
    · refine qV_aload_n (pc := 156) 0 dX7_putting_156 rfl rfl ?_
      refine qV_get (pc := 157) kX7 0 (le_b rfl) lk_X7_7 rfl dX7_putting_157 (by first | assumption | exact hU_self _ _ _ | (refine (hU_ne (by omega)).trans ?_; first | assumption | exact hU_self _ _ _ | (refine (hU_ne (by omega)).trans ?_; first | assumption | exact hU_self _ _ _ | (refine (hU_ne (by omega)).trans ?_; first | assumption | exact hU_self _ _ _)))) (by exact rfl) ?_
      refine qV_sipush (pc := 160) dX7_putting_160 rfl ?_
      refine qV_iload (pc := 163) 5 dX7_putting_163 rfl ?_
      refine qV_iadd (pc := 165) dX7_putting_165 ?_
      refine qV_iload (pc := 166) 8 dX7_putting_166 rfl ?_
      refine qV_iadd (pc := 168) dX7_putting_168 ?_
      refine qV_iload (pc := 169) 6 dX7_putting_169 rfl ?_
      refine qV_iload (pc := 171) 7 dX7_putting_171 rfl ?_
      refine qV_idiv (pc := 173) dX7_putting_173 (by omega) ?_
      refine qV_iload (pc := 174) 8 dX7_putting_174 rfl ?_
      refine qV_iload (pc := 176) 6 dX7_putting_176 rfl ?_
      refine qV_iload (pc := 178) 7 dX7_putting_178 rfl ?_
      refine qV_irem (pc := 180) dX7_putting_180 (by omega) ?_
      refine qV_icmp_ge (pc := 181) 188 dX7_putting_181 (by decide) ⟨by omega, by omega⟩ ⟨by omega, by omega⟩ (fun c181 => ?_) (fun c181 => ?_)
      · have e9 : z / p + (if (v : Int) < z % p then 1 else 0) = z / p + 0 := by rw [if_neg (by omega)]
        refine qV_iconst (pc := 188) dX7_putting_188 ?_
        refine qV_iadd (pc := 189) dX7_putting_189 ?_
        refine qV_iastM (pc := 190) (259 + k + v) dX7_putting_190 (by omega) (by omega) ?_
        refine qV_iinc (pc := 191) 8 dX7_putting_191 rfl (le_b rfl) (le_b rfl) rfl ?_
        refine qV_goto (pc := 194) 149 dX7_putting_194 (by decide) ?_
        refine ih (v + 1) _ _ (by omega) (by omega) (by omega) (fun t ht => ?_) (fun q hq2 => ?_)
        · by_cases e : t = v
          · subst e; rw [va_up_self]; exact e9.symm
          · rw [va_up_ne _ _ (by omega)]; exact g1 t (by omega)
        · rw [va_up_ne _ _ (by omega)]; exact g2 q hq2
      · have e9 : z / p + (if (v : Int) < z % p then 1 else 0) = z / p + 1 := by rw [if_pos (by omega)]
        refine qV_iconst (pc := 184) dX7_putting_184 ?_
        refine qV_goto (pc := 185) 189 dX7_putting_185 (by decide) ?_
        refine qV_iadd (pc := 189) dX7_putting_189 ?_
        refine qV_iastM (pc := 190) (259 + k + v) dX7_putting_190 (by omega) (by omega) ?_
        refine qV_iinc (pc := 191) 8 dX7_putting_191 rfl (le_b rfl) (le_b rfl) rfl ?_
        refine qV_goto (pc := 194) 149 dX7_putting_194 (by decide) ?_
        refine ih (v + 1) _ _ (by omega) (by omega) (by omega) (fun t ht => ?_) (fun q hq2 => ?_)
        · by_cases e : t = v
          · subst e; rw [va_up_self]; exact e9.symm
          · rw [va_up_ne _ _ (by omega)]; exact g1 t (by omega)
        · rw [va_up_ne _ _ (by omega)]; exact g2 q hq2
set_option maxRecDepth 100000 in
set_option maxHeartbeats 4000000 in
theorem put_rest {n i m fa c k p : Nat} {at0 z rd : Int} {T C m0 g : Nat → Int} {x5 x6 x7 x8 : Option Value} (ho : h r = some (rob r kn ty st)) (s0 : g 0 = n) (s1 : g 1 = c) (s2 : g 2 = rd) (sT : ∀ j, j < n + m → g (3 + j) = T j) (sC : ∀ j, j < c → g (259 + j) = C j) (sM : ∀ j, j < 26 → g (515 + j) = m0 j) (hC : ∀ j, j < c → 0 ≤ C j ∧ C j ≤ 8) (hcs : csum C c ≤ 5000) (hi : (i : Int) ≤ csum C c) (hi2 : i ≤ 216) (hm : m ≤ 24) (hn : n + m ≤ 216) (hc : 0 < c ∧ c ≤ 217) (hka : ca C i c = k) (hk : k < c) (hz : C k + (m : Int) = z) (hz2 : 1 ≤ z ∧ z ≤ 32) (hp : (p : Int) = (z + 7) / 8) (hrd : 0 ≤ rd ∧ rd ≤ 216) (hm0 : ∀ j, j < 26 → -9 ≤ m0 j ∧ m0 j ≤ 5000) : qVM l mX7_putting 0 0 h sz (fun v h' sz' => v = none ∧ (∃ g, h' = hM h r g ∧ SPx g (n + m) T (c + p - 1) (gwF C k p z) (fun j => mvP (m0 j) i m) (mvP rd i m)) ∧ sz' = sz) 0 0 (hM h r g) sz 101 [some (.ref r), some (vI i), some (.ref fa), some (vI at0), some (vI m), x5, x6, x7, x8] [] := by
  have hp2 : 1 ≤ p ∧ p ≤ 4 := by omega
  have hp3 : (z + 8 - 1) / 8 = (p : Int) := by omega
  have ho1 : hM h r g r = some (rob r kn ty st) := (hU_ne (by omega)).trans ho
  have hca := m_chunkAt (l := l) (sz := sz) ho1 (hU_self _ _ _) sC (fun j hj => (hC j hj).1) hcs ⟨by omega, by omega⟩ hi (by omega) hc.1
  rw [hka] at hca
  have ek := sC k hk
  refine qV_aload_n (pc := 101) 0 dX7_putting_101 rfl rfl ?_
  refine qV_iload_n (pc := 102) 1 dX7_putting_102 rfl rfl ?_
  refine qV_rdV (pc := 103) (hca) nX7_chunkAt kX7 lk_X7_42 dX7_putting_103 (by first | assumption | exact hU_self _ _ _ | (refine (hU_ne (by omega)).trans ?_; first | assumption | exact hU_self _ _ _ | (refine (hU_ne (by omega)).trans ?_; first | assumption | exact hU_self _ _ _ | (refine (hU_ne (by omega)).trans ?_; first | assumption | exact hU_self _ _ _)))) ⟨le_b rfl, le_b rfl⟩ ⟨le_b rfl, le_b rfl⟩ rfl (le_b rfl) ?_
  refine qV_istore (pc := 106) 5 dX7_putting_106 (le_b rfl) (le_b rfl) rfl ?_
  refine qV_aload_n (pc := 108) 0 dX7_putting_108 rfl rfl ?_
  refine qV_get (pc := 109) kX7 0 (le_b rfl) lk_X7_7 rfl dX7_putting_109 (by first | assumption | exact hU_self _ _ _ | (refine (hU_ne (by omega)).trans ?_; first | assumption | exact hU_self _ _ _ | (refine (hU_ne (by omega)).trans ?_; first | assumption | exact hU_self _ _ _ | (refine (hU_ne (by omega)).trans ?_; first | assumption | exact hU_self _ _ _)))) (by exact rfl) ?_
  refine qV_sipush (pc := 112) dX7_putting_112 rfl ?_
  refine qV_iload (pc := 115) 5 dX7_putting_115 rfl ?_
  refine qV_iadd (pc := 117) dX7_putting_117 ?_
  refine qV_ialdN (pc := 118) (259 + k) dX7_putting_118 (by first | assumption | exact hU_self _ _ _ | (refine (hU_ne (by omega)).trans ?_; first | assumption | exact hU_self _ _ _ | (refine (hU_ne (by omega)).trans ?_; first | assumption | exact hU_self _ _ _ | (refine (hU_ne (by omega)).trans ?_; first | assumption | exact hU_self _ _ _)))) (by omega) (by omega) ek ?_
  refine qV_iload (pc := 119) 4 dX7_putting_119 rfl ?_
  refine qV_iadd (pc := 121) dX7_putting_121 ?_
  refine qV_istore (pc := 122) 6 dX7_putting_122 (le_b rfl) (le_b rfl) rfl ?_
  rw [hz]
  refine qV_iload (pc := 124) 6 dX7_putting_124 rfl ?_
  refine qV_bipush (pc := 126) dX7_putting_126 rfl ?_
  refine qV_iadd (pc := 128) dX7_putting_128 ?_
  refine qV_iconst (pc := 129) dX7_putting_129 ?_
  refine qV_isub (pc := 130) dX7_putting_130 ?_
  refine qV_bipush (pc := 131) dX7_putting_131 rfl ?_
  refine qV_idiv (pc := 133) dX7_putting_133 (by omega) ?_
  refine qV_istore (pc := 134) 7 dX7_putting_134 (le_b rfl) (le_b rfl) rfl ?_
  rw [hp3]
  refine qV_aload_n (pc := 136) 0 dX7_putting_136 rfl rfl ?_
  refine qV_iload (pc := 137) 5 dX7_putting_137 rfl ?_
  refine qV_iload (pc := 139) 7 dX7_putting_139 rfl ?_
  refine qV_iconst (pc := 141) dX7_putting_141 ?_
  refine qV_isub (pc := 142) dX7_putting_142 ?_
  refine qV_voV (pc := 143) (m_opens (k := k) (d := p - 1) (c := c) ho1 (hU_self _ _ _) rfl (by omega) (by omega) hk s1) nX7_opens kX7 lk_X7_46 dX7_putting_143 (by first | assumption | exact hU_self _ _ _ | (refine (hU_ne (by omega)).trans ?_; first | assumption | exact hU_self _ _ _ | (refine (hU_ne (by omega)).trans ?_; first | assumption | exact hU_self _ _ _ | (refine (hU_ne (by omega)).trans ?_; first | assumption | exact hU_self _ _ _)))) ⟨le_b rfl, le_b rfl⟩ ⟨le_b rfl, le_b rfl⟩ rfl (le_b rfl) ?_
  rintro h2 sz2 ⟨⟨g2, rfl, o1, o2, o3, o4⟩, rfl⟩
  refine qV_heap ?_ (hU_hU _ _ _ _) rfl
  refine qV_iconst (pc := 146) dX7_putting_146 ?_
  refine qV_istore (pc := 147) 8 dX7_putting_147 (le_b rfl) (le_b rfl) rfl ?_
  refine put3 (s := g2) ho hz2 hp2 (by omega) (fun g3 x8 g4 g5 => ?_) p 0 _ g2 (by omega) (by omega) rfl (fun t ht => by omega) (fun _ _ => rfl)
  have e0 : g3 0 = n := by rw [g5 0 (by omega), o4 0 (by omega) (by omega)]; exact s0
  refine qV_aload_n (pc := 197) 0 dX7_putting_197 rfl rfl ?_
  refine qV_get (pc := 198) kX7 0 (le_b rfl) lk_X7_7 rfl dX7_putting_198 (by first | assumption | exact hU_self _ _ _ | (refine (hU_ne (by omega)).trans ?_; first | assumption | exact hU_self _ _ _ | (refine (hU_ne (by omega)).trans ?_; first | assumption | exact hU_self _ _ _ | (refine (hU_ne (by omega)).trans ?_; first | assumption | exact hU_self _ _ _)))) (by exact rfl) ?_
  refine qV_iconst (pc := 201) dX7_putting_201 ?_
  refine qV_dup2 (pc := 202) dX7_putting_202 rfl rfl ?_
  refine qV_ialdN (pc := 203) (0) dX7_putting_203 (by first | assumption | exact hU_self _ _ _ | (refine (hU_ne (by omega)).trans ?_; first | assumption | exact hU_self _ _ _ | (refine (hU_ne (by omega)).trans ?_; first | assumption | exact hU_self _ _ _ | (refine (hU_ne (by omega)).trans ?_; first | assumption | exact hU_self _ _ _)))) (by omega) (by omega) e0 ?_
  refine qV_iload (pc := 204) 4 dX7_putting_204 rfl ?_
  refine qV_iadd (pc := 206) dX7_putting_206 ?_
  refine qV_iastM (pc := 207) (0) dX7_putting_207 (by omega) (by omega) ?_
  refine qV_sipush (pc := 208) dX7_putting_208 rfl ?_
  refine qV_istore (pc := 211) 8 dX7_putting_211 (le_b rfl) (le_b rfl) rfl ?_
  refine mputs (n := n + m) (T := T) (c := c + p - 1) (C := gwF C k p z) (m0 := m0) (rd := rd) ho ⟨by omega, by omega⟩ ⟨by omega, by omega⟩ ⟨by omega, by omega⟩ hm0 (by omega) (by omega) 26 0 _ _ _ _ _ _ _ (by omega) (by omega) rfl ⟨?_, ?_, ?_, fun j hj => ?_, fun j hj => ?_, fun j hj => ?_⟩
  · rw [va_up_self]; omega
  · rw [va_up_ne _ _ (by omega), g5 1 (by omega), o1]; omega
  · rw [va_up_ne _ _ (by omega), g5 2 (by omega), o4 2 (by omega) (by omega)]; exact s2
  · rw [va_up_ne _ _ (by omega), g5 _ (by omega), o4 _ (by omega) (by omega)]; exact sT j hj
  · rw [va_up_ne _ _ (by omega)]
    simp only [gwF]
    by_cases e1 : j < k
    · rw [if_pos e1, g5 _ (by omega), o2 j (by omega)]; exact sC j (by omega)
    · rw [if_neg e1]
      by_cases e2 : j < k + p
      · rw [if_pos e2]
        have := g4 (j - k) (by omega)
        rw [show 259 + k + (j - k) = 259 + j by omega] at this
        exact this
      · rw [if_neg e2, g5 _ (by omega)]
        have := o3 (j - (p - 1)) (by omega) (by omega)
        rw [show 259 + (j - (p - 1)) + (p - 1) = 259 + j by omega] at this
        rw [this]
        exact sC _ (by omega)
  · rw [va_up_ne _ _ (by omega), g5 _ (by omega), o4 _ (by omega) (by omega), sM j hj]
    simp only []
    rw [if_neg (by omega)]
set_option maxRecDepth 100000 in
set_option maxHeartbeats 4000000 in
theorem m_putting {p q x : Int} {i m a fa N : Nat} {f W s : Nat → Int} {P : PG} (ho : h r = some (rob r kn ty st)) (hs : h (r + 1) = some (iA 0 541 s)) (hP : SP s P) (hw : wf 216 P) (hfa : h fa = some (iA 0 N f)) (hfr : fa ≠ r + 1) (hp : p = i) (hx : x = a) (hq : q = m) (hN : a + m ≤ N ∧ N ≤ 100000) (hf : ∀ j, j < m → f (a + j) = W j) (hi : i ≤ P.1) (hm0 : 0 < m) (hm : m ≤ 24) (hn : P.1 + m ≤ 216) : qVo l mX7_putting 0 0 [.ref r, vI p, .ref fa, vI x, vI q] h sz (fun h' sz' => (∃ g, h' = hM h r g ∧ SP g (putP P i m W)) ∧ sz' = sz) := by
  subst hp; subst hq
  obtain ⟨p0, p1, p2, pT, pC, pM⟩ := id hP
  obtain ⟨w1, w2, w3, w4, w5, w6, w7⟩ := id hw
  have wcl := hw.c_le
  obtain ⟨z1, z2, z3, z4, z5, z6⟩ := wf_g hw hi
  obtain ⟨y1, y2, y3⟩ := gP_ok hw hi hm0 hm
  refine qC.of 4 (by decide) (le_b rfl) ?_
  refine qV_aload_n (pc := 0) 0 dX7_putting_0 rfl rfl ?_
  refine qV_get (pc := 1) kX7 0 (le_b rfl) lk_X7_7 rfl dX7_putting_1 (by first | assumption | exact hU_self _ _ _ | (refine (hU_ne (by omega)).trans ?_; first | assumption | exact hU_self _ _ _ | (refine (hU_ne (by omega)).trans ?_; first | assumption | exact hU_self _ _ _ | (refine (hU_ne (by omega)).trans ?_; first | assumption | exact hU_self _ _ _)))) (by exact rfl) ?_
  refine qV_iconst (pc := 4) dX7_putting_4 ?_
  refine qV_ialdN (pc := 5) (0) dX7_putting_5 (by first | assumption | exact hU_self _ _ _ | (refine (hU_ne (by omega)).trans ?_; first | assumption | exact hU_self _ _ _ | (refine (hU_ne (by omega)).trans ?_; first | assumption | exact hU_self _ _ _ | (refine (hU_ne (by omega)).trans ?_; first | assumption | exact hU_self _ _ _)))) (by omega) (by omega) p0 ?_
  refine qV_iconst (pc := 6) dX7_putting_6 ?_
  refine qV_isub (pc := 7) dX7_putting_7 ?_
  refine qV_istore (pc := 8) 5 dX7_putting_8 (le_b rfl) (le_b rfl) rfl ?_
  refine qV_heap ?_ (hU_id hs).symm rfl
  refine put1 (n := P.1) ho hn hi hm0 (fun g1 q x6 x7 x8 a1 a2 a3 => ?_) P.1 _ s _ _ _ hi (Nat.le_refl _) rfl (fun _ _ => rfl) (fun t ht ht2 => by omega) (fun _ _ => rfl)
  refine qV_iconst (pc := 43) dX7_putting_43 ?_
  refine qV_istore (pc := 44) 5 dX7_putting_44 (le_b rfl) (le_b rfl) rfl ?_
  refine put2 (n := P.1) (W := W) ho hn hi hfa hfr hx hN hf (fun g2 q x6 x7 x8 b1 b2 => ?_) m 0 _ g1 _ _ _ (by omega) (by omega) rfl (fun t ht => by omega) (fun _ _ => rfl)
  have e0 : g2 0 = P.1 := by rw [b2 0 (by omega), a3 0 (by omega)]; exact p0
  have e1 : g2 1 = P.2.2.1 := by rw [b2 1 (by omega), a3 1 (by omega)]; exact p1
  have e2 : g2 2 = P.2.2.2.2.2 := by rw [b2 2 (by omega), a3 2 (by omega)]; exact p2
  have eT : ∀ j, j < P.1 + m → g2 (3 + j) = (putP P i m W).2.1 j := by
    intro j hj
    simp only [putP]
    by_cases c1 : j < i
    · rw [if_pos c1, b2 _ (by omega), a1 j c1]; exact pT j (by omega)
    · rw [if_neg c1]
      by_cases c2 : j < i + m
      · rw [if_pos c2]
        have := b1 (j - i) (by omega)
        rw [show 3 + i + (j - i) = 3 + j by omega] at this
        exact this
      · rw [if_neg c2, b2 _ (by omega)]
        have := a2 (j - m) (by omega) (by omega)
        rw [show 3 + (j - m) + m = 3 + j by omega] at this
        rw [this]
        exact pT _ (by omega)
  have eC : ∀ j, j < P.2.2.1 → g2 (259 + j) = P.2.2.2.1 j := fun j hj => by rw [b2 _ (by omega), a3 _ (by omega)]; exact pC j hj
  have eM : ∀ j, j < 26 → g2 (515 + j) = mq (P.2.2.2.2.1 j) := fun j hj => by rw [b2 _ (by omega), a3 _ (by omega)]; exact pM j hj
  have hfin : ∀ (v : Option Value) (h' : qH) (sz' : Nat), (v = none ∧ (∃ g, h' = hM h r g ∧ SPx g (P.1 + m) (putP P i m W).2.1 (gC P + gP P i m - 1) (gwF (gG P) (gK P i) (gP P i m) (gS P i m)) (fun j => mvP (mq (P.2.2.2.2.1 j)) i m) (mvP P.2.2.2.2.2 i m)) ∧ sz' = sz) → (v = none ∧ (∃ g, h' = hM h r g ∧ SP g (putP P i m W)) ∧ sz' = sz) := by
    rintro v h' sz' ⟨rfl, ⟨g10, rfl, b0, b1, b2, b3, b4, b5⟩, rfl⟩
    refine ⟨rfl, ⟨g10, rfl, b0, b1, b2, b3, b4, fun j hj => ?_⟩, rfl⟩
    rw [b5 j hj]
    have := w5 j hj
    simp only [putP, mq, mvP]
    repeat' split
    all_goals omega
  by_cases hc0 : P.2.2.1 = 0
  · have k1 : gC P = 1 := by simp [gC, hc0]
    have k2 : gG P = fun _ => 0 := by simp [gG, hc0]
    rw [hc0] at e1
    refine qV_aload_n (pc := 76) 0 dX7_putting_76 rfl rfl ?_
    refine qV_get (pc := 77) kX7 0 (le_b rfl) lk_X7_7 rfl dX7_putting_77 (by first | assumption | exact hU_self _ _ _ | (refine (hU_ne (by omega)).trans ?_; first | assumption | exact hU_self _ _ _ | (refine (hU_ne (by omega)).trans ?_; first | assumption | exact hU_self _ _ _ | (refine (hU_ne (by omega)).trans ?_; first | assumption | exact hU_self _ _ _)))) (by exact rfl) ?_
    refine qV_iconst (pc := 80) dX7_putting_80 ?_
    refine qV_ialdN (pc := 81) (1) dX7_putting_81 (by first | assumption | exact hU_self _ _ _ | (refine (hU_ne (by omega)).trans ?_; first | assumption | exact hU_self _ _ _ | (refine (hU_ne (by omega)).trans ?_; first | assumption | exact hU_self _ _ _ | (refine (hU_ne (by omega)).trans ?_; first | assumption | exact hU_self _ _ _)))) (by omega) (by omega) e1 ?_
    refine qV_ifne (pc := 82) 101 dX7_putting_82 (by decide) ⟨by omega, by omega⟩ (fun c82 => ?_) (fun c82 => ?_)
    · exfalso; omega
    · refine qV_aload_n (pc := 85) 0 dX7_putting_85 rfl rfl ?_
      refine qV_get (pc := 86) kX7 0 (le_b rfl) lk_X7_7 rfl dX7_putting_86 (by first | assumption | exact hU_self _ _ _ | (refine (hU_ne (by omega)).trans ?_; first | assumption | exact hU_self _ _ _ | (refine (hU_ne (by omega)).trans ?_; first | assumption | exact hU_self _ _ _ | (refine (hU_ne (by omega)).trans ?_; first | assumption | exact hU_self _ _ _)))) (by exact rfl) ?_
      refine qV_iconst (pc := 89) dX7_putting_89 ?_
      refine qV_iconst (pc := 90) dX7_putting_90 ?_
      refine qV_iastM (pc := 91) (1) dX7_putting_91 (by omega) (by omega) ?_
      refine qV_aload_n (pc := 92) 0 dX7_putting_92 rfl rfl ?_
      refine qV_get (pc := 93) kX7 0 (le_b rfl) lk_X7_7 rfl dX7_putting_93 (by first | assumption | exact hU_self _ _ _ | (refine (hU_ne (by omega)).trans ?_; first | assumption | exact hU_self _ _ _ | (refine (hU_ne (by omega)).trans ?_; first | assumption | exact hU_self _ _ _ | (refine (hU_ne (by omega)).trans ?_; first | assumption | exact hU_self _ _ _)))) (by exact rfl) ?_
      refine qV_sipush (pc := 96) dX7_putting_96 rfl ?_
      refine qV_iconst (pc := 99) dX7_putting_99 ?_
      refine qV_iastM (pc := 100) (259) dX7_putting_100 (by omega) (by omega) ?_
      refine qV_mono (put_rest (n := P.1) (c := gC P) (C := gG P) (k := gK P i) (T := (putP P i m W).2.1) (m0 := fun j => mq (P.2.2.2.2.1 j)) ho ?_ ?_ ?_ (fun j hj => ?_) (fun j hj => ?_) (fun j hj => ?_) z1 (by omega) (by omega) (by omega) hm hn (by omega) rfl z4.1 rfl ⟨y1, y2⟩ y3 (by omega) (fun j hj => by have := mq_in hw w1 hj; omega)) hfin
      · rw [va_up_ne _ _ (by omega), va_up_ne _ _ (by omega)]; exact e0
      · rw [va_up_ne _ _ (by omega), va_up_self, k1]; rfl
      · rw [va_up_ne _ _ (by omega), va_up_ne _ _ (by omega)]; exact e2
      · rw [va_up_ne _ _ (by omega), va_up_ne _ _ (by omega)]; exact eT j hj
      · obtain rfl : j = 0 := by omega
        rw [va_up_self, k2]
      · rw [va_up_ne _ _ (by omega), va_up_ne _ _ (by omega)]; exact eM j hj
  · have k1 : gC P = P.2.2.1 := by simp [gC, hc0]
    have k2 : gG P = P.2.2.2.1 := by simp [gG, hc0]
    refine qV_aload_n (pc := 76) 0 dX7_putting_76 rfl rfl ?_
    refine qV_get (pc := 77) kX7 0 (le_b rfl) lk_X7_7 rfl dX7_putting_77 (by first | assumption | exact hU_self _ _ _ | (refine (hU_ne (by omega)).trans ?_; first | assumption | exact hU_self _ _ _ | (refine (hU_ne (by omega)).trans ?_; first | assumption | exact hU_self _ _ _ | (refine (hU_ne (by omega)).trans ?_; first | assumption | exact hU_self _ _ _)))) (by exact rfl) ?_
    refine qV_iconst (pc := 80) dX7_putting_80 ?_
    refine qV_ialdN (pc := 81) (1) dX7_putting_81 (by first | assumption | exact hU_self _ _ _ | (refine (hU_ne (by omega)).trans ?_; first | assumption | exact hU_self _ _ _ | (refine (hU_ne (by omega)).trans ?_; first | assumption | exact hU_self _ _ _ | (refine (hU_ne (by omega)).trans ?_; first | assumption | exact hU_self _ _ _)))) (by omega) (by omega) e1 ?_
    refine qV_ifne (pc := 82) 101 dX7_putting_82 (by decide) ⟨by omega, by omega⟩ (fun c82 => ?_) (fun c82 => ?_)
    · refine qV_mono (put_rest (n := P.1) (c := gC P) (C := gG P) (k := gK P i) (T := (putP P i m W).2.1) (m0 := fun j => mq (P.2.2.2.2.1 j)) ho e0 (by rw [k1]; exact e1) e2 eT (fun j hj => ?_) eM z1 (by omega) (by omega) (by omega) hm hn (by omega) rfl z4.1 rfl ⟨y1, y2⟩ y3 (by omega) (fun j hj => by have := mq_in hw w1 hj; omega)) hfin
      rw [k2]; exact eC j (by omega)
    · exfalso; omega
set_option maxRecDepth 100000 in
set_option maxHeartbeats 4000000 in
theorem m_edit {p q x y : Int} {i k m a fa N : Nat} {f W s : Nat → Int} {P : PG} (ho : h r = some (rob r kn ty st)) (hs : h (r + 1) = some (iA 0 541 s)) (hP : SP s P) (hw : wf 216 P) (hfa : h fa = some (iA 0 N f)) (hfr : fa ≠ r + 1) (hp : p = i) (hq : q = k) (hx : x = a) (hy : y = m) (hN : a + m ≤ N ∧ N ≤ 100000) (hf : ∀ j, j < m → f (a + j) = W j) (hik : i + k ≤ P.1) (hm : m ≤ 24) (hn : P.1 - k + m ≤ 216) : qC l mX7_edit 0 0 [.ref r, vI p, vI q, .ref fa, vI x, vI y] h sz (fun v h' sz' => v = none ∧ (∃ g, h' = hM h r g ∧ SP g (edP P i k m W)) ∧ sz' = sz) := by
  subst hp; subst hq; subst hy
  have w1 := hw.1
  have hgen : ∀ (g : Nat → Int), SP g (if k = 0 then P else takeP P i k) → qVM l mX7_edit 0 0 h sz (fun v h' sz' => v = none ∧ (∃ g, h' = hM h r g ∧ SP g (edP P i k m W)) ∧ sz' = sz) 0 0 (hM h r g) sz 10 [some (.ref r), some (vI i), some (vI k), some (.ref fa), some (vI x), some (vI m)] [] := by
    intro g hS
    have hw1 := wf_take0 hw hik
    have hn1 : (if k = 0 then P else takeP P i k).1 = P.1 - k := by
      by_cases e : k = 0
      · rw [if_pos e, e]; rfl
      · rw [if_neg e]; rfl
    have ho1 : hM h r g r = some (rob r kn ty st) := (hU_ne (by omega)).trans ho
    have hfa1 : hM h r g fa = some (iA 0 N f) := (hU_ne hfr).trans hfa
    by_cases e : m = 0
    · subst e
      refine qV_iload (pc := 10) 5 dX7_edit_10 rfl ?_
      refine qV_ifle (pc := 12) 25 dX7_edit_12 (by decide) ⟨by omega, by omega⟩ (fun c12 => ?_) (fun c12 => ?_)
      · refine qV_vret (pc := 25) dX7_edit_25 rfl (le_b rfl) (le_b rfl) ?_
        exact ⟨rfl, ⟨g, rfl, by rw [show edP P i k 0 W = (if k = 0 then P else takeP P i k) from if_pos rfl]; exact hS⟩, rfl⟩
      · exfalso; omega
    · have hpu := m_putting (l := l) (sz := sz) (W := W) (i := i) (m := m) ho1 (hU_self _ _ _) hS hw1 hfa1 hfr rfl hx rfl hN hf (by omega) (by omega) hm (by omega)
      refine qV_iload (pc := 10) 5 dX7_edit_10 rfl ?_
      refine qV_ifle (pc := 12) 25 dX7_edit_12 (by decide) ⟨by omega, by omega⟩ (fun c12 => ?_) (fun c12 => ?_)
      · exfalso; omega
      · refine qV_aload_n (pc := 15) 0 dX7_edit_15 rfl rfl ?_
        refine qV_iload_n (pc := 16) 1 dX7_edit_16 rfl rfl ?_
        refine qV_aload_n (pc := 17) 3 dX7_edit_17 rfl rfl ?_
        refine qV_iload (pc := 18) 4 dX7_edit_18 rfl ?_
        refine qV_iload (pc := 20) 5 dX7_edit_20 rfl ?_
        refine qV_voV (pc := 22) (hpu) nX7_putting kX7 lk_X7_57 dX7_edit_22 (by first | assumption | exact hU_self _ _ _ | (refine (hU_ne (by omega)).trans ?_; first | assumption | exact hU_self _ _ _ | (refine (hU_ne (by omega)).trans ?_; first | assumption | exact hU_self _ _ _ | (refine (hU_ne (by omega)).trans ?_; first | assumption | exact hU_self _ _ _)))) ⟨le_b rfl, le_b rfl⟩ ⟨le_b rfl, le_b rfl⟩ rfl (le_b rfl) ?_
        rintro h2 sz2 ⟨⟨g2, rfl, hS2⟩, rfl⟩
        refine qV_vret (pc := 25) dX7_edit_25 rfl (le_b rfl) (le_b rfl) ?_
        exact ⟨rfl, ⟨g2, hU_hU _ _ _ _, by rw [show edP P i k m W = putP (if k = 0 then P else takeP P i k) i m W from if_neg e]; exact hS2⟩, rfl⟩
  by_cases e : k = 0
  · subst e
    refine qC.of 0 (by decide) (le_b rfl) ?_
    refine qV_iload_n (pc := 0) 2 dX7_edit_0 rfl rfl ?_
    refine qV_ifle (pc := 1) 10 dX7_edit_1 (by decide) ⟨by omega, by omega⟩ (fun c1 => ?_) (fun c1 => ?_)
    · refine qV_heap ?_ (hU_id hs).symm rfl
      exact hgen s (by rw [if_pos rfl]; exact hP)
    · exfalso; omega
  · have hta := m_taking (l := l) (sz := sz) ho hs hP hw rfl rfl (by omega) hik
    refine qC.of 0 (by decide) (le_b rfl) ?_
    refine qV_iload_n (pc := 0) 2 dX7_edit_0 rfl rfl ?_
    refine qV_ifle (pc := 1) 10 dX7_edit_1 (by decide) ⟨by omega, by omega⟩ (fun c1 => ?_) (fun c1 => ?_)
    · exfalso; omega
    · refine qV_aload_n (pc := 4) 0 dX7_edit_4 rfl rfl ?_
      refine qV_iload_n (pc := 5) 1 dX7_edit_5 rfl rfl ?_
      refine qV_iload_n (pc := 6) 2 dX7_edit_6 rfl rfl ?_
      refine qV_voV (pc := 7) (hta) nX7_taking kX7 lk_X7_54 dX7_edit_7 (by first | assumption | exact hU_self _ _ _ | (refine (hU_ne (by omega)).trans ?_; first | assumption | exact hU_self _ _ _ | (refine (hU_ne (by omega)).trans ?_; first | assumption | exact hU_self _ _ _ | (refine (hU_ne (by omega)).trans ?_; first | assumption | exact hU_self _ _ _)))) ⟨le_b rfl, le_b rfl⟩ ⟨le_b rfl, le_b rfl⟩ rfl (le_b rfl) ?_
      rintro h2 sz2 ⟨⟨g2, rfl, hS2⟩, rfl⟩
      exact hgen g2 (by rw [if_neg e]; exact hS2)
end REF3
