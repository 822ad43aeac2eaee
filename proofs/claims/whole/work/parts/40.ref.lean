/-! ===== the reference: rows by places ===== -/
theorem b01 (P : Prop) [Decidable P] : (if P then (1 : Int) else 0) = 0 ∨ (if P then (1 : Int) else 0) = 1 := by split <;> simp
theorem hU_hU (h : qH) (a : Nat) (e e' : qE) : hU (hU h a e) a e' = hU h a e' := by
  funext q
  simp only [hU]
  split <;> rfl
theorem hU_id {h : qH} {a : Nat} {e : qE} (ha : h a = some e) : hU h a e = h := by
  funext q
  simp only [hU]
  split
  · rename_i e2; rw [e2, ha]
  · rfl
section QN
variable {l : Launch} {M : MI} {R : Room} {EX : State → Array Value → Prop} {G : qG} {h0 : qH} {sz0 k n : Nat} {h : qH} {sz pc : Nat} {L : List (Option Value)} {st : List Value}
theorem qV_ialdN {a N : Nat} {f : Nat → Int} {z w : Int} (j : Nat) (hd : decode M.2.1 pc = .ok (.iaload, 1)) (ha : h a = some (iA 0 N f)) (hz : z = j) (hj : j < N ∧ N ≤ 100000) (hv : f j = w) (kk : qV l M R EX G h0 sz0 k n h sz (pc + 1) L (vI w :: st)) : qV l M R EX G h0 sz0 k n h sz pc L (vI z :: .ref a :: st) := by
  refine qV_iald hd ha (by omega) ?_
  rw [show z.toNat = j by omega, hv]
  exact kk
theorem qV_iastM {a N : Nat} {g : Nat → Int} {z x : Int} (j : Nat) (hd : decode M.2.1 pc = .ok (.iastore, 1)) (hz : z = j) (hj : j < N ∧ N ≤ 100000) (kk : qV l M R EX G h0 sz0 k n (hU h a (iA 0 N (va_up g j x))) sz (pc + 1) L st) : qV l M R EX G h0 sz0 k n (hU h a (iA 0 N g)) sz pc L (vI x :: vI z :: .ref a :: st) := by
  refine qV_iast hd (hU_self _ _ _) (by omega) ?_
  rw [show z.toNat = j by omega, hU_hU]
  exact kk
end QN
abbrev rob (r : Nat) (kn ty st : Int) : qE := oB 7 [.ref (r + 1), .ref (r + 2), vI kn, .ref (r + 3), .ref (r + 4), .ref (r + 5), vI ty, .ref (r + 6), .ref (r + 7), .ref (r + 8), .ref (r + 9), vI st]
def mq (x : Int) : Int := if x < 0 then -1 else x
/-- a page in a row of numbers -/
def SP (s : Nat → Int) (P : PG) : Prop := s 0 = P.1 ∧ s 1 = P.2.2.1 ∧ s 2 = P.2.2.2.2.2 ∧ (∀ j, j < P.1 → s (3 + j) = P.2.1 j) ∧ (∀ k, k < P.2.2.1 → s (259 + k) = P.2.2.2.1 k) ∧ ∀ j, j < 26 → s (515 + j) = mq (P.2.2.2.2.1 j)
section REF
variable {l : Launch} {h : qH} {sz r : Nat} {s : Nat → Int} {kn ty st : Int} {P : PG}
set_option maxRecDepth 100000 in
set_option maxHeartbeats 4000000 in
theorem m_in {x a b : Int} (hx : iR x) (ha : iR a) (hb : iR b) : qRd l mX7_in [vI x, vI a, vI b] h sz (vB (a ≤ x ∧ x ≤ b)) := by
  obtain ⟨x1, x2⟩ := hx
  obtain ⟨a1, a2⟩ := ha
  obtain ⟨b1, b2⟩ := hb
  refine qC.of 0 (by decide) (le_b rfl) ?_
  refine qV_iload_n (pc := 0) 0 dX7_in_0 rfl rfl ?_
  refine qV_iload_n (pc := 1) 1 dX7_in_1 rfl rfl ?_
  refine qV_icmp_lt (pc := 2) 14 dX7_in_2 (by decide) ⟨by omega, by omega⟩ ⟨by omega, by omega⟩ (fun c2 => ?_) (fun c2 => ?_)
  · refine qV_iconst (pc := 14) dX7_in_14 ?_
    refine qV_zret (pc := 15) dX7_in_15 rfl (by first | exact Or.inl rfl | exact Or.inr rfl | exact b01 _) (le_b rfl) (le_b rfl) ?_
    first | exact ⟨by rw [vB, if_pos (by omega)], rfl, rfl⟩ | exact ⟨by rw [vB, if_neg (by omega)], rfl, rfl⟩
  · refine qV_iload_n (pc := 5) 0 dX7_in_5 rfl rfl ?_
    refine qV_iload_n (pc := 6) 2 dX7_in_6 rfl rfl ?_
    refine qV_icmp_gt (pc := 7) 14 dX7_in_7 (by decide) ⟨by omega, by omega⟩ ⟨by omega, by omega⟩ (fun c7 => ?_) (fun c7 => ?_)
    · refine qV_iconst (pc := 14) dX7_in_14 ?_
      refine qV_zret (pc := 15) dX7_in_15 rfl (by first | exact Or.inl rfl | exact Or.inr rfl | exact b01 _) (le_b rfl) (le_b rfl) ?_
      first | exact ⟨by rw [vB, if_pos (by omega)], rfl, rfl⟩ | exact ⟨by rw [vB, if_neg (by omega)], rfl, rfl⟩
    · refine qV_iconst (pc := 10) dX7_in_10 ?_
      refine qV_goto (pc := 11) 15 dX7_in_11 (by decide) ?_
      refine qV_zret (pc := 15) dX7_in_15 rfl (by first | exact Or.inl rfl | exact Or.inr rfl | exact b01 _) (le_b rfl) (le_b rfl) ?_
      first | exact ⟨by rw [vB, if_pos (by omega)], rfl, rfl⟩ | exact ⟨by rw [vB, if_neg (by omega)], rfl, rfl⟩
set_option maxRecDepth 100000 in
set_option maxHeartbeats 4000000 in
theorem m_isPlace {x : Int} (hx : iR x) (ho : h r = some (rob r kn ty st)) (hs : h (r + 1) = some (iA 0 541 s)) (hP : SP s P) (hw : wf 216 P) : qRd l mX7_isPlace [.ref r, vI x] h sz (vB (0 ≤ x ∧ x ≤ P.1)) := by
  obtain ⟨p0, p1, p2, pT, pC, pM⟩ := id hP
  obtain ⟨w1, w2, w3, w4, w5, w6, w7⟩ := id hw
  have wcl := hw.c_le
  obtain ⟨x1, x2⟩ := hx
  refine qC.of 0 (by decide) (le_b rfl) ?_
  refine qV_iload_n (pc := 0) 1 dX7_isPlace_0 rfl rfl ?_
  refine qV_iconst (pc := 1) dX7_isPlace_1 ?_
  refine qV_aload_n (pc := 2) 0 dX7_isPlace_2 rfl rfl ?_
  refine qV_get (pc := 3) kX7 0 (le_b rfl) lk_X7_7 rfl dX7_isPlace_3 (by first | assumption | exact hU_self _ _ _ | (refine (hU_ne (by omega)).trans ?_; first | assumption | exact hU_self _ _ _ | (refine (hU_ne (by omega)).trans ?_; first | assumption | exact hU_self _ _ _ | (refine (hU_ne (by omega)).trans ?_; first | assumption | exact hU_self _ _ _)))) (by exact rfl) ?_
  refine qV_iconst (pc := 6) dX7_isPlace_6 ?_
  refine qV_ialdN (pc := 7) (0) dX7_isPlace_7 (by first | assumption | exact hU_self _ _ _ | (refine (hU_ne (by omega)).trans ?_; first | assumption | exact hU_self _ _ _ | (refine (hU_ne (by omega)).trans ?_; first | assumption | exact hU_self _ _ _ | (refine (hU_ne (by omega)).trans ?_; first | assumption | exact hU_self _ _ _)))) (by omega) (by omega) p0 ?_
  refine qV_rdS (pc := 8) (m_in ⟨x1, x2⟩ ⟨by omega, by omega⟩ ⟨by omega, by omega⟩) nX7_in lk_X7_38 dX7_isPlace_8 ⟨le_b rfl, le_b rfl⟩ ⟨le_b rfl, le_b rfl⟩ rfl (le_b rfl) ?_
  refine qV_zret (pc := 11) dX7_isPlace_11 rfl (by first | exact Or.inl rfl | exact Or.inr rfl | exact b01 _) (le_b rfl) (le_b rfl) ?_
  exact ⟨rfl, rfl, rfl⟩
set_option maxRecDepth 100000 in
set_option maxHeartbeats 4000000 in
theorem m_byteAt {q : Int} {j : Nat} (ho : h r = some (rob r kn ty st)) (hs : h (r + 1) = some (iA 0 541 s)) (hP : SP s P) (hw : wf 216 P) (hq : q = j) (hj : j < P.1) : qRd l mX7_byteAt [.ref r, vI q] h sz (vI (P.2.1 j)) := by
  obtain ⟨p0, p1, p2, pT, pC, pM⟩ := id hP
  obtain ⟨w1, w2, w3, w4, w5, w6, w7⟩ := id hw
  have wcl := hw.c_le
  refine qC.of 0 (by decide) (le_b rfl) ?_
  refine qV_aload_n (pc := 0) 0 dX7_byteAt_0 rfl rfl ?_
  refine qV_get (pc := 1) kX7 0 (le_b rfl) lk_X7_7 rfl dX7_byteAt_1 (by first | assumption | exact hU_self _ _ _ | (refine (hU_ne (by omega)).trans ?_; first | assumption | exact hU_self _ _ _ | (refine (hU_ne (by omega)).trans ?_; first | assumption | exact hU_self _ _ _ | (refine (hU_ne (by omega)).trans ?_; first | assumption | exact hU_self _ _ _)))) (by exact rfl) ?_
  refine qV_iconst (pc := 4) dX7_byteAt_4 ?_
  refine qV_iload_n (pc := 5) 1 dX7_byteAt_5 rfl rfl ?_
  refine qV_iadd (pc := 6) dX7_byteAt_6 ?_
  refine qV_ialdN (pc := 7) (3 + j) dX7_byteAt_7 (by first | assumption | exact hU_self _ _ _ | (refine (hU_ne (by omega)).trans ?_; first | assumption | exact hU_self _ _ _ | (refine (hU_ne (by omega)).trans ?_; first | assumption | exact hU_self _ _ _ | (refine (hU_ne (by omega)).trans ?_; first | assumption | exact hU_self _ _ _)))) (by omega) (by omega) (pT j hj) ?_
  refine qV_iret (pc := 8) dX7_byteAt_8 rfl (le_b rfl) (le_b rfl) ?_
  exact ⟨rfl, rfl, rfl⟩
set_option maxRecDepth 100000 in
set_option maxHeartbeats 4000000 in
theorem m_isLetter {x : Int} (hx : iR x) : qRd l mX7_isLetter [vI x] h sz (vB (x < 128 ∨ 191 < x)) := by
  obtain ⟨x1, x2⟩ := hx
  refine qC.of 0 (by decide) (le_b rfl) ?_
  refine qV_iload_n (pc := 0) 0 dX7_isLetter_0 rfl rfl ?_
  refine qV_sipush (pc := 1) dX7_isLetter_1 rfl ?_
  refine qV_sipush (pc := 4) dX7_isLetter_4 rfl ?_
  refine qV_rdS (pc := 7) (m_in ⟨x1, x2⟩ ⟨by decide, by decide⟩ ⟨by decide, by decide⟩) nX7_in lk_X7_38 dX7_isLetter_7 ⟨le_b rfl, le_b rfl⟩ ⟨le_b rfl, le_b rfl⟩ rfl (le_b rfl) ?_
  refine qV_ifneB (pc := 10) 17 dX7_isLetter_10 (by decide) (fun c10 => ?_) (fun c10 => ?_)
  · refine qV_iconst (pc := 17) dX7_isLetter_17 ?_
    refine qV_zret (pc := 18) dX7_isLetter_18 rfl (by first | exact Or.inl rfl | exact Or.inr rfl | exact b01 _) (le_b rfl) (le_b rfl) ?_
    first | exact ⟨by rw [vB, if_pos (by omega)], rfl, rfl⟩ | exact ⟨by rw [vB, if_neg (by omega)], rfl, rfl⟩
  · refine qV_iconst (pc := 13) dX7_isLetter_13 ?_
    refine qV_goto (pc := 14) 18 dX7_isLetter_14 (by decide) ?_
    refine qV_zret (pc := 18) dX7_isLetter_18 rfl (by first | exact Or.inl rfl | exact Or.inr rfl | exact b01 _) (le_b rfl) (le_b rfl) ?_
    first | exact ⟨by rw [vB, if_pos (by omega)], rfl, rfl⟩ | exact ⟨by rw [vB, if_neg (by omega)], rfl, rfl⟩
set_option maxRecDepth 100000 in
set_option maxHeartbeats 4000000 in
theorem m_has {x q : Int} {w : Nat} (hx : iR x) (hq : q = w) (hw : w < 4) : qRd l mX7_has [vI x, vI q] h sz (vI (hasM x w)) := by
  obtain ⟨x1, x2⟩ := hx
  refine qC.of 0 (by decide) (le_b rfl) ?_
  refine qV_iload_n (pc := 0) 1 dX7_has_0 rfl rfl ?_
  refine qV_ifne (pc := 1) 8 dX7_has_1 (by decide) ⟨by omega, by omega⟩ (fun c1 => ?_) (fun c1 => ?_)
  · refine qV_iload_n (pc := 8) 1 dX7_has_8 rfl rfl ?_
    refine qV_iconst (pc := 9) dX7_has_9 ?_
    refine qV_icmp_ne (pc := 10) 28 dX7_has_10 (by decide) ⟨by omega, by omega⟩ ⟨by omega, by omega⟩ (fun c10 => ?_) (fun c10 => ?_)
    · refine qV_iload_n (pc := 28) 1 dX7_has_28 rfl rfl ?_
      refine qV_iconst (pc := 29) dX7_has_29 ?_
      refine qV_icmp_ne (pc := 30) 47 dX7_has_30 (by decide) ⟨by omega, by omega⟩ ⟨by omega, by omega⟩ (fun c30 => ?_) (fun c30 => ?_)
      · refine qV_iload_n (pc := 47) 0 dX7_has_47 rfl rfl ?_
        refine qV_rdS (pc := 48) (m_isLetter ⟨x1, x2⟩) nX7_isLetter lk_X7_86 dX7_has_48 ⟨le_b rfl, le_b rfl⟩ ⟨le_b rfl, le_b rfl⟩ rfl (le_b rfl) ?_
        refine qV_ifeqB (pc := 51) 60 dX7_has_51 (by decide) (fun c51 => ?_) (fun c51 => ?_)
        · refine qV_iconst (pc := 60) dX7_has_60 ?_
          refine qV_goto (pc := 61) 76 dX7_has_61 (by decide) ?_
          refine qV_iret (pc := 76) dX7_has_76 rfl (le_b rfl) (le_b rfl) ?_
          first
          | exact ⟨by simp only [hasM]; rw [if_pos (by omega)], rfl, rfl⟩
          | exact ⟨by simp only [hasM]; rw [if_neg (by omega), if_pos (by omega), if_pos (by omega)], rfl, rfl⟩
          | exact ⟨by simp only [hasM]; rw [if_neg (by omega), if_pos (by omega), if_neg (by omega)], rfl, rfl⟩
          | exact ⟨by simp only [hasM]; rw [if_neg (by omega), if_neg (by omega), if_pos (by omega), if_pos (by omega)], rfl, rfl⟩
          | exact ⟨by simp only [hasM]; rw [if_neg (by omega), if_neg (by omega), if_pos (by omega), if_neg (by omega)], rfl, rfl⟩
          | exact ⟨by simp only [hasM]; rw [if_neg (by omega), if_neg (by omega), if_neg (by omega), if_pos (by omega)], rfl, rfl⟩
          | exact ⟨by simp only [hasM]; rw [if_neg (by omega), if_neg (by omega), if_neg (by omega), if_neg (by omega), if_pos (by omega)], rfl, rfl⟩
          | exact ⟨by simp only [hasM]; rw [if_neg (by omega), if_neg (by omega), if_neg (by omega), if_neg (by omega), if_neg (by omega)], rfl, rfl⟩
        · refine qV_iload_n (pc := 54) 0 dX7_has_54 rfl rfl ?_
          refine qV_bipush (pc := 55) dX7_has_55 rfl ?_
          refine qV_icmp_ge (pc := 57) 64 dX7_has_57 (by decide) ⟨by omega, by omega⟩ ⟨by omega, by omega⟩ (fun c57 => ?_) (fun c57 => ?_)
          · refine qV_iload_n (pc := 64) 0 dX7_has_64 rfl rfl ?_
            refine qV_sipush (pc := 65) dX7_has_65 rfl ?_
            refine qV_icmp_le (pc := 68) 75 dX7_has_68 (by decide) ⟨by omega, by omega⟩ ⟨by omega, by omega⟩ (fun c68 => ?_) (fun c68 => ?_)
            · refine qV_iconst (pc := 75) dX7_has_75 ?_
              refine qV_iret (pc := 76) dX7_has_76 rfl (le_b rfl) (le_b rfl) ?_
              first
              | exact ⟨by simp only [hasM]; rw [if_pos (by omega)], rfl, rfl⟩
              | exact ⟨by simp only [hasM]; rw [if_neg (by omega), if_pos (by omega), if_pos (by omega)], rfl, rfl⟩
              | exact ⟨by simp only [hasM]; rw [if_neg (by omega), if_pos (by omega), if_neg (by omega)], rfl, rfl⟩
              | exact ⟨by simp only [hasM]; rw [if_neg (by omega), if_neg (by omega), if_pos (by omega), if_pos (by omega)], rfl, rfl⟩
              | exact ⟨by simp only [hasM]; rw [if_neg (by omega), if_neg (by omega), if_pos (by omega), if_neg (by omega)], rfl, rfl⟩
              | exact ⟨by simp only [hasM]; rw [if_neg (by omega), if_neg (by omega), if_neg (by omega), if_pos (by omega)], rfl, rfl⟩
              | exact ⟨by simp only [hasM]; rw [if_neg (by omega), if_neg (by omega), if_neg (by omega), if_neg (by omega), if_pos (by omega)], rfl, rfl⟩
              | exact ⟨by simp only [hasM]; rw [if_neg (by omega), if_neg (by omega), if_neg (by omega), if_neg (by omega), if_neg (by omega)], rfl, rfl⟩
            · refine qV_iconst (pc := 71) dX7_has_71 ?_
              refine qV_goto (pc := 72) 76 dX7_has_72 (by decide) ?_
              refine qV_iret (pc := 76) dX7_has_76 rfl (le_b rfl) (le_b rfl) ?_
              first
              | exact ⟨by simp only [hasM]; rw [if_pos (by omega)], rfl, rfl⟩
              | exact ⟨by simp only [hasM]; rw [if_neg (by omega), if_pos (by omega), if_pos (by omega)], rfl, rfl⟩
              | exact ⟨by simp only [hasM]; rw [if_neg (by omega), if_pos (by omega), if_neg (by omega)], rfl, rfl⟩
              | exact ⟨by simp only [hasM]; rw [if_neg (by omega), if_neg (by omega), if_pos (by omega), if_pos (by omega)], rfl, rfl⟩
              | exact ⟨by simp only [hasM]; rw [if_neg (by omega), if_neg (by omega), if_pos (by omega), if_neg (by omega)], rfl, rfl⟩
              | exact ⟨by simp only [hasM]; rw [if_neg (by omega), if_neg (by omega), if_neg (by omega), if_pos (by omega)], rfl, rfl⟩
              | exact ⟨by simp only [hasM]; rw [if_neg (by omega), if_neg (by omega), if_neg (by omega), if_neg (by omega), if_pos (by omega)], rfl, rfl⟩
              | exact ⟨by simp only [hasM]; rw [if_neg (by omega), if_neg (by omega), if_neg (by omega), if_neg (by omega), if_neg (by omega)], rfl, rfl⟩
          · refine qV_iconst (pc := 60) dX7_has_60 ?_
            refine qV_goto (pc := 61) 76 dX7_has_61 (by decide) ?_
            refine qV_iret (pc := 76) dX7_has_76 rfl (le_b rfl) (le_b rfl) ?_
            first
            | exact ⟨by simp only [hasM]; rw [if_pos (by omega)], rfl, rfl⟩
            | exact ⟨by simp only [hasM]; rw [if_neg (by omega), if_pos (by omega), if_pos (by omega)], rfl, rfl⟩
            | exact ⟨by simp only [hasM]; rw [if_neg (by omega), if_pos (by omega), if_neg (by omega)], rfl, rfl⟩
            | exact ⟨by simp only [hasM]; rw [if_neg (by omega), if_neg (by omega), if_pos (by omega), if_pos (by omega)], rfl, rfl⟩
            | exact ⟨by simp only [hasM]; rw [if_neg (by omega), if_neg (by omega), if_pos (by omega), if_neg (by omega)], rfl, rfl⟩
            | exact ⟨by simp only [hasM]; rw [if_neg (by omega), if_neg (by omega), if_neg (by omega), if_pos (by omega)], rfl, rfl⟩
            | exact ⟨by simp only [hasM]; rw [if_neg (by omega), if_neg (by omega), if_neg (by omega), if_neg (by omega), if_pos (by omega)], rfl, rfl⟩
            | exact ⟨by simp only [hasM]; rw [if_neg (by omega), if_neg (by omega), if_neg (by omega), if_neg (by omega), if_neg (by omega)], rfl, rfl⟩
      · refine qV_iload_n (pc := 33) 0 dX7_has_33 rfl rfl ?_
        refine qV_bipush (pc := 34) dX7_has_34 rfl ?_
        refine qV_icmp_ne (pc := 36) 43 dX7_has_36 (by decide) ⟨by omega, by omega⟩ ⟨by omega, by omega⟩ (fun c36 => ?_) (fun c36 => ?_)
        · refine qV_iconst (pc := 43) dX7_has_43 ?_
          refine qV_goto (pc := 44) 76 dX7_has_44 (by decide) ?_
          refine qV_iret (pc := 76) dX7_has_76 rfl (le_b rfl) (le_b rfl) ?_
          first
          | exact ⟨by simp only [hasM]; rw [if_pos (by omega)], rfl, rfl⟩
          | exact ⟨by simp only [hasM]; rw [if_neg (by omega), if_pos (by omega), if_pos (by omega)], rfl, rfl⟩
          | exact ⟨by simp only [hasM]; rw [if_neg (by omega), if_pos (by omega), if_neg (by omega)], rfl, rfl⟩
          | exact ⟨by simp only [hasM]; rw [if_neg (by omega), if_neg (by omega), if_pos (by omega), if_pos (by omega)], rfl, rfl⟩
          | exact ⟨by simp only [hasM]; rw [if_neg (by omega), if_neg (by omega), if_pos (by omega), if_neg (by omega)], rfl, rfl⟩
          | exact ⟨by simp only [hasM]; rw [if_neg (by omega), if_neg (by omega), if_neg (by omega), if_pos (by omega)], rfl, rfl⟩
          | exact ⟨by simp only [hasM]; rw [if_neg (by omega), if_neg (by omega), if_neg (by omega), if_neg (by omega), if_pos (by omega)], rfl, rfl⟩
          | exact ⟨by simp only [hasM]; rw [if_neg (by omega), if_neg (by omega), if_neg (by omega), if_neg (by omega), if_neg (by omega)], rfl, rfl⟩
        · refine qV_iconst (pc := 39) dX7_has_39 ?_
          refine qV_goto (pc := 40) 76 dX7_has_40 (by decide) ?_
          refine qV_iret (pc := 76) dX7_has_76 rfl (le_b rfl) (le_b rfl) ?_
          first
          | exact ⟨by simp only [hasM]; rw [if_pos (by omega)], rfl, rfl⟩
          | exact ⟨by simp only [hasM]; rw [if_neg (by omega), if_pos (by omega), if_pos (by omega)], rfl, rfl⟩
          | exact ⟨by simp only [hasM]; rw [if_neg (by omega), if_pos (by omega), if_neg (by omega)], rfl, rfl⟩
          | exact ⟨by simp only [hasM]; rw [if_neg (by omega), if_neg (by omega), if_pos (by omega), if_pos (by omega)], rfl, rfl⟩
          | exact ⟨by simp only [hasM]; rw [if_neg (by omega), if_neg (by omega), if_pos (by omega), if_neg (by omega)], rfl, rfl⟩
          | exact ⟨by simp only [hasM]; rw [if_neg (by omega), if_neg (by omega), if_neg (by omega), if_pos (by omega)], rfl, rfl⟩
          | exact ⟨by simp only [hasM]; rw [if_neg (by omega), if_neg (by omega), if_neg (by omega), if_neg (by omega), if_pos (by omega)], rfl, rfl⟩
          | exact ⟨by simp only [hasM]; rw [if_neg (by omega), if_neg (by omega), if_neg (by omega), if_neg (by omega), if_neg (by omega)], rfl, rfl⟩
    · refine qV_iload_n (pc := 13) 0 dX7_has_13 rfl rfl ?_
      refine qV_rdS (pc := 14) (m_isLetter ⟨x1, x2⟩) nX7_isLetter lk_X7_86 dX7_has_14 ⟨le_b rfl, le_b rfl⟩ ⟨le_b rfl, le_b rfl⟩ rfl (le_b rfl) ?_
      refine qV_ifeqB (pc := 17) 24 dX7_has_17 (by decide) (fun c17 => ?_) (fun c17 => ?_)
      · refine qV_iconst (pc := 24) dX7_has_24 ?_
        refine qV_goto (pc := 25) 76 dX7_has_25 (by decide) ?_
        refine qV_iret (pc := 76) dX7_has_76 rfl (le_b rfl) (le_b rfl) ?_
        first
        | exact ⟨by simp only [hasM]; rw [if_pos (by omega)], rfl, rfl⟩
        | exact ⟨by simp only [hasM]; rw [if_neg (by omega), if_pos (by omega), if_pos (by omega)], rfl, rfl⟩
        | exact ⟨by simp only [hasM]; rw [if_neg (by omega), if_pos (by omega), if_neg (by omega)], rfl, rfl⟩
        | exact ⟨by simp only [hasM]; rw [if_neg (by omega), if_neg (by omega), if_pos (by omega), if_pos (by omega)], rfl, rfl⟩
        | exact ⟨by simp only [hasM]; rw [if_neg (by omega), if_neg (by omega), if_pos (by omega), if_neg (by omega)], rfl, rfl⟩
        | exact ⟨by simp only [hasM]; rw [if_neg (by omega), if_neg (by omega), if_neg (by omega), if_pos (by omega)], rfl, rfl⟩
        | exact ⟨by simp only [hasM]; rw [if_neg (by omega), if_neg (by omega), if_neg (by omega), if_neg (by omega), if_pos (by omega)], rfl, rfl⟩
        | exact ⟨by simp only [hasM]; rw [if_neg (by omega), if_neg (by omega), if_neg (by omega), if_neg (by omega), if_neg (by omega)], rfl, rfl⟩
      · refine qV_iconst (pc := 20) dX7_has_20 ?_
        refine qV_goto (pc := 21) 76 dX7_has_21 (by decide) ?_
        refine qV_iret (pc := 76) dX7_has_76 rfl (le_b rfl) (le_b rfl) ?_
        first
        | exact ⟨by simp only [hasM]; rw [if_pos (by omega)], rfl, rfl⟩
        | exact ⟨by simp only [hasM]; rw [if_neg (by omega), if_pos (by omega), if_pos (by omega)], rfl, rfl⟩
        | exact ⟨by simp only [hasM]; rw [if_neg (by omega), if_pos (by omega), if_neg (by omega)], rfl, rfl⟩
        | exact ⟨by simp only [hasM]; rw [if_neg (by omega), if_neg (by omega), if_pos (by omega), if_pos (by omega)], rfl, rfl⟩
        | exact ⟨by simp only [hasM]; rw [if_neg (by omega), if_neg (by omega), if_pos (by omega), if_neg (by omega)], rfl, rfl⟩
        | exact ⟨by simp only [hasM]; rw [if_neg (by omega), if_neg (by omega), if_neg (by omega), if_pos (by omega)], rfl, rfl⟩
        | exact ⟨by simp only [hasM]; rw [if_neg (by omega), if_neg (by omega), if_neg (by omega), if_neg (by omega), if_pos (by omega)], rfl, rfl⟩
        | exact ⟨by simp only [hasM]; rw [if_neg (by omega), if_neg (by omega), if_neg (by omega), if_neg (by omega), if_neg (by omega)], rfl, rfl⟩
  · refine qV_iconst (pc := 4) dX7_has_4 ?_
    refine qV_goto (pc := 5) 76 dX7_has_5 (by decide) ?_
    refine qV_iret (pc := 76) dX7_has_76 rfl (le_b rfl) (le_b rfl) ?_
    first
    | exact ⟨by simp only [hasM]; rw [if_pos (by omega)], rfl, rfl⟩
    | exact ⟨by simp only [hasM]; rw [if_neg (by omega), if_pos (by omega), if_pos (by omega)], rfl, rfl⟩
    | exact ⟨by simp only [hasM]; rw [if_neg (by omega), if_pos (by omega), if_neg (by omega)], rfl, rfl⟩
    | exact ⟨by simp only [hasM]; rw [if_neg (by omega), if_neg (by omega), if_pos (by omega), if_pos (by omega)], rfl, rfl⟩
    | exact ⟨by simp only [hasM]; rw [if_neg (by omega), if_neg (by omega), if_pos (by omega), if_neg (by omega)], rfl, rfl⟩
    | exact ⟨by simp only [hasM]; rw [if_neg (by omega), if_neg (by omega), if_neg (by omega), if_pos (by omega)], rfl, rfl⟩
    | exact ⟨by simp only [hasM]; rw [if_neg (by omega), if_neg (by omega), if_neg (by omega), if_neg (by omega), if_pos (by omega)], rfl, rfl⟩
    | exact ⟨by simp only [hasM]; rw [if_neg (by omega), if_neg (by omega), if_neg (by omega), if_neg (by omega), if_neg (by omega)], rfl, rfl⟩
set_option maxRecDepth 100000 in
set_option maxHeartbeats 4000000 in
theorem measure_loop {w a b : Nat} (ho : h r = some (rob r kn ty st)) (hs : h (r + 1) = some (iA 0 541 s)) (hP : SP s P) (hw : wf 216 P) (hw4 : w < 4) (hb : b ≤ P.1) : ∀ (m p : Nat) (q z : Int), b - p = m → a ≤ p → p ≤ b → q = p → z = measM P.2.1 w p - measM P.2.1 w a → qVM l mX7_measure 0 0 h sz (fun v h' sz' => v = some (vI (measM P.2.1 w b - measM P.2.1 w a)) ∧ h' = h ∧ sz' = sz) 0 0 h sz 6 [some (.ref r), some (vI a), some (vI b), some (vI w), some (vI z), some (vI q)] [] := by
  obtain ⟨p0, p1, p2, pT, pC, pM⟩ := id hP
  obtain ⟨w1, w2, w3, w4, w5, w6, w7⟩ := id hw
  have wcl := hw.c_le
  intro m
  induction m with
  | zero =>
    intro p q z hm ha hp hq hz
    obtain rfl : p = b := by omega
    refine qV_iload (pc := 6) 5 dX7_measure_6 rfl ?_
    refine qV_iload_n (pc := 8) 2 dX7_measure_8 rfl rfl ?_
    refine qV_icmp_ge (pc := 9) 33 dX7_measure_9 (by decide) ⟨by omega, by omega⟩ ⟨by omega, by omega⟩ (fun c9 => ?_) (fun c9 => ?_)
    · refine qV_iload (pc := 33) 4 dX7_measure_33 rfl ?_
      refine qV_iret (pc := 35) dX7_measure_35 rfl (le_b rfl) (le_b rfl) ?_
      exact ⟨by rw [hz], rfl, rfl⟩
    · exfalso; omega
  | succ m ih =>
    intro p q z hm ha hp hq hz
    have t := w2 p (by omega)
    have e1 := measM_succ P.2.1 w p
    refine qV_iload (pc := 6) 5 dX7_measure_6 rfl ?_
    refine qV_iload_n (pc := 8) 2 dX7_measure_8 rfl rfl ?_
    refine qV_icmp_ge (pc := 9) 33 dX7_measure_9 (by decide) ⟨by omega, by omega⟩ ⟨by omega, by omega⟩ (fun c9 => ?_) (fun c9 => ?_)
    · exfalso; omega
    · refine qV_iload (pc := 12) 4 dX7_measure_12 rfl ?_
      refine qV_aload_n (pc := 14) 0 dX7_measure_14 rfl rfl ?_
      refine qV_iload (pc := 15) 5 dX7_measure_15 rfl ?_
      refine qV_rdV (pc := 17) (m_byteAt ho hs hP hw hq (by omega)) nX7_byteAt kX7 lk_X7_89 dX7_measure_17 (by first | assumption | exact hU_self _ _ _ | (refine (hU_ne (by omega)).trans ?_; first | assumption | exact hU_self _ _ _ | (refine (hU_ne (by omega)).trans ?_; first | assumption | exact hU_self _ _ _ | (refine (hU_ne (by omega)).trans ?_; first | assumption | exact hU_self _ _ _)))) ⟨le_b rfl, le_b rfl⟩ ⟨le_b rfl, le_b rfl⟩ rfl (le_b rfl) ?_
      refine qV_iload_n (pc := 20) 3 dX7_measure_20 rfl rfl ?_
      refine qV_rdS (pc := 21) (m_has ⟨by omega, by omega⟩ rfl hw4) nX7_has lk_X7_92 dX7_measure_21 ⟨le_b rfl, le_b rfl⟩ ⟨le_b rfl, le_b rfl⟩ rfl (le_b rfl) ?_
      refine qV_iadd (pc := 24) dX7_measure_24 ?_
      refine qV_istore (pc := 25) 4 dX7_measure_25 (le_b rfl) (le_b rfl) rfl ?_
      refine qV_iinc (pc := 27) 5 dX7_measure_27 rfl (le_b rfl) (le_b rfl) rfl ?_
      refine qV_goto (pc := 30) 6 dX7_measure_30 (by decide) ?_
      exact ih (p + 1) _ _ (by omega) (by omega) (by omega) (by omega) (by omega)
set_option maxRecDepth 100000 in
set_option maxHeartbeats 4000000 in
theorem m_measure {p q t : Int} {w a b : Nat} (ho : h r = some (rob r kn ty st)) (hs : h (r + 1) = some (iA 0 541 s)) (hP : SP s P) (hw : wf 216 P) (hp : p = a) (hq : q = b) (ht : t = w) (hw4 : w < 4) (hab : a ≤ b) (hb : b ≤ P.1) : qRd l mX7_measure [.ref r, vI p, vI q, vI t] h sz (vI (measM P.2.1 w b - measM P.2.1 w a)) := by
  subst hp; subst hq; subst ht
  refine qC.of 2 (by decide) (le_b rfl) ?_
  refine qV_iconst (pc := 0) dX7_measure_0 ?_
  refine qV_istore (pc := 1) 4 dX7_measure_1 (le_b rfl) (le_b rfl) rfl ?_
  refine qV_iload_n (pc := 3) 1 dX7_measure_3 rfl rfl ?_
  refine qV_istore (pc := 4) 5 dX7_measure_4 (le_b rfl) (le_b rfl) rfl ?_
  exact measure_loop ho hs hP hw hw4 hb (b - a) a _ _ rfl (Nat.le_refl a) hab rfl (by omega)
def lnA (T : Nat → Int) (n k : Nat) : Nat := if k ≤ nl T n then lbN T n k else n + 1
set_option maxRecDepth 100000 in
set_option maxHeartbeats 4000000 in
theorem lineAt_loop {k : Nat} (ho : h r = some (rob r kn ty st)) (hs : h (r + 1) = some (iA 0 541 s)) (hP : SP s P) (hw : wf 216 P) (hk : k ≤ 5000) : ∀ (m p : Nat) (q z : Int), P.1 - p = m → p ≤ P.1 → q = p → z = nl P.2.1 p → (∀ j, j < p → nl P.2.1 j < k) → qVM l mX7_lineAt 0 0 h sz (fun v h' sz' => v = some (vI ((lnA P.2.1 P.1 k : Nat) : Int)) ∧ h' = h ∧ sz' = sz) 0 0 h sz 4 [some (.ref r), some (vI k), some (vI z), some (vI q)] [] := by
  obtain ⟨p0, p1, p2, pT, pC, pM⟩ := id hP
  obtain ⟨w1, w2, w3, w4, w5, w6, w7⟩ := id hw
  have wcl := hw.c_le
  have hfin : ∀ p : Nat, p ≤ P.1 → k ≤ nl P.2.1 p → (∀ j, j < p → nl P.2.1 j < k) → lnA P.2.1 P.1 k = p := fun p h1 h2 h3 => by
    have h4 := nl_mono P.2.1 h1
    simp only [lnA]
    rw [if_pos (by omega)]
    exact lb_un (by omega) h2 h3
  intro m
  induction m with
  | zero =>
    intro p q z hm hp hq hz hj
    obtain rfl : p = P.1 := by omega
    have hnl := nl_le P.2.1 P.1
    refine qV_iload_n (pc := 4) 2 dX7_lineAt_4 rfl rfl ?_
    refine qV_iload_n (pc := 5) 1 dX7_lineAt_5 rfl rfl ?_
    refine qV_icmp_ge (pc := 6) 37 dX7_lineAt_6 (by decide) ⟨by omega, by omega⟩ ⟨by omega, by omega⟩ (fun c6 => ?_) (fun c6 => ?_)
    · refine qV_iload_n (pc := 37) 2 dX7_lineAt_37 rfl rfl ?_
      refine qV_iload_n (pc := 38) 1 dX7_lineAt_38 rfl rfl ?_
      refine qV_icmp_ge (pc := 39) 53 dX7_lineAt_39 (by decide) ⟨by omega, by omega⟩ ⟨by omega, by omega⟩ (fun c39 => ?_) (fun c39 => ?_)
      · refine qV_iload_n (pc := 53) 3 dX7_lineAt_53 rfl rfl ?_
        refine qV_iret (pc := 54) dX7_lineAt_54 rfl (le_b rfl) (le_b rfl) ?_
        first
        | exact ⟨by simp only [lnA]; rw [if_neg (by omega)]; rfl, rfl, rfl⟩
        | exact ⟨by rw [hfin P.1 (Nat.le_refl _) (by omega) hj, hq], rfl, rfl⟩
      · refine qV_aload_n (pc := 42) 0 dX7_lineAt_42 rfl rfl ?_
        refine qV_get (pc := 43) kX7 0 (le_b rfl) lk_X7_7 rfl dX7_lineAt_43 (by first | assumption | exact hU_self _ _ _ | (refine (hU_ne (by omega)).trans ?_; first | assumption | exact hU_self _ _ _ | (refine (hU_ne (by omega)).trans ?_; first | assumption | exact hU_self _ _ _ | (refine (hU_ne (by omega)).trans ?_; first | assumption | exact hU_self _ _ _)))) (by exact rfl) ?_
        refine qV_iconst (pc := 46) dX7_lineAt_46 ?_
        refine qV_ialdN (pc := 47) (0) dX7_lineAt_47 (by first | assumption | exact hU_self _ _ _ | (refine (hU_ne (by omega)).trans ?_; first | assumption | exact hU_self _ _ _ | (refine (hU_ne (by omega)).trans ?_; first | assumption | exact hU_self _ _ _ | (refine (hU_ne (by omega)).trans ?_; first | assumption | exact hU_self _ _ _)))) (by omega) (by omega) p0 ?_
        refine qV_iconst (pc := 48) dX7_lineAt_48 ?_
        refine qV_iadd (pc := 49) dX7_lineAt_49 ?_
        refine qV_goto (pc := 50) 54 dX7_lineAt_50 (by decide) ?_
        refine qV_iret (pc := 54) dX7_lineAt_54 rfl (le_b rfl) (le_b rfl) ?_
        first
        | exact ⟨by simp only [lnA]; rw [if_neg (by omega)]; rfl, rfl, rfl⟩
        | exact ⟨by rw [hfin P.1 (Nat.le_refl _) (by omega) hj, hq], rfl, rfl⟩
    · refine qV_iload_n (pc := 9) 3 dX7_lineAt_9 rfl rfl ?_
      refine qV_aload_n (pc := 10) 0 dX7_lineAt_10 rfl rfl ?_
      refine qV_get (pc := 11) kX7 0 (le_b rfl) lk_X7_7 rfl dX7_lineAt_11 (by first | assumption | exact hU_self _ _ _ | (refine (hU_ne (by omega)).trans ?_; first | assumption | exact hU_self _ _ _ | (refine (hU_ne (by omega)).trans ?_; first | assumption | exact hU_self _ _ _ | (refine (hU_ne (by omega)).trans ?_; first | assumption | exact hU_self _ _ _)))) (by exact rfl) ?_
      refine qV_iconst (pc := 14) dX7_lineAt_14 ?_
      refine qV_ialdN (pc := 15) (0) dX7_lineAt_15 (by first | assumption | exact hU_self _ _ _ | (refine (hU_ne (by omega)).trans ?_; first | assumption | exact hU_self _ _ _ | (refine (hU_ne (by omega)).trans ?_; first | assumption | exact hU_self _ _ _ | (refine (hU_ne (by omega)).trans ?_; first | assumption | exact hU_self _ _ _)))) (by omega) (by omega) p0 ?_
      refine qV_icmp_ge (pc := 16) 37 dX7_lineAt_16 (by decide) ⟨by omega, by omega⟩ ⟨by omega, by omega⟩ (fun c16 => ?_) (fun c16 => ?_)
      · refine qV_iload_n (pc := 37) 2 dX7_lineAt_37 rfl rfl ?_
        refine qV_iload_n (pc := 38) 1 dX7_lineAt_38 rfl rfl ?_
        refine qV_icmp_ge (pc := 39) 53 dX7_lineAt_39 (by decide) ⟨by omega, by omega⟩ ⟨by omega, by omega⟩ (fun c39 => ?_) (fun c39 => ?_)
        · refine qV_iload_n (pc := 53) 3 dX7_lineAt_53 rfl rfl ?_
          refine qV_iret (pc := 54) dX7_lineAt_54 rfl (le_b rfl) (le_b rfl) ?_
          first
          | exact ⟨by simp only [lnA]; rw [if_neg (by omega)]; rfl, rfl, rfl⟩
          | exact ⟨by rw [hfin P.1 (Nat.le_refl _) (by omega) hj, hq], rfl, rfl⟩
        · refine qV_aload_n (pc := 42) 0 dX7_lineAt_42 rfl rfl ?_
          refine qV_get (pc := 43) kX7 0 (le_b rfl) lk_X7_7 rfl dX7_lineAt_43 (by first | assumption | exact hU_self _ _ _ | (refine (hU_ne (by omega)).trans ?_; first | assumption | exact hU_self _ _ _ | (refine (hU_ne (by omega)).trans ?_; first | assumption | exact hU_self _ _ _ | (refine (hU_ne (by omega)).trans ?_; first | assumption | exact hU_self _ _ _)))) (by exact rfl) ?_
          refine qV_iconst (pc := 46) dX7_lineAt_46 ?_
          refine qV_ialdN (pc := 47) (0) dX7_lineAt_47 (by first | assumption | exact hU_self _ _ _ | (refine (hU_ne (by omega)).trans ?_; first | assumption | exact hU_self _ _ _ | (refine (hU_ne (by omega)).trans ?_; first | assumption | exact hU_self _ _ _ | (refine (hU_ne (by omega)).trans ?_; first | assumption | exact hU_self _ _ _)))) (by omega) (by omega) p0 ?_
          refine qV_iconst (pc := 48) dX7_lineAt_48 ?_
          refine qV_iadd (pc := 49) dX7_lineAt_49 ?_
          refine qV_goto (pc := 50) 54 dX7_lineAt_50 (by decide) ?_
          refine qV_iret (pc := 54) dX7_lineAt_54 rfl (le_b rfl) (le_b rfl) ?_
          first
          | exact ⟨by simp only [lnA]; rw [if_neg (by omega)]; rfl, rfl, rfl⟩
          | exact ⟨by rw [hfin P.1 (Nat.le_refl _) (by omega) hj, hq], rfl, rfl⟩
      · exfalso; omega
  | succ m ih =>
    intro p q z hm hp hq hz hj
    have t := w2 p (by omega)
    have hnl := nl_le P.2.1 p
    have e1 := nl_meas P.2.1 p
    have e2 := nl_meas P.2.1 (p + 1)
    have e3 := measM_succ P.2.1 2 p
    refine qV_iload_n (pc := 4) 2 dX7_lineAt_4 rfl rfl ?_
    refine qV_iload_n (pc := 5) 1 dX7_lineAt_5 rfl rfl ?_
    refine qV_icmp_ge (pc := 6) 37 dX7_lineAt_6 (by decide) ⟨by omega, by omega⟩ ⟨by omega, by omega⟩ (fun c6 => ?_) (fun c6 => ?_)
    · refine qV_iload_n (pc := 37) 2 dX7_lineAt_37 rfl rfl ?_
      refine qV_iload_n (pc := 38) 1 dX7_lineAt_38 rfl rfl ?_
      refine qV_icmp_ge (pc := 39) 53 dX7_lineAt_39 (by decide) ⟨by omega, by omega⟩ ⟨by omega, by omega⟩ (fun c39 => ?_) (fun c39 => ?_)
      · refine qV_iload_n (pc := 53) 3 dX7_lineAt_53 rfl rfl ?_
        refine qV_iret (pc := 54) dX7_lineAt_54 rfl (le_b rfl) (le_b rfl) ?_
        first
        | exact ⟨by rw [hfin p (by omega) (by omega) hj, hq], rfl, rfl⟩
        | (exfalso; omega)
      · refine qV_aload_n (pc := 42) 0 dX7_lineAt_42 rfl rfl ?_
        refine qV_get (pc := 43) kX7 0 (le_b rfl) lk_X7_7 rfl dX7_lineAt_43 (by first | assumption | exact hU_self _ _ _ | (refine (hU_ne (by omega)).trans ?_; first | assumption | exact hU_self _ _ _ | (refine (hU_ne (by omega)).trans ?_; first | assumption | exact hU_self _ _ _ | (refine (hU_ne (by omega)).trans ?_; first | assumption | exact hU_self _ _ _)))) (by exact rfl) ?_
        refine qV_iconst (pc := 46) dX7_lineAt_46 ?_
        refine qV_ialdN (pc := 47) (0) dX7_lineAt_47 (by first | assumption | exact hU_self _ _ _ | (refine (hU_ne (by omega)).trans ?_; first | assumption | exact hU_self _ _ _ | (refine (hU_ne (by omega)).trans ?_; first | assumption | exact hU_self _ _ _ | (refine (hU_ne (by omega)).trans ?_; first | assumption | exact hU_self _ _ _)))) (by omega) (by omega) p0 ?_
        refine qV_iconst (pc := 48) dX7_lineAt_48 ?_
        refine qV_iadd (pc := 49) dX7_lineAt_49 ?_
        refine qV_goto (pc := 50) 54 dX7_lineAt_50 (by decide) ?_
        refine qV_iret (pc := 54) dX7_lineAt_54 rfl (le_b rfl) (le_b rfl) ?_
        first
        | exact ⟨by rw [hfin p (by omega) (by omega) hj, hq], rfl, rfl⟩
        | (exfalso; omega)
    · refine qV_iload_n (pc := 9) 3 dX7_lineAt_9 rfl rfl ?_
      refine qV_aload_n (pc := 10) 0 dX7_lineAt_10 rfl rfl ?_
      refine qV_get (pc := 11) kX7 0 (le_b rfl) lk_X7_7 rfl dX7_lineAt_11 (by first | assumption | exact hU_self _ _ _ | (refine (hU_ne (by omega)).trans ?_; first | assumption | exact hU_self _ _ _ | (refine (hU_ne (by omega)).trans ?_; first | assumption | exact hU_self _ _ _ | (refine (hU_ne (by omega)).trans ?_; first | assumption | exact hU_self _ _ _)))) (by exact rfl) ?_
      refine qV_iconst (pc := 14) dX7_lineAt_14 ?_
      refine qV_ialdN (pc := 15) (0) dX7_lineAt_15 (by first | assumption | exact hU_self _ _ _ | (refine (hU_ne (by omega)).trans ?_; first | assumption | exact hU_self _ _ _ | (refine (hU_ne (by omega)).trans ?_; first | assumption | exact hU_self _ _ _ | (refine (hU_ne (by omega)).trans ?_; first | assumption | exact hU_self _ _ _)))) (by omega) (by omega) p0 ?_
      refine qV_icmp_ge (pc := 16) 37 dX7_lineAt_16 (by decide) ⟨by omega, by omega⟩ ⟨by omega, by omega⟩ (fun c16 => ?_) (fun c16 => ?_)
      · exfalso; omega
      · refine qV_iload_n (pc := 19) 2 dX7_lineAt_19 rfl rfl ?_
        refine qV_aload_n (pc := 20) 0 dX7_lineAt_20 rfl rfl ?_
        refine qV_iload_n (pc := 21) 3 dX7_lineAt_21 rfl rfl ?_
        refine qV_rdV (pc := 22) (m_byteAt ho hs hP hw hq (by omega)) nX7_byteAt kX7 lk_X7_89 dX7_lineAt_22 (by first | assumption | exact hU_self _ _ _ | (refine (hU_ne (by omega)).trans ?_; first | assumption | exact hU_self _ _ _ | (refine (hU_ne (by omega)).trans ?_; first | assumption | exact hU_self _ _ _ | (refine (hU_ne (by omega)).trans ?_; first | assumption | exact hU_self _ _ _)))) ⟨le_b rfl, le_b rfl⟩ ⟨le_b rfl, le_b rfl⟩ rfl (le_b rfl) ?_
        refine qV_iconst (pc := 25) dX7_lineAt_25 ?_
        refine qV_rdS (pc := 26) (m_has (w := 2) ⟨by omega, by omega⟩ rfl (by omega)) nX7_has lk_X7_92 dX7_lineAt_26 ⟨le_b rfl, le_b rfl⟩ ⟨le_b rfl, le_b rfl⟩ rfl (le_b rfl) ?_
        refine qV_iadd (pc := 29) dX7_lineAt_29 ?_
        refine qV_istore_n (pc := 30) 2 dX7_lineAt_30 rfl (le_b rfl) (le_b rfl) rfl ?_
        refine qV_iinc (pc := 31) 3 dX7_lineAt_31 rfl (le_b rfl) (le_b rfl) rfl ?_
        refine qV_goto (pc := 34) 4 dX7_lineAt_34 (by decide) ?_
        refine ih (p + 1) _ _ (by omega) (by omega) (by omega) (by omega) (fun j hj2 => ?_)
        by_cases e : j = p
        · subst e; omega
        · exact hj j (by omega)
set_option maxRecDepth 100000 in
set_option maxHeartbeats 4000000 in
theorem m_lineAt {q : Int} {k : Nat} (ho : h r = some (rob r kn ty st)) (hs : h (r + 1) = some (iA 0 541 s)) (hP : SP s P) (hw : wf 216 P) (hq : q = k) (hk : k ≤ 5000) : qRd l mX7_lineAt [.ref r, vI q] h sz (vI ((lnA P.2.1 P.1 k : Nat) : Int)) := by
  subst hq
  refine qC.of 2 (by decide) (le_b rfl) ?_
  refine qV_iconst (pc := 0) dX7_lineAt_0 ?_
  refine qV_istore_n (pc := 1) 2 dX7_lineAt_1 rfl (le_b rfl) (le_b rfl) rfl ?_
  refine qV_iconst (pc := 2) dX7_lineAt_2 ?_
  refine qV_istore_n (pc := 3) 3 dX7_lineAt_3 rfl (le_b rfl) (le_b rfl) rfl ?_
  exact lineAt_loop ho hs hP hw hk P.1 0 _ _ rfl (Nat.zero_le _) rfl rfl (fun j hj => by omega)
theorem lnA_le {T : Nat → Int} {n k : Nat} (hk : k ≤ nl T n) : lnA T n k = lbN T n k := if_pos hk
theorem lnA_E {T : Nat → Int} {n k : Nat} (hk : k ≤ nl T n) : ((lnA T n (k + 1) : Nat) : Int) - 1 = ((lnE T n k : Nat) : Int) := by
  simp only [lnA, lnE]
  by_cases e : k < nl T n
  · have := lb_lt e
    rw [if_pos (by omega), if_pos e]; omega
  · rw [if_neg (by omega), if_neg e]; omega
set_option maxRecDepth 100000 in
set_option maxHeartbeats 4000000 in
theorem beyond_loop {w a b : Nat} {v0 : Int} (ho : h r = some (rob r kn ty st)) (hs : h (r + 1) = some (iA 0 541 s)) (hP : SP s P) (hw : wf 216 P) (hw4 : w < 4) (hb : b ≤ P.1) (hv : iR v0) : ∀ (d p : Nat) (q z : Int), b - p = d → a ≤ p → p ≤ b → q = p → z = measM P.2.1 w p - measM P.2.1 w a → far P.2.1 w a v0 d p = far P.2.1 w a v0 (b - a) a → qVM l mX7_beyond 0 0 h sz (fun v h' sz' => v = some (vI ((far P.2.1 w a v0 (b - a) a : Nat) : Int)) ∧ h' = h ∧ sz' = sz) 0 0 h sz 6 [some (.ref r), some (vI a), some (vI b), some (vI w), some (vI v0), some (vI z), some (vI q)] [] := by
  obtain ⟨p0, p1, p2, pT, pC, pM⟩ := id hP
  obtain ⟨w1, w2, w3, w4, w5, w6, w7⟩ := id hw
  have wcl := hw.c_le
  obtain ⟨v1, v2⟩ := hv
  intro d
  induction d with
  | zero =>
    intro p q z hm ha hp hq hz he
    obtain rfl : p = b := by omega
    refine qV_iload (pc := 6) 6 dX7_beyond_6 rfl ?_
    refine qV_iload_n (pc := 8) 2 dX7_beyond_8 rfl rfl ?_
    refine qV_icmp_ge (pc := 9) 43 dX7_beyond_9 (by decide) ⟨by omega, by omega⟩ ⟨by omega, by omega⟩ (fun c9 => ?_) (fun c9 => ?_)
    · refine qV_iload_n (pc := 43) 2 dX7_beyond_43 rfl rfl ?_
      refine qV_iret (pc := 44) dX7_beyond_44 rfl (le_b rfl) (le_b rfl) ?_
      exact ⟨by rw [← he]; rfl, rfl, rfl⟩
    · exfalso; omega
  | succ d ih =>
    intro p q z hm ha hp hq hz he
    have t := w2 p (by omega)
    have e1 := measM_succ P.2.1 w p
    have m1 := measM_in P.2.1 w (p + 1)
    have m2 := measM_in P.2.1 w a
    refine qV_iload (pc := 6) 6 dX7_beyond_6 rfl ?_
    refine qV_iload_n (pc := 8) 2 dX7_beyond_8 rfl rfl ?_
    refine qV_icmp_ge (pc := 9) 43 dX7_beyond_9 (by decide) ⟨by omega, by omega⟩ ⟨by omega, by omega⟩ (fun c9 => ?_) (fun c9 => ?_)
    · exfalso; omega
    · refine qV_iload (pc := 12) 5 dX7_beyond_12 rfl ?_
      refine qV_aload_n (pc := 14) 0 dX7_beyond_14 rfl rfl ?_
      refine qV_iload (pc := 15) 6 dX7_beyond_15 rfl ?_
      refine qV_rdV (pc := 17) (m_byteAt ho hs hP hw hq (by omega)) nX7_byteAt kX7 lk_X7_89 dX7_beyond_17 (by first | assumption | exact hU_self _ _ _ | (refine (hU_ne (by omega)).trans ?_; first | assumption | exact hU_self _ _ _ | (refine (hU_ne (by omega)).trans ?_; first | assumption | exact hU_self _ _ _ | (refine (hU_ne (by omega)).trans ?_; first | assumption | exact hU_self _ _ _)))) ⟨le_b rfl, le_b rfl⟩ ⟨le_b rfl, le_b rfl⟩ rfl (le_b rfl) ?_
      refine qV_iload_n (pc := 20) 3 dX7_beyond_20 rfl rfl ?_
      refine qV_rdS (pc := 21) (m_has ⟨by omega, by omega⟩ rfl hw4) nX7_has lk_X7_92 dX7_beyond_21 ⟨le_b rfl, le_b rfl⟩ ⟨le_b rfl, le_b rfl⟩ rfl (le_b rfl) ?_
      refine qV_iadd (pc := 24) dX7_beyond_24 ?_
      refine qV_istore (pc := 25) 5 dX7_beyond_25 (le_b rfl) (le_b rfl) rfl ?_
      refine qV_iload (pc := 27) 5 dX7_beyond_27 rfl ?_
      refine qV_iload (pc := 29) 4 dX7_beyond_29 rfl ?_
      refine qV_icmp_le (pc := 31) 37 dX7_beyond_31 (by decide) ⟨by omega, by omega⟩ ⟨by omega, by omega⟩ (fun c31 => ?_) (fun c31 => ?_)
      · refine qV_iinc (pc := 37) 6 dX7_beyond_37 rfl (le_b rfl) (le_b rfl) rfl ?_
        refine qV_goto (pc := 40) 6 dX7_beyond_40 (by decide) ?_
        exact ih (p + 1) _ _ (by omega) (by omega) (by omega) (by omega) (by omega) (by rw [← he]; simp only [far]; rw [if_pos (by omega)])
      · refine qV_iload (pc := 34) 6 dX7_beyond_34 rfl ?_
        refine qV_iret (pc := 36) dX7_beyond_36 rfl (le_b rfl) (le_b rfl) ?_
        exact ⟨by rw [← he, hq]; simp only [far]; rw [if_neg (by omega)], rfl, rfl⟩
set_option maxRecDepth 100000 in
set_option maxHeartbeats 4000000 in
theorem m_beyond {p q t v0 : Int} {w a b : Nat} (ho : h r = some (rob r kn ty st)) (hs : h (r + 1) = some (iA 0 541 s)) (hP : SP s P) (hw : wf 216 P) (hp : p = a) (hq : q = b) (ht : t = w) (hw4 : w < 4) (hab : a ≤ b) (hb : b ≤ P.1) (hv : iR v0) : qRd l mX7_beyond [.ref r, vI p, vI q, vI t, vI v0] h sz (vI ((far P.2.1 w a v0 (b - a) a : Nat) : Int)) := by
  subst hp; subst hq; subst ht
  refine qC.of 2 (by decide) (le_b rfl) ?_
  refine qV_iconst (pc := 0) dX7_beyond_0 ?_
  refine qV_istore (pc := 1) 5 dX7_beyond_1 (le_b rfl) (le_b rfl) rfl ?_
  refine qV_iload_n (pc := 3) 1 dX7_beyond_3 rfl rfl ?_
  refine qV_istore (pc := 4) 6 dX7_beyond_4 (le_b rfl) (le_b rfl) rfl ?_
  exact beyond_loop ho hs hP hw hw4 hb hv (b - a) a _ _ rfl (Nat.le_refl a) hab rfl (by omega) rfl
set_option maxRecDepth 100000 in
set_option maxHeartbeats 4000000 in
theorem m_lines (ho : h r = some (rob r kn ty st)) (hs : h (r + 1) = some (iA 0 541 s)) (hP : SP s P) (hw : wf 216 P) : qRd l mX7_lines [.ref r] h sz (vI ((nl P.2.1 P.1 : Int) + 1)) := by
  obtain ⟨p0, p1, p2, pT, pC, pM⟩ := id hP
  obtain ⟨w1, w2, w3, w4, w5, w6, w7⟩ := id hw
  have wcl := hw.c_le
  refine qC.of 0 (by decide) (le_b rfl) ?_
  refine qV_aload_n (pc := 0) 0 dX7_lines_0 rfl rfl ?_
  refine qV_iconst (pc := 1) dX7_lines_1 ?_
  refine qV_aload_n (pc := 2) 0 dX7_lines_2 rfl rfl ?_
  refine qV_get (pc := 3) kX7 0 (le_b rfl) lk_X7_7 rfl dX7_lines_3 (by first | assumption | exact hU_self _ _ _ | (refine (hU_ne (by omega)).trans ?_; first | assumption | exact hU_self _ _ _ | (refine (hU_ne (by omega)).trans ?_; first | assumption | exact hU_self _ _ _ | (refine (hU_ne (by omega)).trans ?_; first | assumption | exact hU_self _ _ _)))) (by exact rfl) ?_
  refine qV_iconst (pc := 6) dX7_lines_6 ?_
  refine qV_ialdN (pc := 7) (0) dX7_lines_7 (by first | assumption | exact hU_self _ _ _ | (refine (hU_ne (by omega)).trans ?_; first | assumption | exact hU_self _ _ _ | (refine (hU_ne (by omega)).trans ?_; first | assumption | exact hU_self _ _ _ | (refine (hU_ne (by omega)).trans ?_; first | assumption | exact hU_self _ _ _)))) (by omega) (by omega) p0 ?_
  refine qV_iconst (pc := 8) dX7_lines_8 ?_
  refine qV_rdV (pc := 9) (m_measure (w := 2) (a := 0) (b := P.1) ho hs hP hw rfl rfl rfl (by omega) (Nat.zero_le _) (Nat.le_refl _)) nX7_measure kX7 lk_X7_96 dX7_lines_9 (by first | assumption | exact hU_self _ _ _ | (refine (hU_ne (by omega)).trans ?_; first | assumption | exact hU_self _ _ _ | (refine (hU_ne (by omega)).trans ?_; first | assumption | exact hU_self _ _ _ | (refine (hU_ne (by omega)).trans ?_; first | assumption | exact hU_self _ _ _)))) ⟨le_b rfl, le_b rfl⟩ ⟨le_b rfl, le_b rfl⟩ rfl (le_b rfl) ?_
  rw [show measM P.2.1 2 P.1 - measM P.2.1 2 0 = (nl P.2.1 P.1 : Int) by rw [nl_meas]; simp [measM]]
  refine qV_iconst (pc := 12) dX7_lines_12 ?_
  refine qV_iadd (pc := 13) dX7_lines_13 ?_
  refine qV_iret (pc := 14) dX7_lines_14 rfl (le_b rfl) (le_b rfl) ?_
  exact ⟨rfl, rfl, rfl⟩
set_option maxRecDepth 100000 in
set_option maxHeartbeats 4000000 in
theorem m_isLine {x : Int} (hx : iR x) (ho : h r = some (rob r kn ty st)) (hs : h (r + 1) = some (iA 0 541 s)) (hP : SP s P) (hw : wf 216 P) : qRd l mX7_isLine [.ref r, vI x] h sz (vB (0 ≤ x ∧ x ≤ nl P.2.1 P.1)) := by
  obtain ⟨p0, p1, p2, pT, pC, pM⟩ := id hP
  obtain ⟨w1, w2, w3, w4, w5, w6, w7⟩ := id hw
  have wcl := hw.c_le
  obtain ⟨x1, x2⟩ := hx
  have hnl := nl_le P.2.1 P.1
  have e9 : (nl P.2.1 P.1 : Int) + 1 - 1 = nl P.2.1 P.1 := by omega
  refine qC.of 0 (by decide) (le_b rfl) ?_
  refine qV_iload_n (pc := 0) 1 dX7_isLine_0 rfl rfl ?_
  refine qV_iconst (pc := 1) dX7_isLine_1 ?_
  refine qV_aload_n (pc := 2) 0 dX7_isLine_2 rfl rfl ?_
  refine qV_rdV (pc := 3) (m_lines ho hs hP hw) nX7_lines kX7 lk_X7_106 dX7_isLine_3 (by first | assumption | exact hU_self _ _ _ | (refine (hU_ne (by omega)).trans ?_; first | assumption | exact hU_self _ _ _ | (refine (hU_ne (by omega)).trans ?_; first | assumption | exact hU_self _ _ _ | (refine (hU_ne (by omega)).trans ?_; first | assumption | exact hU_self _ _ _)))) ⟨le_b rfl, le_b rfl⟩ ⟨le_b rfl, le_b rfl⟩ rfl (le_b rfl) ?_
  refine qV_iconst (pc := 6) dX7_isLine_6 ?_
  refine qV_isub (pc := 7) dX7_isLine_7 ?_
  rw [e9]
  refine qV_rdS (pc := 8) (m_in ⟨x1, x2⟩ ⟨by omega, by omega⟩ ⟨by omega, by omega⟩) nX7_in lk_X7_38 dX7_isLine_8 ⟨le_b rfl, le_b rfl⟩ ⟨le_b rfl, le_b rfl⟩ rfl (le_b rfl) ?_
  refine qV_zret (pc := 11) dX7_isLine_11 rfl (by first | exact Or.inl rfl | exact Or.inr rfl | exact b01 _) (le_b rfl) (le_b rfl) ?_
  exact ⟨rfl, rfl, rfl⟩
set_option maxRecDepth 100000 in
set_option maxHeartbeats 4000000 in
theorem m_endOf {q : Int} {k : Nat} (ho : h r = some (rob r kn ty st)) (hs : h (r + 1) = some (iA 0 541 s)) (hP : SP s P) (hw : wf 216 P) (hq : q = k) (hk : k ≤ nl P.2.1 P.1) : qRd l mX7_endOf [.ref r, vI q] h sz (vI ((lnE P.2.1 P.1 k : Nat) : Int)) := by
  obtain ⟨p0, p1, p2, pT, pC, pM⟩ := id hP
  obtain ⟨w1, w2, w3, w4, w5, w6, w7⟩ := id hw
  have wcl := hw.c_le
  have hnl := nl_le P.2.1 P.1
  refine qC.of 0 (by decide) (le_b rfl) ?_
  refine qV_aload_n (pc := 0) 0 dX7_endOf_0 rfl rfl ?_
  refine qV_iload_n (pc := 1) 1 dX7_endOf_1 rfl rfl ?_
  refine qV_iconst (pc := 2) dX7_endOf_2 ?_
  refine qV_iadd (pc := 3) dX7_endOf_3 ?_
  refine qV_rdV (pc := 4) (m_lineAt (k := k + 1) ho hs hP hw (by omega) (by omega)) nX7_lineAt kX7 lk_X7_99 dX7_endOf_4 (by first | assumption | exact hU_self _ _ _ | (refine (hU_ne (by omega)).trans ?_; first | assumption | exact hU_self _ _ _ | (refine (hU_ne (by omega)).trans ?_; first | assumption | exact hU_self _ _ _ | (refine (hU_ne (by omega)).trans ?_; first | assumption | exact hU_self _ _ _)))) ⟨le_b rfl, le_b rfl⟩ ⟨le_b rfl, le_b rfl⟩ rfl (le_b rfl) ?_
  refine qV_iconst (pc := 7) dX7_endOf_7 ?_
  refine qV_isub (pc := 8) dX7_endOf_8 ?_
  refine qV_iret (pc := 9) dX7_endOf_9 rfl (le_b rfl) (le_b rfl) ?_
  exact ⟨by rw [lnA_E hk], rfl, rfl⟩
set_option maxRecDepth 100000 in
set_option maxHeartbeats 4000000 in
theorem m_cellsOf {q : Int} {k : Nat} (ho : h r = some (rob r kn ty st)) (hs : h (r + 1) = some (iA 0 541 s)) (hP : SP s P) (hw : wf 216 P) (hq : q = k) (hk : k ≤ nl P.2.1 P.1) : qRd l mX7_cellsOf [.ref r, vI q] h sz (vI (lnW P.2.1 P.1 k)) := by
  obtain ⟨p0, p1, p2, pT, pC, pM⟩ := id hP
  obtain ⟨w1, w2, w3, w4, w5, w6, w7⟩ := id hw
  have wcl := hw.c_le
  have hnl := nl_le P.2.1 P.1
  refine qC.of 0 (by decide) (le_b rfl) ?_
  refine qV_aload_n (pc := 0) 0 dX7_cellsOf_0 rfl rfl ?_
  refine qV_aload_n (pc := 1) 0 dX7_cellsOf_1 rfl rfl ?_
  refine qV_iload_n (pc := 2) 1 dX7_cellsOf_2 rfl rfl ?_
  refine qV_rdV (pc := 3) (m_lineAt (k := k) ho hs hP hw hq (by omega)) nX7_lineAt kX7 lk_X7_99 dX7_cellsOf_3 (by first | assumption | exact hU_self _ _ _ | (refine (hU_ne (by omega)).trans ?_; first | assumption | exact hU_self _ _ _ | (refine (hU_ne (by omega)).trans ?_; first | assumption | exact hU_self _ _ _ | (refine (hU_ne (by omega)).trans ?_; first | assumption | exact hU_self _ _ _)))) ⟨le_b rfl, le_b rfl⟩ ⟨le_b rfl, le_b rfl⟩ rfl (le_b rfl) ?_
  rw [lnA_le hk]
  refine qV_aload_n (pc := 6) 0 dX7_cellsOf_6 rfl rfl ?_
  refine qV_iload_n (pc := 7) 1 dX7_cellsOf_7 rfl rfl ?_
  refine qV_rdV (pc := 8) (m_endOf ho hs hP hw hq hk) nX7_endOf kX7 lk_X7_113 dX7_cellsOf_8 (by first | assumption | exact hU_self _ _ _ | (refine (hU_ne (by omega)).trans ?_; first | assumption | exact hU_self _ _ _ | (refine (hU_ne (by omega)).trans ?_; first | assumption | exact hU_self _ _ _ | (refine (hU_ne (by omega)).trans ?_; first | assumption | exact hU_self _ _ _)))) ⟨le_b rfl, le_b rfl⟩ ⟨le_b rfl, le_b rfl⟩ rfl (le_b rfl) ?_
  refine qV_iconst (pc := 11) dX7_cellsOf_11 ?_
  refine qV_rdV (pc := 12) (m_measure (w := 3) ho hs hP hw rfl rfl rfl (by omega) (lnE_in hk).1 (lnE_in hk).2) nX7_measure kX7 lk_X7_96 dX7_cellsOf_12 (by first | assumption | exact hU_self _ _ _ | (refine (hU_ne (by omega)).trans ?_; first | assumption | exact hU_self _ _ _ | (refine (hU_ne (by omega)).trans ?_; first | assumption | exact hU_self _ _ _ | (refine (hU_ne (by omega)).trans ?_; first | assumption | exact hU_self _ _ _)))) ⟨le_b rfl, le_b rfl⟩ ⟨le_b rfl, le_b rfl⟩ rfl (le_b rfl) ?_
  refine qV_iret (pc := 15) dX7_cellsOf_15 rfl (le_b rfl) (le_b rfl) ?_
  exact ⟨rfl, rfl, rfl⟩
set_option maxRecDepth 100000 in
set_option maxHeartbeats 4000000 in
theorem m_told {x : Int} (hx : iR x) : qRd l mX7_told [vI x] h sz (vI (if x < 0 then -9 else x)) := by
  obtain ⟨x1, x2⟩ := hx
  refine qC.of 0 (by decide) (le_b rfl) ?_
  refine qV_iload_n (pc := 0) 0 dX7_told_0 rfl rfl ?_
  refine qV_ifge (pc := 1) 9 dX7_told_1 (by decide) ⟨by omega, by omega⟩ (fun c1 => ?_) (fun c1 => ?_)
  · refine qV_iload_n (pc := 9) 0 dX7_told_9 rfl rfl ?_
    refine qV_iret (pc := 10) dX7_told_10 rfl (le_b rfl) (le_b rfl) ?_
    first | exact ⟨by rw [if_pos (by omega)], rfl, rfl⟩ | exact ⟨by rw [if_neg (by omega)], rfl, rfl⟩
  · refine qV_bipush (pc := 4) dX7_told_4 rfl ?_
    refine qV_goto (pc := 6) 10 dX7_told_6 (by decide) ?_
    refine qV_iret (pc := 10) dX7_told_10 rfl (le_b rfl) (le_b rfl) ?_
    first | exact ⟨by rw [if_pos (by omega)], rfl, rfl⟩ | exact ⟨by rw [if_neg (by omega)], rfl, rfl⟩
set_option maxRecDepth 100000 in
set_option maxHeartbeats 4000000 in
theorem m_isName {x : Int} (hx : iR x) : qRd l mX7_isName [vI x] h sz (vB (97 ≤ x ∧ x ≤ 122)) := by
  obtain ⟨x1, x2⟩ := hx
  refine qC.of 0 (by decide) (le_b rfl) ?_
  refine qV_iload_n (pc := 0) 0 dX7_isName_0 rfl rfl ?_
  refine qV_bipush (pc := 1) dX7_isName_1 rfl ?_
  refine qV_bipush (pc := 3) dX7_isName_3 rfl ?_
  refine qV_rdS (pc := 5) (m_in ⟨x1, x2⟩ ⟨by decide, by decide⟩ ⟨by decide, by decide⟩) nX7_in lk_X7_38 dX7_isName_5 ⟨le_b rfl, le_b rfl⟩ ⟨le_b rfl, le_b rfl⟩ rfl (le_b rfl) ?_
  refine qV_zret (pc := 8) dX7_isName_8 rfl (by first | exact Or.inl rfl | exact Or.inr rfl | exact b01 _) (le_b rfl) (le_b rfl) ?_
  exact ⟨rfl, rfl, rfl⟩
set_option maxRecDepth 100000 in
set_option maxHeartbeats 4000000 in
theorem marksOf_loop (ho : h r = some (rob r kn ty st)) (hs : h (r + 1) = some (iA 0 541 s)) (hP : SP s P) (hw : wf 216 P) : ∀ (m i : Nat) (q z : Int), 26 - i = m → i ≤ 26 → q = 515 + (i : Int) → z = mcnt P.2.2.2.2.1 i → qVM l mX7_marksOf 0 0 h sz (fun v h' sz' => v = some (vI (mcnt P.2.2.2.2.1 26)) ∧ h' = h ∧ sz' = sz) 0 0 h sz 6 [some (.ref r), some (vI z), some (vI q)] [] := by
  obtain ⟨p0, p1, p2, pT, pC, pM⟩ := id hP
  obtain ⟨w1, w2, w3, w4, w5, w6, w7⟩ := id hw
  have wcl := hw.c_le
  intro m
  induction m with
  | zero =>
    intro i q z hm hi hq hz
    obtain rfl : i = 26 := by omega
    refine qV_iload_n (pc := 6) 2 dX7_marksOf_6 rfl rfl ?_
    refine qV_sipush (pc := 7) dX7_marksOf_7 rfl ?_
    refine qV_icmp_ge (pc := 10) 36 dX7_marksOf_10 (by decide) ⟨by omega, by omega⟩ ⟨by omega, by omega⟩ (fun c10 => ?_) (fun c10 => ?_)
    · refine qV_iload_n (pc := 36) 1 dX7_marksOf_36 rfl rfl ?_
      refine qV_iret (pc := 37) dX7_marksOf_37 rfl (le_b rfl) (le_b rfl) ?_
      exact ⟨by rw [hz], rfl, rfl⟩
    · exfalso; omega
  | succ m ih =>
    intro i q z hm hi hq hz
    have b := w5 i (by omega)
    have e1 := pM i (by omega)
    have e2 : mq (P.2.2.2.2.1 i) < 0 ↔ P.2.2.2.2.1 i = -9 := by simp only [mq]; split <;> omega
    have e3 : -1 ≤ mq (P.2.2.2.2.1 i) ∧ mq (P.2.2.2.2.1 i) ≤ 5000 := by simp only [mq]; split <;> omega
    refine qV_iload_n (pc := 6) 2 dX7_marksOf_6 rfl rfl ?_
    refine qV_sipush (pc := 7) dX7_marksOf_7 rfl ?_
    refine qV_icmp_ge (pc := 10) 36 dX7_marksOf_10 (by decide) ⟨by omega, by omega⟩ ⟨by omega, by omega⟩ (fun c10 => ?_) (fun c10 => ?_)
    · exfalso; omega
    · refine qV_iload_n (pc := 13) 1 dX7_marksOf_13 rfl rfl ?_
      refine qV_aload_n (pc := 14) 0 dX7_marksOf_14 rfl rfl ?_
      refine qV_get (pc := 15) kX7 0 (le_b rfl) lk_X7_7 rfl dX7_marksOf_15 (by first | assumption | exact hU_self _ _ _ | (refine (hU_ne (by omega)).trans ?_; first | assumption | exact hU_self _ _ _ | (refine (hU_ne (by omega)).trans ?_; first | assumption | exact hU_self _ _ _ | (refine (hU_ne (by omega)).trans ?_; first | assumption | exact hU_self _ _ _)))) (by exact rfl) ?_
      refine qV_iload_n (pc := 18) 2 dX7_marksOf_18 rfl rfl ?_
      refine qV_ialdN (pc := 19) (515 + i) dX7_marksOf_19 (by first | assumption | exact hU_self _ _ _ | (refine (hU_ne (by omega)).trans ?_; first | assumption | exact hU_self _ _ _ | (refine (hU_ne (by omega)).trans ?_; first | assumption | exact hU_self _ _ _ | (refine (hU_ne (by omega)).trans ?_; first | assumption | exact hU_self _ _ _)))) (by omega) (by omega) e1 ?_
      refine qV_ifge (pc := 20) 27 dX7_marksOf_20 (by decide) ⟨by omega, by omega⟩ (fun c20 => ?_) (fun c20 => ?_)
      · refine qV_iconst (pc := 27) dX7_marksOf_27 ?_
        refine qV_iadd (pc := 28) dX7_marksOf_28 ?_
        refine qV_istore_n (pc := 29) 1 dX7_marksOf_29 rfl (le_b rfl) (le_b rfl) rfl ?_
        refine qV_iinc (pc := 30) 2 dX7_marksOf_30 rfl (le_b rfl) (le_b rfl) rfl ?_
        refine qV_goto (pc := 33) 6 dX7_marksOf_33 (by decide) ?_
        first
        | exact ih (i + 1) _ _ (by omega) (by omega) (by omega) (by simp only [mcnt]; rw [if_pos (e2.mp (by omega))]; omega)
        | exact ih (i + 1) _ _ (by omega) (by omega) (by omega) (by simp only [mcnt]; rw [if_neg (fun z => by have := e2.mpr z; omega)]; omega)
      · refine qV_iconst (pc := 23) dX7_marksOf_23 ?_
        refine qV_goto (pc := 24) 28 dX7_marksOf_24 (by decide) ?_
        refine qV_iadd (pc := 28) dX7_marksOf_28 ?_
        refine qV_istore_n (pc := 29) 1 dX7_marksOf_29 rfl (le_b rfl) (le_b rfl) rfl ?_
        refine qV_iinc (pc := 30) 2 dX7_marksOf_30 rfl (le_b rfl) (le_b rfl) rfl ?_
        refine qV_goto (pc := 33) 6 dX7_marksOf_33 (by decide) ?_
        first
        | exact ih (i + 1) _ _ (by omega) (by omega) (by omega) (by simp only [mcnt]; rw [if_pos (e2.mp (by omega))]; omega)
        | exact ih (i + 1) _ _ (by omega) (by omega) (by omega) (by simp only [mcnt]; rw [if_neg (fun z => by have := e2.mpr z; omega)]; omega)
set_option maxRecDepth 100000 in
set_option maxHeartbeats 4000000 in
theorem m_marksOf (ho : h r = some (rob r kn ty st)) (hs : h (r + 1) = some (iA 0 541 s)) (hP : SP s P) (hw : wf 216 P) : qRd l mX7_marksOf [.ref r] h sz (vI (mcnt P.2.2.2.2.1 26)) := by
  refine qC.of 2 (by decide) (le_b rfl) ?_
  refine qV_iconst (pc := 0) dX7_marksOf_0 ?_
  refine qV_istore_n (pc := 1) 1 dX7_marksOf_1 rfl (le_b rfl) (le_b rfl) rfl ?_
  refine qV_sipush (pc := 2) dX7_marksOf_2 rfl ?_
  refine qV_istore_n (pc := 5) 2 dX7_marksOf_5 rfl (le_b rfl) (le_b rfl) rfl ?_
  exact marksOf_loop ho hs hP hw 26 0 _ _ (by omega) (by omega) rfl rfl
set_option maxRecDepth 100000 in
set_option maxHeartbeats 4000000 in
theorem chunkAt_loop {x : Int} {C : Nat → Int} {c : Nat} (ho : h r = some (rob r kn ty st)) (hs : h (r + 1) = some (iA 0 541 s)) (pC : ∀ k, k < c → s (259 + k) = C k) (hC : ∀ j, j < c → 0 ≤ C j) (hcs : csum C c ≤ 5000) (hx : iR x) (hx2 : x ≤ csum C c) (hc : c ≤ 250) : ∀ (m k : Nat) (q z : Int), c - k = m → k < c → q = k → z = csum C (k + 1) → (∀ j, j < k → csum C (j + 1) < x) → qVM l mX7_chunkAt 0 0 h sz (fun v h' sz' => v = some (vI (ca C x c : Nat)) ∧ h' = h ∧ sz' = sz) 0 0 h sz 11 [some (.ref r), some (vI x), some (vI q), some (vI z)] [] := by
  obtain ⟨x1, x2⟩ := hx
  intro m
  induction m with
  | zero => intro k q z hm hk; omega
  | succ m ih =>
    intro k q z hm hk hq hz hj
    have s1 := csum_mono hC (a := k + 1) (b := c) (by omega) (Nat.le_refl c)
    have s2 := csum_nn hC (b := k + 1) (by omega)
    by_cases hlast : k + 1 = c
    · have hge : x ≤ z := by rw [hz, hlast]; exact hx2
      refine qV_iload_n (pc := 11) 3 dX7_chunkAt_11 rfl rfl ?_
      refine qV_iload_n (pc := 12) 1 dX7_chunkAt_12 rfl rfl ?_
      refine qV_icmp_ge (pc := 13) 35 dX7_chunkAt_13 (by decide) ⟨by omega, by omega⟩ ⟨by omega, by omega⟩ (fun c13 => ?_) (fun c13 => ?_)
      · refine qV_iload_n (pc := 35) 2 dX7_chunkAt_35 rfl rfl ?_
        refine qV_iret (pc := 36) dX7_chunkAt_36 rfl (le_b rfl) (le_b rfl) ?_
        exact ⟨by rw [ca_of hC ⟨hk, by omega, hj⟩, hq], rfl, rfl⟩
      · exfalso; omega
    · have e1 := pC (k + 1) (by omega)
      refine qV_iload_n (pc := 11) 3 dX7_chunkAt_11 rfl rfl ?_
      refine qV_iload_n (pc := 12) 1 dX7_chunkAt_12 rfl rfl ?_
      refine qV_icmp_ge (pc := 13) 35 dX7_chunkAt_13 (by decide) ⟨by omega, by omega⟩ ⟨by omega, by omega⟩ (fun c13 => ?_) (fun c13 => ?_)
      · refine qV_iload_n (pc := 35) 2 dX7_chunkAt_35 rfl rfl ?_
        refine qV_iret (pc := 36) dX7_chunkAt_36 rfl (le_b rfl) (le_b rfl) ?_
        exact ⟨by rw [ca_of hC ⟨hk, by omega, hj⟩, hq], rfl, rfl⟩
      · refine qV_iinc (pc := 16) 2 dX7_chunkAt_16 rfl (le_b rfl) (le_b rfl) rfl ?_
        refine qV_iload_n (pc := 19) 3 dX7_chunkAt_19 rfl rfl ?_
        refine qV_aload_n (pc := 20) 0 dX7_chunkAt_20 rfl rfl ?_
        refine qV_get (pc := 21) kX7 0 (le_b rfl) lk_X7_7 rfl dX7_chunkAt_21 (by first | assumption | exact hU_self _ _ _ | (refine (hU_ne (by omega)).trans ?_; first | assumption | exact hU_self _ _ _ | (refine (hU_ne (by omega)).trans ?_; first | assumption | exact hU_self _ _ _ | (refine (hU_ne (by omega)).trans ?_; first | assumption | exact hU_self _ _ _)))) (by exact rfl) ?_
        refine qV_sipush (pc := 24) dX7_chunkAt_24 rfl ?_
        refine qV_iload_n (pc := 27) 2 dX7_chunkAt_27 rfl rfl ?_
        refine qV_iadd (pc := 28) dX7_chunkAt_28 ?_
        refine qV_ialdN (pc := 29) (259 + (k + 1)) dX7_chunkAt_29 (by first | assumption | exact hU_self _ _ _ | (refine (hU_ne (by omega)).trans ?_; first | assumption | exact hU_self _ _ _ | (refine (hU_ne (by omega)).trans ?_; first | assumption | exact hU_self _ _ _ | (refine (hU_ne (by omega)).trans ?_; first | assumption | exact hU_self _ _ _)))) (by omega) (by omega) e1 ?_
        refine qV_iadd (pc := 30) dX7_chunkAt_30 ?_
        refine qV_istore_n (pc := 31) 3 dX7_chunkAt_31 rfl (le_b rfl) (le_b rfl) rfl ?_
        refine qV_goto (pc := 32) 11 dX7_chunkAt_32 (by decide) ?_
        refine ih (k + 1) _ _ (by omega) (by omega) (by omega) (by rw [hz]; rfl) (fun j hj2 => ?_)
        by_cases e : j = k
        · subst e; omega
        · exact hj j (by omega)
set_option maxRecDepth 100000 in
set_option maxHeartbeats 4000000 in
theorem m_chunkAt {x : Int} {C : Nat → Int} {c : Nat} (ho : h r = some (rob r kn ty st)) (hs : h (r + 1) = some (iA 0 541 s)) (pC : ∀ k, k < c → s (259 + k) = C k) (hC : ∀ j, j < c → 0 ≤ C j) (hcs : csum C c ≤ 5000) (hx : iR x) (hx2 : x ≤ csum C c) (hc : c ≤ 250) (hc0 : 0 < c) : qRd l mX7_chunkAt [.ref r, vI x] h sz (vI (ca C x c : Nat)) := by
  refine qC.of 2 (by decide) (le_b rfl) ?_
  refine qV_iconst (pc := 0) dX7_chunkAt_0 ?_
  refine qV_istore_n (pc := 1) 2 dX7_chunkAt_1 rfl (le_b rfl) (le_b rfl) rfl ?_
  refine qV_aload_n (pc := 2) 0 dX7_chunkAt_2 rfl rfl ?_
  refine qV_get (pc := 3) kX7 0 (le_b rfl) lk_X7_7 rfl dX7_chunkAt_3 (by first | assumption | exact hU_self _ _ _ | (refine (hU_ne (by omega)).trans ?_; first | assumption | exact hU_self _ _ _ | (refine (hU_ne (by omega)).trans ?_; first | assumption | exact hU_self _ _ _ | (refine (hU_ne (by omega)).trans ?_; first | assumption | exact hU_self _ _ _)))) (by exact rfl) ?_
  refine qV_sipush (pc := 6) dX7_chunkAt_6 rfl ?_
  refine qV_ialdN (pc := 9) (259) dX7_chunkAt_9 (by first | assumption | exact hU_self _ _ _ | (refine (hU_ne (by omega)).trans ?_; first | assumption | exact hU_self _ _ _ | (refine (hU_ne (by omega)).trans ?_; first | assumption | exact hU_self _ _ _ | (refine (hU_ne (by omega)).trans ?_; first | assumption | exact hU_self _ _ _)))) (by omega) (by omega) (pC 0 hc0) ?_
  refine qV_istore_n (pc := 10) 3 dX7_chunkAt_10 rfl (le_b rfl) (le_b rfl) rfl ?_
  exact chunkAt_loop ho hs pC hC hcs hx hx2 hc c 0 _ _ (by omega) hc0 rfl (by simp [csum]) (fun j hj => by omega)
set_option maxRecDepth 100000 in
set_option maxHeartbeats 4000000 in
theorem m_isEdit {x k : Int} (hx : iR x) (hk : iR k) (ho : h r = some (rob r kn ty st)) (hs : h (r + 1) = some (iA 0 541 s)) (hP : SP s P) (hw : wf 216 P) : qRd l mX7_isEdit [.ref r, vI x, vI k] h sz (vB (0 ≤ x ∧ x ≤ P.1 ∧ 0 ≤ k ∧ k ≤ P.1 - x)) := by
  obtain ⟨p0, p1, p2, pT, pC, pM⟩ := id hP
  obtain ⟨w1, w2, w3, w4, w5, w6, w7⟩ := id hw
  have wcl := hw.c_le
  obtain ⟨x1, x2⟩ := hx
  obtain ⟨k1, k2⟩ := hk
  refine qC.of 0 (by decide) (le_b rfl) ?_
  refine qV_aload_n (pc := 0) 0 dX7_isEdit_0 rfl rfl ?_
  refine qV_iload_n (pc := 1) 1 dX7_isEdit_1 rfl rfl ?_
  refine qV_rdV (pc := 2) (m_isPlace ⟨x1, x2⟩ ho hs hP hw) nX7_isPlace kX7 lk_X7_68 dX7_isEdit_2 (by first | assumption | exact hU_self _ _ _ | (refine (hU_ne (by omega)).trans ?_; first | assumption | exact hU_self _ _ _ | (refine (hU_ne (by omega)).trans ?_; first | assumption | exact hU_self _ _ _ | (refine (hU_ne (by omega)).trans ?_; first | assumption | exact hU_self _ _ _)))) ⟨le_b rfl, le_b rfl⟩ ⟨le_b rfl, le_b rfl⟩ rfl (le_b rfl) ?_
  refine qV_ifeqB (pc := 5) 28 dX7_isEdit_5 (by decide) (fun c5 => ?_) (fun c5 => ?_)
  · refine qV_iconst (pc := 28) dX7_isEdit_28 ?_
    refine qV_zret (pc := 29) dX7_isEdit_29 rfl (by first | exact Or.inl rfl | exact Or.inr rfl | exact b01 _) (le_b rfl) (le_b rfl) ?_
    first | exact ⟨by rw [vB, if_pos (by omega)], rfl, rfl⟩ | exact ⟨by rw [vB, if_neg (by omega)], rfl, rfl⟩
  · refine qV_iload_n (pc := 8) 2 dX7_isEdit_8 rfl rfl ?_
    refine qV_iconst (pc := 9) dX7_isEdit_9 ?_
    refine qV_aload_n (pc := 10) 0 dX7_isEdit_10 rfl rfl ?_
    refine qV_get (pc := 11) kX7 0 (le_b rfl) lk_X7_7 rfl dX7_isEdit_11 (by first | assumption | exact hU_self _ _ _ | (refine (hU_ne (by omega)).trans ?_; first | assumption | exact hU_self _ _ _ | (refine (hU_ne (by omega)).trans ?_; first | assumption | exact hU_self _ _ _ | (refine (hU_ne (by omega)).trans ?_; first | assumption | exact hU_self _ _ _)))) (by exact rfl) ?_
    refine qV_iconst (pc := 14) dX7_isEdit_14 ?_
    refine qV_ialdN (pc := 15) (0) dX7_isEdit_15 (by first | assumption | exact hU_self _ _ _ | (refine (hU_ne (by omega)).trans ?_; first | assumption | exact hU_self _ _ _ | (refine (hU_ne (by omega)).trans ?_; first | assumption | exact hU_self _ _ _ | (refine (hU_ne (by omega)).trans ?_; first | assumption | exact hU_self _ _ _)))) (by omega) (by omega) p0 ?_
    refine qV_iload_n (pc := 16) 1 dX7_isEdit_16 rfl rfl ?_
    refine qV_isub (pc := 17) dX7_isEdit_17 ?_
    refine qV_rdS (pc := 18) (m_in ⟨k1, k2⟩ ⟨by omega, by omega⟩ ⟨by omega, by omega⟩) nX7_in lk_X7_38 dX7_isEdit_18 ⟨le_b rfl, le_b rfl⟩ ⟨le_b rfl, le_b rfl⟩ rfl (le_b rfl) ?_
    refine qV_ifeqB (pc := 21) 28 dX7_isEdit_21 (by decide) (fun c21 => ?_) (fun c21 => ?_)
    · refine qV_iconst (pc := 28) dX7_isEdit_28 ?_
      refine qV_zret (pc := 29) dX7_isEdit_29 rfl (by first | exact Or.inl rfl | exact Or.inr rfl | exact b01 _) (le_b rfl) (le_b rfl) ?_
      first | exact ⟨by rw [vB, if_pos (by omega)], rfl, rfl⟩ | exact ⟨by rw [vB, if_neg (by omega)], rfl, rfl⟩
    · refine qV_iconst (pc := 24) dX7_isEdit_24 ?_
      refine qV_goto (pc := 25) 29 dX7_isEdit_25 (by decide) ?_
      refine qV_zret (pc := 29) dX7_isEdit_29 rfl (by first | exact Or.inl rfl | exact Or.inr rfl | exact b01 _) (le_b rfl) (le_b rfl) ?_
      first | exact ⟨by rw [vB, if_pos (by omega)], rfl, rfl⟩ | exact ⟨by rw [vB, if_neg (by omega)], rfl, rfl⟩
set_option maxRecDepth 100000 in
set_option maxHeartbeats 4000000 in
theorem m_goes {x p k : Int} (hx : -9 ≤ x ∧ x ≤ 5000) (hp : 0 ≤ p ∧ p ≤ 5000) (hk : 0 ≤ k ∧ k ≤ 5000) : qRd l mX7_goes [vI x, vI p, vI k] h sz (vI (mvT x p k)) := by
  refine qC.of 0 (by decide) (le_b rfl) ?_
  refine qV_iload_n (pc := 0) 0 dX7_goes_0 rfl rfl ?_
  refine qV_iload_n (pc := 1) 1 dX7_goes_1 rfl rfl ?_
  refine qV_iload_n (pc := 2) 2 dX7_goes_2 rfl rfl ?_
  refine qV_iadd (pc := 3) dX7_goes_3 ?_
  refine qV_icmp_le (pc := 4) 13 dX7_goes_4 (by decide) ⟨by omega, by omega⟩ ⟨by omega, by omega⟩ (fun c4 => ?_) (fun c4 => ?_)
  · refine qV_iload_n (pc := 13) 0 dX7_goes_13 rfl rfl ?_
    refine qV_iload_n (pc := 14) 1 dX7_goes_14 rfl rfl ?_
    refine qV_icmp_le (pc := 15) 22 dX7_goes_15 (by decide) ⟨by omega, by omega⟩ ⟨by omega, by omega⟩ (fun c15 => ?_) (fun c15 => ?_)
    · have e0 : mvT x p k = x := by simp only [mvT]; split <;> omega
      refine qV_iload_n (pc := 22) 0 dX7_goes_22 rfl rfl ?_
      refine qV_iret (pc := 23) dX7_goes_23 rfl (le_b rfl) (le_b rfl) ?_
      exact ⟨by rw [e0], rfl, rfl⟩
    · have e0 : mvT x p k = p := by simp only [mvT]; split <;> omega
      refine qV_iload_n (pc := 18) 1 dX7_goes_18 rfl rfl ?_
      refine qV_goto (pc := 19) 23 dX7_goes_19 (by decide) ?_
      refine qV_iret (pc := 23) dX7_goes_23 rfl (le_b rfl) (le_b rfl) ?_
      exact ⟨by rw [e0], rfl, rfl⟩
  · have e0 : mvT x p k = x - k := by simp only [mvT]; split <;> omega
    refine qV_iload_n (pc := 7) 0 dX7_goes_7 rfl rfl ?_
    refine qV_iload_n (pc := 8) 2 dX7_goes_8 rfl rfl ?_
    refine qV_isub (pc := 9) dX7_goes_9 ?_
    refine qV_goto (pc := 10) 23 dX7_goes_10 (by decide) ?_
    refine qV_iret (pc := 23) dX7_goes_23 rfl (le_b rfl) (le_b rfl) ?_
    exact ⟨by rw [e0], rfl, rfl⟩
end REF
