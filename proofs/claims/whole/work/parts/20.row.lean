/-! ===== Row: a row of numbers, its room made once ===== -/
def Fr (h h' : qH) (lo hi : Nat) : Prop := ∀ q, q < lo ∨ hi ≤ q → h' q = h q
theorem Fr.rf {h : qH} {lo hi : Nat} : Fr h h lo hi := fun _ _ => rfl
theorem Fr.trans {h h' h2 : qH} {lo hi : Nat} (a : Fr h h' lo hi) (b : Fr h' h2 lo hi) : Fr h h2 lo hi := fun q hq => (b q hq).trans (a q hq)
theorem Fr.wide {h h' : qH} {lo hi lo' hi' : Nat} (a : Fr h h' lo hi) (h1 : lo' ≤ lo) (h2 : hi ≤ hi') : Fr h h' lo' hi' := fun q hq => a q (by omega)
theorem Fr.hU {h : qH} {lo hi a : Nat} {e : qE} (h1 : lo ≤ a) (h2 : a < hi) : Fr h (hU h a e) lo hi := fun q hq => hU_ne (by omega)

def Row (h : qH) (r N n : Nat) (T : Nat → Int) : Prop := ∃ f : Nat → Int, h r = some (oB 3 [.ref (r + 1), vI n]) ∧ h (r + 1) = some (iA 0 N f) ∧ n ≤ N ∧ N ≤ 5000 ∧ ∀ j, j < n → f j = T j
theorem Row.obj {h : qH} {r N n : Nat} {T : Nat → Int} (a : Row h r N n T) : h r = some (oB 3 [.ref (r + 1), vI n]) := by obtain ⟨f, h1, -⟩ := a; exact h1
theorem Row.le {h : qH} {r N n : Nat} {T : Nat → Int} (a : Row h r N n T) : n ≤ N ∧ N ≤ 5000 := by obtain ⟨f, -, -, h3, h4, -⟩ := a; exact ⟨h3, h4⟩
theorem Row.fr {h h' : qH} {r N n lo hi : Nat} {T : Nat → Int} (a : Row h r N n T) (b : Fr h h' lo hi) (d : r + 2 ≤ lo ∨ hi ≤ r) : Row h' r N n T := by
  obtain ⟨f, h1, h2, h3⟩ := a
  exact ⟨f, (b r (by omega)).trans h1, (b (r + 1) (by omega)).trans h2, h3⟩
theorem Row.congr {h : qH} {r N n : Nat} {T T' : Nat → Int} (a : Row h r N n T) (e : ∀ j, j < n → T j = T' j) : Row h r N n T' := by
  obtain ⟨f, h1, h2, h3, h4, h5⟩ := a
  exact ⟨f, h1, h2, h3, h4, fun j hj => (h5 j hj).trans (e j hj)⟩
theorem up_agree {f T : Nat → Int} {n k : Nat} {v : Int} (e : ∀ j, j < n → f j = T j) : ∀ j, j < n → va_up f k v j = va_up T k v j := fun j hj => by
  by_cases h : j = k
  · subst h; simp [va_up]
  · simp [va_up, h, e j hj]
theorem up_lt {T : Nat → Int} {n : Nat} {v : Int} {j : Nat} (h : j < n) : va_up T n v j = T j := by simp [va_up, Nat.ne_of_lt h]
theorem up_at (T : Nat → Int) (n : Nat) (v : Int) : va_up T n v n = v := by simp [va_up]
theorem qV_loc {l : Launch} {M : MI} {R : Room} {EX : State → Array Value → Prop} {G : qG} {h0 : qH} {sz0 k n : Nat} {h : qH} {sz pc : Nat} {L L' : List (Option Value)} {st : List Value} (kk : qV l M R EX G h0 sz0 k n h sz pc L' st) (e : L = L') : qV l M R EX G h0 sz0 k n h sz pc L st := e ▸ kk
def mix (z : Int) (T : Nat → Int) : Nat → Int
  | 0 => z
  | n + 1 => 31 * mix z T n + T n
theorem mix_congr {z : Int} {T T' : Nat → Int} : ∀ {n : Nat}, (∀ j, j < n → T j = T' j) → mix z T n = mix z T' n
  | 0, _ => rfl
  | n + 1, e => by simp only [mix]; rw [mix_congr (fun j hj => e j (by omega)), e n (by omega)]
section ROW
variable {l : Launch} {h : qH} {sz r N n : Nat} {T : Nat → Int}
set_option maxRecDepth 100000 in
set_option maxHeartbeats 4000000 in
theorem c_size (hr : Row h r N n T) : qRd l mX3_size [.ref r] h sz (vI n) := by
  obtain ⟨f, h1, h2, h3, h4, h5⟩ := hr
  refine qC.of 0 (by decide) (le_b rfl) ?_
  refine qV_aload_n (pc := 0) 0 dX3_size_0 rfl rfl ?_
  refine qV_get (pc := 1) kX3 1 (le_b rfl) lk_X3_19 rfl dX3_size_1 (by first | assumption | exact hU_self _ _ _ | (refine (hU_ne (by omega)).trans ?_; first | assumption | exact hU_self _ _ _ | (refine (hU_ne (by omega)).trans ?_; first | assumption | exact hU_self _ _ _ | (refine (hU_ne (by omega)).trans ?_; first | assumption | exact hU_self _ _ _)))) (by exact rfl) ?_
  refine qV_iret (pc := 4) dX3_size_4 rfl (le_b rfl) (le_b rfl) ?_
  exact ⟨rfl, rfl, rfl⟩
set_option maxRecDepth 100000 in
set_option maxHeartbeats 4000000 in
theorem c_get {i : Int} (hr : Row h r N n T) (hi : iR i) : qRd l mX3_get [.ref r, vI i] h sz (vI (if 0 ≤ i ∧ i < n then T i.toNat else 0)) := by
  obtain ⟨f, h1, h2, h3, h4, h5⟩ := hr
  obtain ⟨i1, i2⟩ := hi
  refine qC.of 0 (by decide) (le_b rfl) ?_
  refine qV_iload_n (pc := 0) 1 dX3_get_0 rfl rfl ?_
  refine qV_iflt (pc := 1) 30 dX3_get_1 (by decide) ⟨by omega, by omega⟩ (fun c1 => ?_) (fun c1 => ?_)
  · refine qV_iconst (pc := 30) dX3_get_30 ?_
    refine qV_iret (pc := 31) dX3_get_31 rfl (le_b rfl) (le_b rfl) ?_
    first | exact ⟨by rw [if_neg (by omega)], rfl, rfl⟩ | exact ⟨by rw [if_pos (by omega), h5 _ (by omega)], rfl, rfl⟩
  · refine qV_iload_n (pc := 4) 1 dX3_get_4 rfl rfl ?_
    refine qV_aload_n (pc := 5) 0 dX3_get_5 rfl rfl ?_
    refine qV_get (pc := 6) kX3 1 (le_b rfl) lk_X3_19 rfl dX3_get_6 (by first | assumption | exact hU_self _ _ _ | (refine (hU_ne (by omega)).trans ?_; first | assumption | exact hU_self _ _ _ | (refine (hU_ne (by omega)).trans ?_; first | assumption | exact hU_self _ _ _ | (refine (hU_ne (by omega)).trans ?_; first | assumption | exact hU_self _ _ _)))) (by exact rfl) ?_
    refine qV_icmp_ge (pc := 9) 30 dX3_get_9 (by decide) ⟨by omega, by omega⟩ ⟨by omega, by omega⟩ (fun c9 => ?_) (fun c9 => ?_)
    · refine qV_iconst (pc := 30) dX3_get_30 ?_
      refine qV_iret (pc := 31) dX3_get_31 rfl (le_b rfl) (le_b rfl) ?_
      first | exact ⟨by rw [if_neg (by omega)], rfl, rfl⟩ | exact ⟨by rw [if_pos (by omega), h5 _ (by omega)], rfl, rfl⟩
    · refine qV_iload_n (pc := 12) 1 dX3_get_12 rfl rfl ?_
      refine qV_aload_n (pc := 13) 0 dX3_get_13 rfl rfl ?_
      refine qV_get (pc := 14) kX3 0 (le_b rfl) lk_X3_13 rfl dX3_get_14 (by first | assumption | exact hU_self _ _ _ | (refine (hU_ne (by omega)).trans ?_; first | assumption | exact hU_self _ _ _ | (refine (hU_ne (by omega)).trans ?_; first | assumption | exact hU_self _ _ _ | (refine (hU_ne (by omega)).trans ?_; first | assumption | exact hU_self _ _ _)))) (by exact rfl) ?_
      refine qV_alen (pc := 17) dX3_get_17 (by first | assumption | exact hU_self _ _ _ | (refine (hU_ne (by omega)).trans ?_; first | assumption | exact hU_self _ _ _ | (refine (hU_ne (by omega)).trans ?_; first | assumption | exact hU_self _ _ _ | (refine (hU_ne (by omega)).trans ?_; first | assumption | exact hU_self _ _ _)))) ?_
      refine qV_icmp_ge (pc := 18) 30 dX3_get_18 (by decide) ⟨by omega, by omega⟩ ⟨by omega, by omega⟩ (fun c18 => ?_) (fun c18 => ?_)
      · exfalso; omega
      · refine qV_aload_n (pc := 21) 0 dX3_get_21 rfl rfl ?_
        refine qV_get (pc := 22) kX3 0 (le_b rfl) lk_X3_13 rfl dX3_get_22 (by first | assumption | exact hU_self _ _ _ | (refine (hU_ne (by omega)).trans ?_; first | assumption | exact hU_self _ _ _ | (refine (hU_ne (by omega)).trans ?_; first | assumption | exact hU_self _ _ _ | (refine (hU_ne (by omega)).trans ?_; first | assumption | exact hU_self _ _ _)))) (by exact rfl) ?_
        refine qV_iload_n (pc := 25) 1 dX3_get_25 rfl rfl ?_
        refine qV_iald (pc := 26) dX3_get_26 (by first | assumption | exact hU_self _ _ _ | (refine (hU_ne (by omega)).trans ?_; first | assumption | exact hU_self _ _ _ | (refine (hU_ne (by omega)).trans ?_; first | assumption | exact hU_self _ _ _ | (refine (hU_ne (by omega)).trans ?_; first | assumption | exact hU_self _ _ _)))) (by omega) ?_
        refine qV_goto (pc := 27) 31 dX3_get_27 (by decide) ?_
        refine qV_iret (pc := 31) dX3_get_31 rfl (le_b rfl) (le_b rfl) ?_
        first | exact ⟨by rw [if_neg (by omega)], rfl, rfl⟩ | exact ⟨by rw [if_pos (by omega), h5 _ (by omega)], rfl, rfl⟩
theorem c_gt {q : Int} {i : Nat} (hr : Row h r N n T) (hq : q = i) (hi : i < n) : qRd l mX3_get [.ref r, vI q] h sz (vI (T i)) := by
  have := hr.le
  have e := c_get (l := l) (sz := sz) hr (i := q) ⟨by omega, by omega⟩
  rw [if_pos (by omega), show q.toNat = i by omega] at e
  exact e
theorem c_gt0 {q : Int} (hr : Row h r N n T) (hq : q < 0 ∨ n ≤ q) (hi : iR q) : qRd l mX3_get [.ref r, vI q] h sz (vI 0) := by
  have e := c_get (l := l) (sz := sz) hr (i := q) hi
  rw [if_neg (by omega)] at e
  exact e
set_option maxRecDepth 100000 in
set_option maxHeartbeats 4000000 in
theorem c_set {q v : Int} {i : Nat} (hr : Row h r N n T) (hq : q = i) (hi : i < n) : qVo l mX3_set 0 0 [.ref r, vI q, vI v] h sz (fun h' sz' => Row h' r N n (va_up T i v) ∧ Fr h h' r (r + 2) ∧ sz' = sz) := by
  obtain ⟨f, h1, h2, h3, h4, h5⟩ := hr
  subst hq
  refine qC.of 0 (by decide) (le_b rfl) ?_
  refine qV_iload_n (pc := 0) 1 dX3_set_0 rfl rfl ?_
  refine qV_iflt (pc := 1) 28 dX3_set_1 (by decide) ⟨by omega, by omega⟩ (fun c1 => ?_) (fun c1 => ?_)
  · exfalso; omega
  · refine qV_iload_n (pc := 4) 1 dX3_set_4 rfl rfl ?_
    refine qV_aload_n (pc := 5) 0 dX3_set_5 rfl rfl ?_
    refine qV_get (pc := 6) kX3 1 (le_b rfl) lk_X3_19 rfl dX3_set_6 (by first | assumption | exact hU_self _ _ _ | (refine (hU_ne (by omega)).trans ?_; first | assumption | exact hU_self _ _ _ | (refine (hU_ne (by omega)).trans ?_; first | assumption | exact hU_self _ _ _ | (refine (hU_ne (by omega)).trans ?_; first | assumption | exact hU_self _ _ _)))) (by exact rfl) ?_
    refine qV_icmp_ge (pc := 9) 28 dX3_set_9 (by decide) ⟨by omega, by omega⟩ ⟨by omega, by omega⟩ (fun c9 => ?_) (fun c9 => ?_)
    · exfalso; omega
    · refine qV_iload_n (pc := 12) 1 dX3_set_12 rfl rfl ?_
      refine qV_aload_n (pc := 13) 0 dX3_set_13 rfl rfl ?_
      refine qV_get (pc := 14) kX3 0 (le_b rfl) lk_X3_13 rfl dX3_set_14 (by first | assumption | exact hU_self _ _ _ | (refine (hU_ne (by omega)).trans ?_; first | assumption | exact hU_self _ _ _ | (refine (hU_ne (by omega)).trans ?_; first | assumption | exact hU_self _ _ _ | (refine (hU_ne (by omega)).trans ?_; first | assumption | exact hU_self _ _ _)))) (by exact rfl) ?_
      refine qV_alen (pc := 17) dX3_set_17 (by first | assumption | exact hU_self _ _ _ | (refine (hU_ne (by omega)).trans ?_; first | assumption | exact hU_self _ _ _ | (refine (hU_ne (by omega)).trans ?_; first | assumption | exact hU_self _ _ _ | (refine (hU_ne (by omega)).trans ?_; first | assumption | exact hU_self _ _ _)))) ?_
      refine qV_icmp_ge (pc := 18) 28 dX3_set_18 (by decide) ⟨by omega, by omega⟩ ⟨by omega, by omega⟩ (fun c18 => ?_) (fun c18 => ?_)
      · exfalso; omega
      · refine qV_aload_n (pc := 21) 0 dX3_set_21 rfl rfl ?_
        refine qV_get (pc := 22) kX3 0 (le_b rfl) lk_X3_13 rfl dX3_set_22 (by first | assumption | exact hU_self _ _ _ | (refine (hU_ne (by omega)).trans ?_; first | assumption | exact hU_self _ _ _ | (refine (hU_ne (by omega)).trans ?_; first | assumption | exact hU_self _ _ _ | (refine (hU_ne (by omega)).trans ?_; first | assumption | exact hU_self _ _ _)))) (by exact rfl) ?_
        refine qV_iload_n (pc := 25) 1 dX3_set_25 rfl rfl ?_
        refine qV_iload_n (pc := 26) 2 dX3_set_26 rfl rfl ?_
        refine qV_iast (pc := 27) dX3_set_27 (by first | assumption | exact hU_self _ _ _ | (refine (hU_ne (by omega)).trans ?_; first | assumption | exact hU_self _ _ _ | (refine (hU_ne (by omega)).trans ?_; first | assumption | exact hU_self _ _ _ | (refine (hU_ne (by omega)).trans ?_; first | assumption | exact hU_self _ _ _)))) (by omega) ?_
        refine qV_vret (pc := 28) dX3_set_28 rfl (le_b rfl) (le_b rfl) ?_
        exact ⟨rfl, ⟨_, (hU_ne (by omega)).trans h1, hU_self _ _ _, h3, h4, up_agree h5⟩, Fr.hU (by omega) (by omega), rfl⟩
set_option maxRecDepth 100000 in
set_option maxHeartbeats 4000000 in
theorem c_add {v : Int} (hr : Row h r N n T) (hi : n < N) : qVo l mX3_add 0 0 [.ref r, vI v] h sz (fun h' sz' => Row h' r N (n + 1) (va_up T n v) ∧ Fr h h' r (r + 2) ∧ sz' = sz) := by
  obtain ⟨f, h1, h2, h3, h4, h5⟩ := hr
  refine qC.of 0 (by decide) (le_b rfl) ?_
  refine qV_aload_n (pc := 0) 0 dX3_add_0 rfl rfl ?_
  refine qV_get (pc := 1) kX3 1 (le_b rfl) lk_X3_19 rfl dX3_add_1 (by first | assumption | exact hU_self _ _ _ | (refine (hU_ne (by omega)).trans ?_; first | assumption | exact hU_self _ _ _ | (refine (hU_ne (by omega)).trans ?_; first | assumption | exact hU_self _ _ _ | (refine (hU_ne (by omega)).trans ?_; first | assumption | exact hU_self _ _ _)))) (by exact rfl) ?_
  refine qV_iflt (pc := 4) 39 dX3_add_4 (by decide) ⟨by omega, by omega⟩ (fun c4 => ?_) (fun c4 => ?_)
  · exfalso; omega
  · refine qV_aload_n (pc := 7) 0 dX3_add_7 rfl rfl ?_
    refine qV_get (pc := 8) kX3 1 (le_b rfl) lk_X3_19 rfl dX3_add_8 (by first | assumption | exact hU_self _ _ _ | (refine (hU_ne (by omega)).trans ?_; first | assumption | exact hU_self _ _ _ | (refine (hU_ne (by omega)).trans ?_; first | assumption | exact hU_self _ _ _ | (refine (hU_ne (by omega)).trans ?_; first | assumption | exact hU_self _ _ _)))) (by exact rfl) ?_
    refine qV_aload_n (pc := 11) 0 dX3_add_11 rfl rfl ?_
    refine qV_get (pc := 12) kX3 0 (le_b rfl) lk_X3_13 rfl dX3_add_12 (by first | assumption | exact hU_self _ _ _ | (refine (hU_ne (by omega)).trans ?_; first | assumption | exact hU_self _ _ _ | (refine (hU_ne (by omega)).trans ?_; first | assumption | exact hU_self _ _ _ | (refine (hU_ne (by omega)).trans ?_; first | assumption | exact hU_self _ _ _)))) (by exact rfl) ?_
    refine qV_alen (pc := 15) dX3_add_15 (by first | assumption | exact hU_self _ _ _ | (refine (hU_ne (by omega)).trans ?_; first | assumption | exact hU_self _ _ _ | (refine (hU_ne (by omega)).trans ?_; first | assumption | exact hU_self _ _ _ | (refine (hU_ne (by omega)).trans ?_; first | assumption | exact hU_self _ _ _)))) ?_
    refine qV_icmp_ge (pc := 16) 39 dX3_add_16 (by decide) ⟨by omega, by omega⟩ ⟨by omega, by omega⟩ (fun c16 => ?_) (fun c16 => ?_)
    · exfalso; omega
    · refine qV_aload_n (pc := 19) 0 dX3_add_19 rfl rfl ?_
      refine qV_get (pc := 20) kX3 0 (le_b rfl) lk_X3_13 rfl dX3_add_20 (by first | assumption | exact hU_self _ _ _ | (refine (hU_ne (by omega)).trans ?_; first | assumption | exact hU_self _ _ _ | (refine (hU_ne (by omega)).trans ?_; first | assumption | exact hU_self _ _ _ | (refine (hU_ne (by omega)).trans ?_; first | assumption | exact hU_self _ _ _)))) (by exact rfl) ?_
      refine qV_aload_n (pc := 23) 0 dX3_add_23 rfl rfl ?_
      refine qV_get (pc := 24) kX3 1 (le_b rfl) lk_X3_19 rfl dX3_add_24 (by first | assumption | exact hU_self _ _ _ | (refine (hU_ne (by omega)).trans ?_; first | assumption | exact hU_self _ _ _ | (refine (hU_ne (by omega)).trans ?_; first | assumption | exact hU_self _ _ _ | (refine (hU_ne (by omega)).trans ?_; first | assumption | exact hU_self _ _ _)))) (by exact rfl) ?_
      refine qV_iload_n (pc := 27) 1 dX3_add_27 rfl rfl ?_
      refine qV_iast (pc := 28) dX3_add_28 (by first | assumption | exact hU_self _ _ _ | (refine (hU_ne (by omega)).trans ?_; first | assumption | exact hU_self _ _ _ | (refine (hU_ne (by omega)).trans ?_; first | assumption | exact hU_self _ _ _ | (refine (hU_ne (by omega)).trans ?_; first | assumption | exact hU_self _ _ _)))) (by omega) ?_
      refine qV_aload_n (pc := 29) 0 dX3_add_29 rfl rfl ?_
      refine qV_dup (pc := 30) dX3_add_30 rfl ?_
      refine qV_get (pc := 31) kX3 1 (le_b rfl) lk_X3_19 rfl dX3_add_31 (by first | assumption | exact hU_self _ _ _ | (refine (hU_ne (by omega)).trans ?_; first | assumption | exact hU_self _ _ _ | (refine (hU_ne (by omega)).trans ?_; first | assumption | exact hU_self _ _ _ | (refine (hU_ne (by omega)).trans ?_; first | assumption | exact hU_self _ _ _)))) (by exact rfl) ?_
      refine qV_iconst (pc := 34) dX3_add_34 ?_
      refine qV_iadd (pc := 35) dX3_add_35 ?_
      refine qV_put (pc := 36) kX3 1 (le_b rfl) lk_X3_19 rfl rfl rfl rfl dX3_add_36 (by first | assumption | exact hU_self _ _ _ | (refine (hU_ne (by omega)).trans ?_; first | assumption | exact hU_self _ _ _ | (refine (hU_ne (by omega)).trans ?_; first | assumption | exact hU_self _ _ _ | (refine (hU_ne (by omega)).trans ?_; first | assumption | exact hU_self _ _ _)))) (by exact le_b rfl) ?_
      refine qV_vret (pc := 39) dX3_add_39 rfl (le_b rfl) (le_b rfl) ?_
      exact ⟨rfl, ⟨va_up f n v, hU_self _ _ _, (hU_ne (by omega)).trans (hU_self _ _ _), by omega, h4, fun j hj => by
        by_cases e : j = n
        · subst e; simp [va_up]
        · simp [va_up, e, h5 j (by omega)]⟩, (Fr.hU (lo := r) (hi := r + 2) (by omega) (by omega)).trans (Fr.hU (by omega) (by omega)), rfl⟩
set_option maxRecDepth 100000 in
set_option maxHeartbeats 4000000 in
theorem c_empties (T2 : Nat → Int) (hr : Row h r N n T) : qVo l mX3_empties 0 0 [.ref r] h sz (fun h' sz' => Row h' r N 0 T2 ∧ Fr h h' r (r + 2) ∧ sz' = sz) := by
  obtain ⟨f, h1, h2, h3, h4, h5⟩ := hr
  refine qC.of 0 (by decide) (le_b rfl) ?_
  refine qV_aload_n (pc := 0) 0 dX3_empties_0 rfl rfl ?_
  refine qV_iconst (pc := 1) dX3_empties_1 ?_
  refine qV_put (pc := 2) kX3 1 (le_b rfl) lk_X3_19 rfl rfl rfl rfl dX3_empties_2 (by first | assumption | exact hU_self _ _ _ | (refine (hU_ne (by omega)).trans ?_; first | assumption | exact hU_self _ _ _ | (refine (hU_ne (by omega)).trans ?_; first | assumption | exact hU_self _ _ _ | (refine (hU_ne (by omega)).trans ?_; first | assumption | exact hU_self _ _ _)))) (by exact le_b rfl) ?_
  refine qV_vret (pc := 5) dX3_empties_5 rfl (le_b rfl) (le_b rfl) ?_
  exact ⟨rfl, ⟨f, hU_self _ _ _, (hU_ne (by omega)).trans h2, by omega, h4, fun j hj => by omega⟩, Fr.hU (by omega) (by omega), rfl⟩
set_option maxRecDepth 100000 in
set_option maxHeartbeats 4000000 in
theorem c_shortensTo {q : Int} {i : Nat} (hr : Row h r N n T) (hq : q = i) (hi : i ≤ n) : qVo l mX3_shortensTo 0 0 [.ref r, vI q] h sz (fun h' sz' => Row h' r N i T ∧ Fr h h' r (r + 2) ∧ sz' = sz) := by
  obtain ⟨f, h1, h2, h3, h4, h5⟩ := hr
  subst hq
  refine qC.of 0 (by decide) (le_b rfl) ?_
  refine qV_iload_n (pc := 0) 1 dX3_shortensTo_0 rfl rfl ?_
  refine qV_iflt (pc := 1) 17 dX3_shortensTo_1 (by decide) ⟨by omega, by omega⟩ (fun c1 => ?_) (fun c1 => ?_)
  · exfalso; omega
  · refine qV_iload_n (pc := 4) 1 dX3_shortensTo_4 rfl rfl ?_
    refine qV_aload_n (pc := 5) 0 dX3_shortensTo_5 rfl rfl ?_
    refine qV_get (pc := 6) kX3 1 (le_b rfl) lk_X3_19 rfl dX3_shortensTo_6 (by first | assumption | exact hU_self _ _ _ | (refine (hU_ne (by omega)).trans ?_; first | assumption | exact hU_self _ _ _ | (refine (hU_ne (by omega)).trans ?_; first | assumption | exact hU_self _ _ _ | (refine (hU_ne (by omega)).trans ?_; first | assumption | exact hU_self _ _ _)))) (by exact rfl) ?_
    refine qV_icmp_ge (pc := 9) 17 dX3_shortensTo_9 (by decide) ⟨by omega, by omega⟩ ⟨by omega, by omega⟩ (fun c9 => ?_) (fun c9 => ?_)
    · obtain rfl : i = n := by omega
      refine qV_vret (pc := 17) dX3_shortensTo_17 rfl (le_b rfl) (le_b rfl) ?_
      first | exact ⟨rfl, ⟨f, hU_self _ _ _, (hU_ne (by omega)).trans h2, by omega, h4, fun j hj => h5 j (by omega)⟩, Fr.hU (by omega) (by omega), rfl⟩ | exact ⟨rfl, ⟨f, h1, h2, h3, h4, h5⟩, Fr.rf, rfl⟩
    · refine qV_aload_n (pc := 12) 0 dX3_shortensTo_12 rfl rfl ?_
      refine qV_iload_n (pc := 13) 1 dX3_shortensTo_13 rfl rfl ?_
      refine qV_put (pc := 14) kX3 1 (le_b rfl) lk_X3_19 rfl rfl rfl rfl dX3_shortensTo_14 (by first | assumption | exact hU_self _ _ _ | (refine (hU_ne (by omega)).trans ?_; first | assumption | exact hU_self _ _ _ | (refine (hU_ne (by omega)).trans ?_; first | assumption | exact hU_self _ _ _ | (refine (hU_ne (by omega)).trans ?_; first | assumption | exact hU_self _ _ _)))) (by exact le_b rfl) ?_
      refine qV_vret (pc := 17) dX3_shortensTo_17 rfl (le_b rfl) (le_b rfl) ?_
      first | exact ⟨rfl, ⟨f, hU_self _ _ _, (hU_ne (by omega)).trans h2, by omega, h4, fun j hj => h5 j (by omega)⟩, Fr.hU (by omega) (by omega), rfl⟩ | exact ⟨rfl, ⟨f, h1, h2, h3, h4, h5⟩, Fr.rf, rfl⟩
set_option maxRecDepth 100000 in
set_option maxHeartbeats 4000000 in
theorem copies_loop {o No no : Nat} {To : Nat → Int} (hd : r + 2 ≤ o ∨ o + 2 ≤ r) (hN : no ≤ N) : ∀ (m i : Nat) (q : Int) (h1 : qH), no - i = m → i ≤ no → q = i → Row h1 r N i To → Row h1 o No no To → Fr h h1 r (r + 2) → qVM l mX3_copies 0 0 h sz (fun v h' sz' => v = none ∧ Row h' r N no To ∧ Fr h h' r (r + 2) ∧ sz' = sz) 0 0 h1 sz 7 [some (.ref r), some (.ref o), some (vI q)] [] := by
  intro m
  induction m with
  | zero =>
    intro i q h1 hm hi hq hr ho hf
    obtain rfl : i = no := by omega
    have := ho.le
    refine qV_iload_n (pc := 7) 2 dX3_copies_7 rfl rfl ?_
    refine qV_aload_n (pc := 8) 1 dX3_copies_8 rfl rfl ?_
    refine qV_rdV (pc := 9) (c_size ho) nX3_size kX3 lk_X3_23 dX3_copies_9 ho.obj ⟨le_b rfl, le_b rfl⟩ ⟨le_b rfl, le_b rfl⟩ rfl (le_b rfl) ?_
    refine qV_icmp_ge (pc := 12) 30 dX3_copies_12 (by decide) ⟨by omega, by omega⟩ ⟨by omega, by omega⟩ (fun c12 => ?_) (fun c12 => ?_)
    · refine qV_vret (pc := 30) dX3_copies_30 rfl (le_b rfl) (le_b rfl) ?_
      exact ⟨rfl, hr, hf, rfl⟩
    · exfalso; omega
  | succ m ih =>
    intro i q h1 hm hi hq hr ho hf
    have := ho.le
    refine qV_iload_n (pc := 7) 2 dX3_copies_7 rfl rfl ?_
    refine qV_aload_n (pc := 8) 1 dX3_copies_8 rfl rfl ?_
    refine qV_rdV (pc := 9) (c_size ho) nX3_size kX3 lk_X3_23 dX3_copies_9 ho.obj ⟨le_b rfl, le_b rfl⟩ ⟨le_b rfl, le_b rfl⟩ rfl (le_b rfl) ?_
    refine qV_icmp_ge (pc := 12) 30 dX3_copies_12 (by decide) ⟨by omega, by omega⟩ ⟨by omega, by omega⟩ (fun c12 => ?_) (fun c12 => ?_)
    · exfalso; omega
    · refine qV_aload_n (pc := 15) 0 dX3_copies_15 rfl rfl ?_
      refine qV_aload_n (pc := 16) 1 dX3_copies_16 rfl rfl ?_
      refine qV_iload_n (pc := 17) 2 dX3_copies_17 rfl rfl ?_
      refine qV_rdV (pc := 18) (c_gt ho hq (by omega)) nX3_get kX3 lk_X3_26 dX3_copies_18 ho.obj ⟨le_b rfl, le_b rfl⟩ ⟨le_b rfl, le_b rfl⟩ rfl (le_b rfl) ?_
      refine qV_voV (pc := 21) (c_add hr (by omega)) nX3_add kX3 lk_X3_30 dX3_copies_21 hr.obj ⟨le_b rfl, le_b rfl⟩ ⟨le_b rfl, le_b rfl⟩ rfl (le_b rfl) ?_
      rintro h2 _ ⟨hr2, hf2, rfl⟩
      refine qV_iinc (pc := 24) 2 dX3_copies_24 rfl (le_b rfl) (le_b rfl) rfl ?_
      refine qV_goto (pc := 27) 7 dX3_copies_27 (by decide) ?_
      exact ih (i + 1) _ h2 (by omega) (by omega) (by omega) (hr2.congr (fun j hj => by
        by_cases e : j = i
        · subst e; simp [va_up]
        · simp [va_up, e])) (ho.fr hf2 (by omega)) (hf.trans hf2)
set_option maxRecDepth 100000 in
set_option maxHeartbeats 4000000 in
theorem c_copies {o No no : Nat} {To : Nat → Int} (hr : Row h r N n T) (ho : Row h o No no To) (hd : r + 2 ≤ o ∨ o + 2 ≤ r) (hN : no ≤ N) : qVo l mX3_copies 0 0 [.ref r, .ref o] h sz (fun h' sz' => Row h' r N no To ∧ Fr h h' r (r + 2) ∧ sz' = sz) := by
  obtain ⟨f, h1, h2, h3, h4, h5⟩ := id hr
  refine qC.of 1 (by decide) (le_b rfl) ?_
  refine qV_aload_n (pc := 0) 0 dX3_copies_0 rfl rfl ?_
  refine qV_iconst (pc := 1) dX3_copies_1 ?_
  refine qV_put (pc := 2) kX3 1 (le_b rfl) lk_X3_19 rfl rfl rfl rfl dX3_copies_2 (by first | assumption | exact hU_self _ _ _ | (refine (hU_ne (by omega)).trans ?_; first | assumption | exact hU_self _ _ _ | (refine (hU_ne (by omega)).trans ?_; first | assumption | exact hU_self _ _ _ | (refine (hU_ne (by omega)).trans ?_; first | assumption | exact hU_self _ _ _)))) (by exact le_b rfl) ?_
  refine qV_iconst (pc := 5) dX3_copies_5 ?_
  refine qV_istore_n (pc := 6) 2 dX3_copies_6 rfl (le_b rfl) (le_b rfl) rfl ?_
  exact copies_loop hd hN no 0 _ _ (by omega) (by omega) rfl ⟨f, hU_self _ _ _, (hU_ne (by omega)).trans h2, by omega, h4, fun j hj => by omega⟩ (ho.fr (Fr.hU (lo := r) (hi := r + 2) (by omega) (by omega)) (by omega)) (Fr.hU (by omega) (by omega))
set_option maxRecDepth 100000 in
set_option maxHeartbeats 4000000 in
theorem opens_loop {i k : Nat} {f : Nat → Int} (hk : n + k ≤ N) (h4 : N ≤ 5000) (h5 : ∀ j, j < n → f j = T j) (hin : i ≤ n) : ∀ (m : Nat) (q : Int) (g : Nat → Int) (h1 : qH), i ≤ m → m ≤ n → q = m - 1 → h1 r = some (oB 3 [.ref (r + 1), vI n]) → h1 (r + 1) = some (iA 0 N g) → (∀ j, j < m → g j = f j) → (∀ j, m ≤ j → j < n → g (j + k) = f j) → Fr h h1 r (r + 2) → qVM l mX3_opens 0 0 h sz (fun v h' sz' => v = none ∧ (∃ T2, Row h' r N (n + k) T2 ∧ (∀ j, j < i → T2 j = T j) ∧ ∀ j, i ≤ j → j < n → T2 (j + k) = T j) ∧ Fr h h' r (r + 2) ∧ sz' = sz) 0 0 h1 sz 38 [some (.ref r), some (vI i), some (vI k), some (vI q)] [] := by
  intro m
  induction m with
  | zero =>
    intro q g h1 hm hmn hq e1 e2 g1 g2 hf
    obtain rfl : i = 0 := by omega
    refine qV_iload_n (pc := 38) 3 dX3_opens_38 rfl rfl ?_
    refine qV_iload_n (pc := 39) 1 dX3_opens_39 rfl rfl ?_
    refine qV_icmp_lt (pc := 40) 63 dX3_opens_40 (by decide) ⟨by omega, by omega⟩ ⟨by omega, by omega⟩ (fun c40 => ?_) (fun c40 => ?_)
    · refine qV_aload_n (pc := 63) 0 dX3_opens_63 rfl rfl ?_
      refine qV_dup (pc := 64) dX3_opens_64 rfl ?_
      refine qV_get (pc := 65) kX3 1 (le_b rfl) lk_X3_19 rfl dX3_opens_65 (by first | assumption | exact hU_self _ _ _ | (refine (hU_ne (by omega)).trans ?_; first | assumption | exact hU_self _ _ _ | (refine (hU_ne (by omega)).trans ?_; first | assumption | exact hU_self _ _ _ | (refine (hU_ne (by omega)).trans ?_; first | assumption | exact hU_self _ _ _)))) (by exact rfl) ?_
      refine qV_iload_n (pc := 68) 2 dX3_opens_68 rfl rfl ?_
      refine qV_iadd (pc := 69) dX3_opens_69 ?_
      refine qV_put (pc := 70) kX3 1 (le_b rfl) lk_X3_19 rfl rfl rfl rfl dX3_opens_70 (by first | assumption | exact hU_self _ _ _ | (refine (hU_ne (by omega)).trans ?_; first | assumption | exact hU_self _ _ _ | (refine (hU_ne (by omega)).trans ?_; first | assumption | exact hU_self _ _ _ | (refine (hU_ne (by omega)).trans ?_; first | assumption | exact hU_self _ _ _)))) (by exact le_b rfl) ?_
      refine qV_vret (pc := 73) dX3_opens_73 rfl (le_b rfl) (le_b rfl) ?_
      exact ⟨rfl, ⟨fun j => g j, ⟨g, hU_self _ _ _, (hU_ne (by omega)).trans e2, hk, h4, fun _ _ => rfl⟩, fun j hj => by omega, fun j _ hj => (g2 j (by omega) hj).trans (h5 j hj)⟩, hf.trans (Fr.hU (by omega) (by omega)), rfl⟩
    · exfalso; omega
  | succ m ih =>
    intro q g h1 hm hmn hq e1 e2 g1 g2 hf
    refine qV_iload_n (pc := 38) 3 dX3_opens_38 rfl rfl ?_
    refine qV_iload_n (pc := 39) 1 dX3_opens_39 rfl rfl ?_
    refine qV_icmp_lt (pc := 40) 63 dX3_opens_40 (by decide) ⟨by omega, by omega⟩ ⟨by omega, by omega⟩ (fun c40 => ?_) (fun c40 => ?_)
    · refine qV_aload_n (pc := 63) 0 dX3_opens_63 rfl rfl ?_
      refine qV_dup (pc := 64) dX3_opens_64 rfl ?_
      refine qV_get (pc := 65) kX3 1 (le_b rfl) lk_X3_19 rfl dX3_opens_65 (by first | assumption | exact hU_self _ _ _ | (refine (hU_ne (by omega)).trans ?_; first | assumption | exact hU_self _ _ _ | (refine (hU_ne (by omega)).trans ?_; first | assumption | exact hU_self _ _ _ | (refine (hU_ne (by omega)).trans ?_; first | assumption | exact hU_self _ _ _)))) (by exact rfl) ?_
      refine qV_iload_n (pc := 68) 2 dX3_opens_68 rfl rfl ?_
      refine qV_iadd (pc := 69) dX3_opens_69 ?_
      refine qV_put (pc := 70) kX3 1 (le_b rfl) lk_X3_19 rfl rfl rfl rfl dX3_opens_70 (by first | assumption | exact hU_self _ _ _ | (refine (hU_ne (by omega)).trans ?_; first | assumption | exact hU_self _ _ _ | (refine (hU_ne (by omega)).trans ?_; first | assumption | exact hU_self _ _ _ | (refine (hU_ne (by omega)).trans ?_; first | assumption | exact hU_self _ _ _)))) (by exact le_b rfl) ?_
      refine qV_vret (pc := 73) dX3_opens_73 rfl (le_b rfl) (le_b rfl) ?_
      obtain rfl : i = m + 1 := by omega
      exact ⟨rfl, ⟨fun j => g j, ⟨g, hU_self _ _ _, (hU_ne (by omega)).trans e2, hk, h4, fun _ _ => rfl⟩, fun j hj => (g1 j hj).trans (h5 j (by omega)), fun j h6 hj => (g2 j h6 hj).trans (h5 j hj)⟩, hf.trans (Fr.hU (by omega) (by omega)), rfl⟩
    · refine qV_aload_n (pc := 43) 0 dX3_opens_43 rfl rfl ?_
      refine qV_get (pc := 44) kX3 0 (le_b rfl) lk_X3_13 rfl dX3_opens_44 (by first | assumption | exact hU_self _ _ _ | (refine (hU_ne (by omega)).trans ?_; first | assumption | exact hU_self _ _ _ | (refine (hU_ne (by omega)).trans ?_; first | assumption | exact hU_self _ _ _ | (refine (hU_ne (by omega)).trans ?_; first | assumption | exact hU_self _ _ _)))) (by exact rfl) ?_
      refine qV_iload_n (pc := 47) 3 dX3_opens_47 rfl rfl ?_
      refine qV_iload_n (pc := 48) 2 dX3_opens_48 rfl rfl ?_
      refine qV_iadd (pc := 49) dX3_opens_49 ?_
      refine qV_aload_n (pc := 50) 0 dX3_opens_50 rfl rfl ?_
      refine qV_get (pc := 51) kX3 0 (le_b rfl) lk_X3_13 rfl dX3_opens_51 (by first | assumption | exact hU_self _ _ _ | (refine (hU_ne (by omega)).trans ?_; first | assumption | exact hU_self _ _ _ | (refine (hU_ne (by omega)).trans ?_; first | assumption | exact hU_self _ _ _ | (refine (hU_ne (by omega)).trans ?_; first | assumption | exact hU_self _ _ _)))) (by exact rfl) ?_
      refine qV_iload_n (pc := 54) 3 dX3_opens_54 rfl rfl ?_
      refine qV_iald (pc := 55) dX3_opens_55 (by first | assumption | exact hU_self _ _ _ | (refine (hU_ne (by omega)).trans ?_; first | assumption | exact hU_self _ _ _ | (refine (hU_ne (by omega)).trans ?_; first | assumption | exact hU_self _ _ _ | (refine (hU_ne (by omega)).trans ?_; first | assumption | exact hU_self _ _ _)))) (by omega) ?_
      refine qV_iast (pc := 56) dX3_opens_56 (by first | assumption | exact hU_self _ _ _ | (refine (hU_ne (by omega)).trans ?_; first | assumption | exact hU_self _ _ _ | (refine (hU_ne (by omega)).trans ?_; first | assumption | exact hU_self _ _ _ | (refine (hU_ne (by omega)).trans ?_; first | assumption | exact hU_self _ _ _)))) (by omega) ?_
      refine qV_iinc (pc := 57) 3 dX3_opens_57 rfl (le_b rfl) (le_b rfl) rfl ?_
      refine qV_goto (pc := 60) 38 dX3_opens_60 (by decide) ?_
      have eq1 : q.toNat = m := by omega
      have eq2 : (q + (k : Int)).toNat = m + k := by omega
      rw [eq1, eq2]
      refine ih _ _ _ (by omega) (by omega) (by omega) ((hU_ne (by omega)).trans e1) (hU_self _ _ _) (fun j hj => ?_) (fun j h6 hj => ?_) (hf.trans (Fr.hU (by omega) (by omega)))
      · rw [va_up_ne _ _ (by omega)]
        exact g1 j (by omega)
      · by_cases e : j = m
        · subst e
          rw [va_up_self]
          exact g1 j (by omega)
        · rw [va_up_ne _ _ (by omega)]
          exact g2 j (by omega) hj
set_option maxRecDepth 100000 in
set_option maxHeartbeats 4000000 in
theorem c_opens {p q : Int} {i k : Nat} (hr : Row h r N n T) (hp : p = i) (hq : q = k) (hi : i ≤ n) (hk : n + k ≤ N) : qVo l mX3_opens 0 0 [.ref r, vI p, vI q] h sz (fun h' sz' => (∃ T2, Row h' r N (n + k) T2 ∧ (∀ j, j < i → T2 j = T j) ∧ ∀ j, i ≤ j → j < n → T2 (j + k) = T j) ∧ Fr h h' r (r + 2) ∧ sz' = sz) := by
  obtain ⟨f, h1, h2, h3, h4, h5⟩ := hr
  subst hp
  subst hq
  refine qC.of 1 (by decide) (le_b rfl) ?_
  refine qV_iload_n (pc := 0) 1 dX3_opens_0 rfl rfl ?_
  refine qV_iflt (pc := 1) 30 dX3_opens_1 (by decide) ⟨by omega, by omega⟩ (fun c1 => ?_) (fun c1 => ?_)
  · exfalso; omega
  · refine qV_iload_n (pc := 4) 1 dX3_opens_4 rfl rfl ?_
    refine qV_aload_n (pc := 5) 0 dX3_opens_5 rfl rfl ?_
    refine qV_get (pc := 6) kX3 1 (le_b rfl) lk_X3_19 rfl dX3_opens_6 (by first | assumption | exact hU_self _ _ _ | (refine (hU_ne (by omega)).trans ?_; first | assumption | exact hU_self _ _ _ | (refine (hU_ne (by omega)).trans ?_; first | assumption | exact hU_self _ _ _ | (refine (hU_ne (by omega)).trans ?_; first | assumption | exact hU_self _ _ _)))) (by exact rfl) ?_
    refine qV_icmp_gt (pc := 9) 30 dX3_opens_9 (by decide) ⟨by omega, by omega⟩ ⟨by omega, by omega⟩ (fun c9 => ?_) (fun c9 => ?_)
    · exfalso; omega
    · refine qV_iload_n (pc := 12) 2 dX3_opens_12 rfl rfl ?_
      refine qV_iflt (pc := 13) 30 dX3_opens_13 (by decide) ⟨by omega, by omega⟩ (fun c13 => ?_) (fun c13 => ?_)
      · exfalso; omega
      · refine qV_iload_n (pc := 16) 2 dX3_opens_16 rfl rfl ?_
        refine qV_aload_n (pc := 17) 0 dX3_opens_17 rfl rfl ?_
        refine qV_get (pc := 18) kX3 0 (le_b rfl) lk_X3_13 rfl dX3_opens_18 (by first | assumption | exact hU_self _ _ _ | (refine (hU_ne (by omega)).trans ?_; first | assumption | exact hU_self _ _ _ | (refine (hU_ne (by omega)).trans ?_; first | assumption | exact hU_self _ _ _ | (refine (hU_ne (by omega)).trans ?_; first | assumption | exact hU_self _ _ _)))) (by exact rfl) ?_
        refine qV_alen (pc := 21) dX3_opens_21 (by first | assumption | exact hU_self _ _ _ | (refine (hU_ne (by omega)).trans ?_; first | assumption | exact hU_self _ _ _ | (refine (hU_ne (by omega)).trans ?_; first | assumption | exact hU_self _ _ _ | (refine (hU_ne (by omega)).trans ?_; first | assumption | exact hU_self _ _ _)))) ?_
        refine qV_aload_n (pc := 22) 0 dX3_opens_22 rfl rfl ?_
        refine qV_get (pc := 23) kX3 1 (le_b rfl) lk_X3_19 rfl dX3_opens_23 (by first | assumption | exact hU_self _ _ _ | (refine (hU_ne (by omega)).trans ?_; first | assumption | exact hU_self _ _ _ | (refine (hU_ne (by omega)).trans ?_; first | assumption | exact hU_self _ _ _ | (refine (hU_ne (by omega)).trans ?_; first | assumption | exact hU_self _ _ _)))) (by exact rfl) ?_
        refine qV_isub (pc := 26) dX3_opens_26 ?_
        refine qV_icmp_le (pc := 27) 31 dX3_opens_27 (by decide) ⟨by omega, by omega⟩ ⟨by omega, by omega⟩ (fun c27 => ?_) (fun c27 => ?_)
        · refine qV_aload_n (pc := 31) 0 dX3_opens_31 rfl rfl ?_
          refine qV_get (pc := 32) kX3 1 (le_b rfl) lk_X3_19 rfl dX3_opens_32 (by first | assumption | exact hU_self _ _ _ | (refine (hU_ne (by omega)).trans ?_; first | assumption | exact hU_self _ _ _ | (refine (hU_ne (by omega)).trans ?_; first | assumption | exact hU_self _ _ _ | (refine (hU_ne (by omega)).trans ?_; first | assumption | exact hU_self _ _ _)))) (by exact rfl) ?_
          refine qV_iconst (pc := 35) dX3_opens_35 ?_
          refine qV_isub (pc := 36) dX3_opens_36 ?_
          refine qV_istore_n (pc := 37) 3 dX3_opens_37 rfl (le_b rfl) (le_b rfl) rfl ?_
          exact opens_loop hk h4 h5 hi n _ f _ hi (Nat.le_refl n) rfl h1 h2 (fun _ _ => rfl) (fun j _ _ => by omega) Fr.rf
        · exfalso; omega
set_option maxRecDepth 100000 in
set_option maxHeartbeats 4000000 in
theorem closes_loop {i k : Nat} (hk : i + k ≤ n) : ∀ (m w : Nat) (q : Int) (h1 : qH), n - w = m → i + k ≤ w → w ≤ n → q = w → Row h1 r N n (fun j => if j < i then T j else if j + k < w then T (j + k) else T j) → Fr h h1 r (r + 2) → qVM l mX3_closes 0 0 h sz (fun v h' sz' => v = none ∧ Row h' r N (n - k) (fun j => if j < i then T j else T (j + k)) ∧ Fr h h' r (r + 2) ∧ sz' = sz) 0 0 h1 sz 31 [some (.ref r), some (vI i), some (vI k), some (vI q)] [] := by
  intro m
  induction m with
  | zero =>
    intro w q h1 hm hw hwn hq hr hf
    obtain rfl : w = n := by omega
    obtain ⟨f, e1, e2, e3, e4, e5⟩ := hr
    refine qV_iload_n (pc := 31) 3 dX3_closes_31 rfl rfl ?_
    refine qV_aload_n (pc := 32) 0 dX3_closes_32 rfl rfl ?_
    refine qV_get (pc := 33) kX3 1 (le_b rfl) lk_X3_19 rfl dX3_closes_33 (by first | assumption | exact hU_self _ _ _ | (refine (hU_ne (by omega)).trans ?_; first | assumption | exact hU_self _ _ _ | (refine (hU_ne (by omega)).trans ?_; first | assumption | exact hU_self _ _ _ | (refine (hU_ne (by omega)).trans ?_; first | assumption | exact hU_self _ _ _)))) (by exact rfl) ?_
    refine qV_icmp_ge (pc := 36) 57 dX3_closes_36 (by decide) ⟨by omega, by omega⟩ ⟨by omega, by omega⟩ (fun c36 => ?_) (fun c36 => ?_)
    · refine qV_aload_n (pc := 57) 0 dX3_closes_57 rfl rfl ?_
      refine qV_dup (pc := 58) dX3_closes_58 rfl ?_
      refine qV_get (pc := 59) kX3 1 (le_b rfl) lk_X3_19 rfl dX3_closes_59 (by first | assumption | exact hU_self _ _ _ | (refine (hU_ne (by omega)).trans ?_; first | assumption | exact hU_self _ _ _ | (refine (hU_ne (by omega)).trans ?_; first | assumption | exact hU_self _ _ _ | (refine (hU_ne (by omega)).trans ?_; first | assumption | exact hU_self _ _ _)))) (by exact rfl) ?_
      refine qV_iload_n (pc := 62) 2 dX3_closes_62 rfl rfl ?_
      refine qV_isub (pc := 63) dX3_closes_63 ?_
      refine qV_put (pc := 64) kX3 1 (le_b rfl) lk_X3_19 rfl rfl rfl rfl dX3_closes_64 (by first | assumption | exact hU_self _ _ _ | (refine (hU_ne (by omega)).trans ?_; first | assumption | exact hU_self _ _ _ | (refine (hU_ne (by omega)).trans ?_; first | assumption | exact hU_self _ _ _ | (refine (hU_ne (by omega)).trans ?_; first | assumption | exact hU_self _ _ _)))) (by exact le_b rfl) ?_
      refine qV_vret (pc := 67) dX3_closes_67 rfl (le_b rfl) (le_b rfl) ?_
      exact ⟨rfl, ⟨f, by
        rw [hU_self]
        show some (oB 3 [.ref (r + 1), vI ((w : Int) - (k : Int))]) = _
        rw [show (w : Int) - (k : Int) = ((w - k : Nat) : Int) by omega], (hU_ne (by omega)).trans e2, by omega, e4, fun j hj => (e5 j (by omega)).trans (by try simp only []; rw [if_pos (show j + k < w by omega)])⟩, hf.trans (Fr.hU (by omega) (by omega)), rfl⟩
    · exfalso; omega
  | succ m ih =>
    intro w q h1 hm hw hwn hq hr hf
    have := hr.le
    have hob := hr.obj
    refine qV_iload_n (pc := 31) 3 dX3_closes_31 rfl rfl ?_
    refine qV_aload_n (pc := 32) 0 dX3_closes_32 rfl rfl ?_
    refine qV_get (pc := 33) kX3 1 (le_b rfl) lk_X3_19 rfl dX3_closes_33 (by first | assumption | exact hU_self _ _ _ | (refine (hU_ne (by omega)).trans ?_; first | assumption | exact hU_self _ _ _ | (refine (hU_ne (by omega)).trans ?_; first | assumption | exact hU_self _ _ _ | (refine (hU_ne (by omega)).trans ?_; first | assumption | exact hU_self _ _ _)))) (by exact rfl) ?_
    refine qV_icmp_ge (pc := 36) 57 dX3_closes_36 (by decide) ⟨by omega, by omega⟩ ⟨by omega, by omega⟩ (fun c36 => ?_) (fun c36 => ?_)
    · exfalso; omega
    · refine qV_aload_n (pc := 39) 0 dX3_closes_39 rfl rfl ?_
      refine qV_iload_n (pc := 40) 3 dX3_closes_40 rfl rfl ?_
      refine qV_iload_n (pc := 41) 2 dX3_closes_41 rfl rfl ?_
      refine qV_isub (pc := 42) dX3_closes_42 ?_
      refine qV_aload_n (pc := 43) 0 dX3_closes_43 rfl rfl ?_
      refine qV_iload_n (pc := 44) 3 dX3_closes_44 rfl rfl ?_
      refine qV_rdV (pc := 45) (c_gt hr hq (by omega)) nX3_get kX3 lk_X3_26 dX3_closes_45 (by first | assumption | exact hU_self _ _ _ | (refine (hU_ne (by omega)).trans ?_; first | assumption | exact hU_self _ _ _ | (refine (hU_ne (by omega)).trans ?_; first | assumption | exact hU_self _ _ _ | (refine (hU_ne (by omega)).trans ?_; first | assumption | exact hU_self _ _ _)))) ⟨le_b rfl, le_b rfl⟩ ⟨le_b rfl, le_b rfl⟩ rfl (le_b rfl) ?_
      refine qV_voV (pc := 48) (c_set (i := w - k) hr (by omega) (by omega)) nX3_set kX3 lk_X3_34 dX3_closes_48 (by first | assumption | exact hU_self _ _ _ | (refine (hU_ne (by omega)).trans ?_; first | assumption | exact hU_self _ _ _ | (refine (hU_ne (by omega)).trans ?_; first | assumption | exact hU_self _ _ _ | (refine (hU_ne (by omega)).trans ?_; first | assumption | exact hU_self _ _ _)))) ⟨le_b rfl, le_b rfl⟩ ⟨le_b rfl, le_b rfl⟩ rfl (le_b rfl) ?_
      rintro h2 _ ⟨hr2, hf2, rfl⟩
      refine qV_iinc (pc := 51) 3 dX3_closes_51 rfl (le_b rfl) (le_b rfl) rfl ?_
      refine qV_goto (pc := 54) 31 dX3_closes_54 (by decide) ?_
      refine ih (w + 1) _ h2 (by omega) (by omega) (by omega) (by omega) (hr2.congr (fun j hj => ?_)) (hf.trans hf2)
      by_cases e : j = w - k
      · subst e
        rw [va_up_self]
        try simp only []
        rw [if_neg (by omega), if_neg (by omega), if_neg (by omega), if_pos (by omega)]
        congr 1
        omega
      · rw [va_up_ne _ _ e]
        try simp only []
        by_cases e2 : j < i
        · rw [if_pos e2, if_pos e2]
        · rw [if_neg e2, if_neg e2]
          by_cases e3 : j + k < w
          · rw [if_pos e3, if_pos (by omega)]
          · rw [if_neg e3, if_neg (by omega)]
set_option maxRecDepth 100000 in
set_option maxHeartbeats 4000000 in
theorem c_closes {p q : Int} {i k : Nat} (hr : Row h r N n T) (hp : p = i) (hq : q = k) (hk : i + k ≤ n) : qVo l mX3_closes 0 0 [.ref r, vI p, vI q] h sz (fun h' sz' => Row h' r N (n - k) (fun j => if j < i then T j else T (j + k)) ∧ Fr h h' r (r + 2) ∧ sz' = sz) := by
  have hr0 := hr
  obtain ⟨f, h1, h2, h3, h4, h5⟩ := hr
  subst hp
  subst hq
  refine qC.of 1 (by decide) (le_b rfl) ?_
  refine qV_iload_n (pc := 0) 1 dX3_closes_0 rfl rfl ?_
  refine qV_iflt (pc := 1) 26 dX3_closes_1 (by decide) ⟨by omega, by omega⟩ (fun c1 => ?_) (fun c1 => ?_)
  · exfalso; omega
  · refine qV_iload_n (pc := 4) 1 dX3_closes_4 rfl rfl ?_
    refine qV_aload_n (pc := 5) 0 dX3_closes_5 rfl rfl ?_
    refine qV_get (pc := 6) kX3 1 (le_b rfl) lk_X3_19 rfl dX3_closes_6 (by first | assumption | exact hU_self _ _ _ | (refine (hU_ne (by omega)).trans ?_; first | assumption | exact hU_self _ _ _ | (refine (hU_ne (by omega)).trans ?_; first | assumption | exact hU_self _ _ _ | (refine (hU_ne (by omega)).trans ?_; first | assumption | exact hU_self _ _ _)))) (by exact rfl) ?_
    refine qV_icmp_gt (pc := 9) 26 dX3_closes_9 (by decide) ⟨by omega, by omega⟩ ⟨by omega, by omega⟩ (fun c9 => ?_) (fun c9 => ?_)
    · exfalso; omega
    · refine qV_iload_n (pc := 12) 2 dX3_closes_12 rfl rfl ?_
      refine qV_iflt (pc := 13) 26 dX3_closes_13 (by decide) ⟨by omega, by omega⟩ (fun c13 => ?_) (fun c13 => ?_)
      · exfalso; omega
      · refine qV_iload_n (pc := 16) 2 dX3_closes_16 rfl rfl ?_
        refine qV_aload_n (pc := 17) 0 dX3_closes_17 rfl rfl ?_
        refine qV_get (pc := 18) kX3 1 (le_b rfl) lk_X3_19 rfl dX3_closes_18 (by first | assumption | exact hU_self _ _ _ | (refine (hU_ne (by omega)).trans ?_; first | assumption | exact hU_self _ _ _ | (refine (hU_ne (by omega)).trans ?_; first | assumption | exact hU_self _ _ _ | (refine (hU_ne (by omega)).trans ?_; first | assumption | exact hU_self _ _ _)))) (by exact rfl) ?_
        refine qV_iload_n (pc := 21) 1 dX3_closes_21 rfl rfl ?_
        refine qV_isub (pc := 22) dX3_closes_22 ?_
        refine qV_icmp_le (pc := 23) 27 dX3_closes_23 (by decide) ⟨by omega, by omega⟩ ⟨by omega, by omega⟩ (fun c23 => ?_) (fun c23 => ?_)
        · refine qV_iload_n (pc := 27) 1 dX3_closes_27 rfl rfl ?_
          refine qV_iload_n (pc := 28) 2 dX3_closes_28 rfl rfl ?_
          refine qV_iadd (pc := 29) dX3_closes_29 ?_
          refine qV_istore_n (pc := 30) 3 dX3_closes_30 rfl (le_b rfl) (le_b rfl) rfl ?_
          refine closes_loop hk (n - (i + k)) (i + k) _ _ (by omega) (by omega) (by omega) (by omega) (hr0.congr (fun j hj => ?_)) Fr.rf
          by_cases e2 : j < i
          · simp [e2]
          · simp [e2]
        · exfalso; omega
set_option maxRecDepth 100000 in
set_option maxHeartbeats 4000000 in
theorem mixed_loop {z : Int} (hr : Row h r N n T) (hT : ∀ j, j < n → iR (T j)) : ∀ (m i : Nat) (q : Int), n - i = m → i ≤ n → q = i → qVM l mX3_mixedInto 0 0 h sz (fun v h' sz' => v = some (vL (mix z T n)) ∧ h' = h ∧ sz' = sz) 0 0 h sz 2 [some (.ref r), some (vL (mix z T i)), none, some (vI q)] [] := by
  have hle := hr.le
  have hob := hr.obj
  intro m
  induction m with
  | zero =>
    intro i q hm hi hq
    obtain rfl : i = n := by omega
    refine qV_iload_n (pc := 2) 3 dX3_mixedInto_2 rfl rfl ?_
    refine qV_aload_n (pc := 3) 0 dX3_mixedInto_3 rfl rfl ?_
    refine qV_get (pc := 4) kX3 1 (le_b rfl) lk_X3_19 rfl dX3_mixedInto_4 (by first | assumption | exact hU_self _ _ _ | (refine (hU_ne (by omega)).trans ?_; first | assumption | exact hU_self _ _ _ | (refine (hU_ne (by omega)).trans ?_; first | assumption | exact hU_self _ _ _ | (refine (hU_ne (by omega)).trans ?_; first | assumption | exact hU_self _ _ _)))) (by exact rfl) ?_
    refine qV_icmp_ge (pc := 7) 29 dX3_mixedInto_7 (by decide) ⟨by omega, by omega⟩ ⟨by omega, by omega⟩ (fun c7 => ?_) (fun c7 => ?_)
    · refine qV_lload_n (pc := 29) 1 dX3_mixedInto_29 rfl rfl ?_
      refine qV_lret (pc := 30) dX3_mixedInto_30 rfl (le_b rfl) (le_b rfl) ?_
      exact ⟨rfl, rfl, rfl⟩
    · exfalso; omega
  | succ m ih =>
    intro i q hm hi hq
    refine qV_iload_n (pc := 2) 3 dX3_mixedInto_2 rfl rfl ?_
    refine qV_aload_n (pc := 3) 0 dX3_mixedInto_3 rfl rfl ?_
    refine qV_get (pc := 4) kX3 1 (le_b rfl) lk_X3_19 rfl dX3_mixedInto_4 (by first | assumption | exact hU_self _ _ _ | (refine (hU_ne (by omega)).trans ?_; first | assumption | exact hU_self _ _ _ | (refine (hU_ne (by omega)).trans ?_; first | assumption | exact hU_self _ _ _ | (refine (hU_ne (by omega)).trans ?_; first | assumption | exact hU_self _ _ _)))) (by exact rfl) ?_
    refine qV_icmp_ge (pc := 7) 29 dX3_mixedInto_7 (by decide) ⟨by omega, by omega⟩ ⟨by omega, by omega⟩ (fun c7 => ?_) (fun c7 => ?_)
    · exfalso; omega
    · refine qV_ldc2 (pc := 10) 31 (by decide) dX3_mixedInto_10 lk_X3_38 ?_
      refine qV_lload_n (pc := 13) 1 dX3_mixedInto_13 rfl rfl ?_
      refine qV_lmul (pc := 14) dX3_mixedInto_14 ?_
      refine qV_aload_n (pc := 15) 0 dX3_mixedInto_15 rfl rfl ?_
      refine qV_iload_n (pc := 16) 3 dX3_mixedInto_16 rfl rfl ?_
      refine qV_rdV (pc := 17) (c_gt hr hq (by omega)) nX3_get kX3 lk_X3_26 dX3_mixedInto_17 (by first | assumption | exact hU_self _ _ _ | (refine (hU_ne (by omega)).trans ?_; first | assumption | exact hU_self _ _ _ | (refine (hU_ne (by omega)).trans ?_; first | assumption | exact hU_self _ _ _ | (refine (hU_ne (by omega)).trans ?_; first | assumption | exact hU_self _ _ _)))) ⟨le_b rfl, le_b rfl⟩ ⟨le_b rfl, le_b rfl⟩ rfl (le_b rfl) ?_
      refine qV_i2l (pc := 20) dX3_mixedInto_20 (hT i (by omega)) ?_
      refine qV_ladd (pc := 21) dX3_mixedInto_21 ?_
      refine qV_lstore_n (pc := 22) 1 dX3_mixedInto_22 rfl (le_b rfl) (le_b rfl) rfl ?_
      refine qV_iinc (pc := 23) 3 dX3_mixedInto_23 rfl (le_b rfl) (le_b rfl) rfl ?_
      refine qV_goto (pc := 26) 2 dX3_mixedInto_26 (by decide) ?_
      exact ih (i + 1) _ (by omega) (by omega) (by omega)
set_option maxRecDepth 100000 in
set_option maxHeartbeats 4000000 in
theorem c_mixedInto {z : Int} (hr : Row h r N n T) (hT : ∀ j, j < n → iR (T j)) : qRd l mX3_mixedInto [.ref r, vL z] h sz (vL (mix z T n)) := by
  refine qC.of 1 (by decide) (le_b rfl) ?_
  refine qV_iconst (pc := 0) dX3_mixedInto_0 ?_
  refine qV_istore_n (pc := 1) 3 dX3_mixedInto_1 rfl (le_b rfl) (le_b rfl) rfl ?_
  exact mixed_loop hr hT n 0 _ (by omega) (by omega) rfl
set_option maxRecDepth 100000 in
set_option maxHeartbeats 4000000 in
theorem c_Row_init {q : Int} (T2 : Nat → Int) (hq : q = N) (hN : N ≤ 5000) (h1 : h r = some (oB 3 [.null, vI 0])) (hs : sz = r + 1) : qVo l mX3_init 1 N [.ref r, vI q] h sz (fun h' sz' => Row h' r N 0 T2 ∧ Fr h h' r (r + 2) ∧ sz' = r + 2) := by
  subst hs
  refine qC.of 0 (by decide) (le_b rfl) ?_
  refine qV_aload_n (pc := 0) 0 dX3_init_0 rfl rfl ?_
  refine qV_objinit (pc := 1) lk_X3_1 dX3_init_1 (le_b rfl) (le_b rfl) ?_
  refine qV_aload_n (pc := 4) 0 dX3_init_4 rfl rfl ?_
  refine qV_iload_n (pc := 5) 1 dX3_init_5 rfl rfl ?_
  refine qV_iconst (pc := 6) dX3_init_6 ?_
  refine qV_max (pc := 7) lk_X3_7 dX3_init_7 ⟨by omega, by omega⟩ ⟨by omega, by omega⟩ (le_b rfl) ⟨le_b rfl, Nat.zero_le _⟩ (le_b rfl) ?_
  rw [show max q 0 = (N : Int) by omega]
  refine qV_newi (pc := 10) (kd := 0) (at0 := .int) rfl rfl wa_int (fun s cA h => h) dX3_init_10 (by omega) (le_b rfl) (le_b rfl) (by show 0 + N ≤ N; omega) ?_
  refine qV_putF (pc := 12) kX3 0 (le_b rfl) lk_X3_13 rfl rfl rfl rfl rfl rfl dX3_init_12 (by first | assumption | exact hU_self _ _ _ | (refine (hU_ne (by omega)).trans ?_; first | assumption | exact hU_self _ _ _ | (refine (hU_ne (by omega)).trans ?_; first | assumption | exact hU_self _ _ _ | (refine (hU_ne (by omega)).trans ?_; first | assumption | exact hU_self _ _ _)))) (by exact le_b rfl) ?_
  refine qV_vret (pc := 15) dX3_init_15 rfl (le_b rfl) (by show 0 + N ≤ N; omega) ?_
  exact ⟨rfl, ⟨fun _ => 0, hU_self _ _ _, (hU_ne (by omega)).trans (hU_self _ _ _), by omega, hN, fun j hj => by omega⟩, (Fr.hU (lo := r) (hi := r + 2) (by omega) (by omega)).trans (Fr.hU (by omega) (by omega)), rfl⟩
end ROW
