/-! ===== lines ===== -/
def nl (T : Nat → Int) : Nat → Nat
  | 0 => 0
  | j + 1 => if T j = 10 then nl T j + 1 else nl T j
def lbN (T : Nat → Int) : Nat → (Nat → Nat)
  | 0 => fun _ => 0
  | j + 1 => if T j = 10 then va_up (lbN T j) (nl T j + 1) (j + 1) else lbN T j
theorem nl_meas (T : Nat → Int) : ∀ j, measM T 2 j = nl T j
  | 0 => rfl
  | j + 1 => by
    simp only [measM, nl]
    rw [nl_meas T j]
    by_cases e : T j = 10
    · rw [if_pos e]; simp [hasM, e]
    · rw [if_neg e]; simp [hasM, e]
theorem nl_mono (T : Nat → Int) {a : Nat} : ∀ {b : Nat}, a ≤ b → nl T a ≤ nl T b
  | 0, h => by have : a = 0 := by omega
               subst this; exact Nat.le_refl _
  | b + 1, h => by
    by_cases e : a = b + 1
    · subst e; exact Nat.le_refl _
    · have := nl_mono T (a := a) (b := b) (by omega)
      simp only [nl]; split <;> omega
theorem nl_le (T : Nat → Int) : ∀ j, nl T j ≤ j
  | 0 => Nat.le_refl 0
  | j + 1 => by have := nl_le T j; simp only [nl]; split <;> omega
theorem nl_succ (T : Nat → Int) (j : Nat) : nl T (j + 1) ≤ nl T j + 1 := by simp only [nl]; split <;> omega
theorem lb_spec (T : Nat → Int) : ∀ {j k : Nat}, k ≤ nl T j → lbN T j k ≤ j ∧ nl T (lbN T j k) = k ∧ ∀ p, p < lbN T j k → nl T p < k
  | 0, k, h => by
    simp only [nl] at h
    obtain rfl : k = 0 := by omega
    exact ⟨Nat.le_refl 0, rfl, fun p hp => by simp [lbN] at hp⟩
  | j + 1, k, h => by
    by_cases e : T j = 10
    · simp only [nl, if_pos e] at h
      simp only [lbN, if_pos e]
      by_cases e2 : k = nl T j + 1
      · subst e2
        rw [va_up_self]
        refine ⟨Nat.le_refl _, by simp only [nl, if_pos e], fun p hp => ?_⟩
        have := nl_mono T (a := p) (b := j) (by omega)
        omega
      · rw [va_up_ne _ _ e2]
        obtain ⟨h1, h2, h3⟩ := lb_spec T (j := j) (k := k) (by omega)
        exact ⟨by omega, h2, h3⟩
    · simp only [nl, if_neg e] at h
      simp only [lbN, if_neg e]
      obtain ⟨h1, h2, h3⟩ := lb_spec T (j := j) (k := k) h
      exact ⟨by omega, h2, h3⟩
theorem lb_0 (T : Nat → Int) (j : Nat) : lbN T j 0 = 0 := by
  have h := (lb_spec T (j := j) (k := 0) (Nat.zero_le _)).2.2
  cases e : lbN T j 0 with
  | zero => rfl
  | succ m => rw [e] at h; exact absurd (h 0 (by omega)) (by omega)
/-- the least place with so many ends ahead -/
theorem lb_un {T : Nat → Int} {n k p : Nat} (hk : k ≤ nl T n) (h1 : k ≤ nl T p) (h2 : ∀ q, q < p → nl T q < k) : lbN T n k = p := by
  obtain ⟨a1, a2, a3⟩ := lb_spec T hk
  rcases Nat.lt_trichotomy (lbN T n k) p with h | h | h
  · have := h2 _ h; omega
  · exact h
  · have := a3 _ h; omega
theorem lb_lt {T : Nat → Int} {n k : Nat} (hk : k < nl T n) : lbN T n k < lbN T n (k + 1) := by
  obtain ⟨a1, a2, a3⟩ := lb_spec T (j := n) (k := k) (by omega)
  obtain ⟨b1, b2, b3⟩ := lb_spec T (j := n) (k := k + 1) (by omega)
  rcases Nat.lt_or_ge (lbN T n k) (lbN T n (k + 1)) with h | h
  · exact h
  · have := nl_mono T h; omega
def lnE (T : Nat → Int) (n k : Nat) : Nat := if k < nl T n then lbN T n (k + 1) - 1 else n
theorem lnE_in {T : Nat → Int} {n k : Nat} (hk : k ≤ nl T n) : lbN T n k ≤ lnE T n k ∧ lnE T n k ≤ n := by
  obtain ⟨a1, a2, a3⟩ := lb_spec T (j := n) (k := k) hk
  simp only [lnE]
  by_cases e : k < nl T n
  · rw [if_pos e]
    have := lb_lt e
    have := (lb_spec T (j := n) (k := k + 1) (by omega)).1
    omega
  · rw [if_neg e]; omega
def lnW (T : Nat → Int) (n k : Nat) : Int := measM T 3 (lnE T n k) - measM T 3 (lbN T n k)
theorem lnW_in {T : Nat → Int} {n k : Nat} (hk : k ≤ nl T n) : 0 ≤ lnW T n k ∧ lnW T n k ≤ 2 * n := by
  have h := lnE_in (T := T) hk
  have := measM_mono T 3 h.1
  have := measM_in T 3 (lnE T n k)
  have := measM_in T 3 (lbN T n k)
  simp only [lnW]
  omega
/-- the place ahead of the first letter with which there are more -/
def far (T : Nat → Int) (w a : Nat) (v : Int) : Nat → Nat → Nat
  | 0, p => p
  | d + 1, p => if measM T w (p + 1) - measM T w a ≤ v then far T w a v d (p + 1) else p
theorem far_in (T : Nat → Int) (w a : Nat) (v : Int) : ∀ d p, p ≤ far T w a v d p ∧ far T w a v d p ≤ p + d
  | 0, p => by simp [far]
  | d + 1, p => by
    have := far_in T w a v d (p + 1)
    simp only [far]
    split <;> omega
theorem far_0 (T : Nat → Int) (v : Nat) : ∀ d p, p ≤ v → v ≤ p + d → far T 0 0 v d p = v
  | 0, p, h1, h2 => by simp only [far]; omega
  | d + 1, p, h1, h2 => by
    simp only [far]
    rw [measM_0, measM_0]
    by_cases e : p + 1 ≤ v
    · rw [if_pos (by omega)]; exact far_0 T v d (p + 1) e (by omega)
    · rw [if_neg (by omega)]; omega
/-! lines by width -/
abbrev wB (w : Nat → Int) (a b : Nat) : Prop := w b < w a ∨ (w a = w b ∧ a < b)
def srt (w : Nat → Int) (L : Nat) (xs : List Nat) : Prop := xs.Perm (List.range L) ∧ xs.Pairwise (wB w)
theorem srt.len {w : Nat → Int} {L : Nat} {xs : List Nat} (h : srt w L xs) : xs.length = L := by rw [h.1.length_eq, List.length_range]
theorem srt.lt {w : Nat → Int} {L : Nat} {xs : List Nat} (h : srt w L xs) {j : Nat} (hj : j < L) : xs.getD j 0 < L := by
  have hl := h.len
  have e : xs.getD j 0 = xs[j]'(by omega) := by simp [List.getD, hl, hj]
  rw [e]
  exact List.mem_range.mp (h.1.mem_iff.mp (List.getElem_mem _))
theorem srt_ins {w : Nat → Int} {L k : Nat} {xs : List Nat} (h : srt w L xs) (hk : k ≤ L) (h1 : ∀ j, k ≤ j → j < L → w (xs.getD j 0) < w L) (h2 : ∀ j, j < k → w L ≤ w (xs.getD j 0)) (hs : k = 0 ∨ w L ≤ w (xs.getD (k - 1) 0)) : srt w (L + 1) (xs.take k ++ L :: xs.drop k) := by
  have hl := h.len
  have hm : ∀ a ∈ xs, a < L := fun a ha => List.mem_range.mp (h.1.mem_iff.mp ha)
  constructor
  · refine List.perm_middle.trans ?_
    rw [List.take_append_drop, List.range_succ]
    exact (h.1.cons L).trans (List.perm_append_singleton L (List.range L)).symm
  · have hp := h.2
    rw [← List.take_append_drop k xs] at hp
    obtain ⟨p1, p2, p3⟩ := List.pairwise_append.mp hp
    refine List.pairwise_append.mpr ⟨p1, List.pairwise_cons.mpr ⟨fun b hb => ?_, p2⟩, fun a ha b hb => ?_⟩
    · obtain ⟨i, hi, e⟩ := List.getElem_of_mem hb
      rw [List.getElem_drop] at e
      left
      have := h1 (k + i) (by omega) (by rw [List.length_drop] at hi; omega)
      rw [show xs.getD (k + i) 0 = b by rw [← e]; simp [List.getD]; rw [List.getElem?_eq_getElem (by rw [List.length_drop] at hi; omega)]; rfl] at this
      exact this
    · rcases List.mem_cons.mp hb with rfl | hb
      · obtain ⟨i, hi, e⟩ := List.getElem_of_mem ha
        rw [List.length_take] at hi
        rw [List.getElem_take] at e
        have h3 := h2 i (by omega)
        rw [show xs.getD i 0 = a by rw [← e]; simp [List.getD]; rw [List.getElem?_eq_getElem (by omega)]; rfl] at h3
        have h4 := hm a (List.mem_of_mem_take ha)
        by_cases e2 : w b < w a
        · exact Or.inl e2
        · exact Or.inr ⟨by omega, h4⟩
      · exact p3 a ha b hb
theorem ins_at {xs : List Nat} {k v : Nat} (hk : k ≤ xs.length) (j : Nat) : (xs.take k ++ v :: xs.drop k).getD j 0 = if j < k then xs.getD j 0 else if j = k then v else xs.getD (j - 1) 0 := by
  simp only [List.getD]
  by_cases e : j < k
  · rw [if_pos e, List.getElem?_append_left (by rw [List.length_take]; omega), List.getElem?_take_of_lt e]
  · rw [if_neg e, List.getElem?_append_right (by rw [List.length_take]; omega), List.length_take, show min k xs.length = k by omega]
    by_cases e2 : j = k
    · subst e2; rw [if_pos rfl]; simp
    · rw [if_neg e2]
      obtain ⟨d, hd⟩ : ∃ d, j = k + 1 + d := ⟨j - (k + 1), by omega⟩
      subst hd
      rw [show k + 1 + d - k = d + 1 by omega, List.getElem?_cons_succ, List.getElem?_drop, show k + 1 + d - 1 = k + d by omega]
theorem srt_rank {w : Nat → Int} {L k : Nat} {xs : List Nat} (h : srt w L xs) (hk : k < L) : (List.range L).countP (fun o => decide (wB w o (xs.getD k 0))) = k := by
  have hl := h.len
  rw [← h.1.countP_eq]
  have e0 : xs.getD k 0 = xs[k]'(by omega) := by simp [List.getD, hl, hk]
  rw [e0]
  have hsplit : xs = xs.take k ++ xs[k]'(by omega) :: xs.drop (k + 1) := by
    rw [List.getElem_cons_drop, List.take_append_drop]
  have hp := h.2
  generalize hv : xs[k]'(by omega) = v at hsplit ⊢
  rw [hsplit] at hp
  obtain ⟨p1, p2, p3⟩ := List.pairwise_append.mp hp
  obtain ⟨p4, p5⟩ := List.pairwise_cons.mp p2
  rw [hsplit, List.countP_append, List.countP_cons]
  have a1 : List.countP (fun o => decide (wB w o v)) (xs.take k) = k := by
    have : List.countP (fun o => decide (wB w o v)) (xs.take k) = (xs.take k).length := List.countP_eq_length.mpr (fun a ha => decide_eq_true (p3 a ha v List.mem_cons_self))
    rw [this, List.length_take]; omega
  have a2 : List.countP (fun o => decide (wB w o v)) (xs.drop (k + 1)) = 0 := List.countP_eq_zero.mpr (fun a ha => by
    have := p4 a ha
    simp only [decide_eq_true_eq]
    omega)
  rw [a1, a2]
  have : decide (wB w v v) = false := decide_eq_false (by omega)
  rw [this]
  simp
theorem srt_un {w : Nat → Int} {L k a : Nat} {xs : List Nat} (h : srt w L xs) (ha : a < L) (hr : (List.range L).countP (fun o => decide (wB w o a)) = k) : xs.getD k 0 = a := by
  have hl := h.len
  have hm : a ∈ xs := h.1.mem_iff.mpr (List.mem_range.mpr ha)
  obtain ⟨i, hi, e⟩ := List.getElem_of_mem hm
  have e1 : xs.getD i 0 = a := by rw [← e]; simp [List.getD]; rw [List.getElem?_eq_getElem hi]; rfl
  have := srt_rank h (k := i) (by omega)
  rw [e1, hr] at this
  rw [this]; exact e1
theorem srt_max {w : Nat → Int} {L : Nat} {xs : List Nat} (h : srt w L xs) (hL : 0 < L) : ∀ a, a < L → w a ≤ w (xs.getD 0 0) := by
  intro a ha
  have hl := h.len
  have hm : a ∈ xs := h.1.mem_iff.mpr (List.mem_range.mpr ha)
  match xs, h, hl, hm with
  | x :: ys, h, hl, hm =>
    simp only [List.getD, List.getElem?_cons_zero, Option.getD_some]
    rcases List.mem_cons.mp hm with rfl | hm
    · exact Int.le_refl _
    · have := (List.pairwise_cons.mp h.2).1 a hm
      omega
theorem srt_ge {w : Nat → Int} {L : Nat} {xs : List Nat} (h : srt w L xs) {i j : Nat} (hij : i ≤ j) (hj : j < L) : w (xs.getD j 0) ≤ w (xs.getD i 0) := by
  have hl := h.len
  by_cases e : i = j
  · subst e; exact Int.le_refl _
  · have e1 : xs.getD i 0 = xs[i]'(by omega) := by simp [List.getD]; rw [List.getElem?_eq_getElem (by omega)]; rfl
    have e2 : xs.getD j 0 = xs[j]'(by omega) := by simp [List.getD]; rw [List.getElem?_eq_getElem (by omega)]; rfl
    have := List.pairwise_iff_getElem.mp h.2 i j (by omega) (by omega) (by omega)
    rw [e1, e2]
    omega
theorem srt_ins2 {w : Nat → Int} {L k : Nat} {xs : List Nat} (h : srt w L xs) (hk : k ≤ L) (h1 : ∀ j, k ≤ j → j < L → w (xs.getD j 0) < w L) (hs : k = 0 ∨ w L ≤ w (xs.getD (k - 1) 0)) : srt w (L + 1) (xs.take k ++ L :: xs.drop k) :=
  srt_ins h hk h1 (fun j hj => by
    rcases hs with e | e
    · omega
    · exact Int.le_trans e (srt_ge h (i := j) (j := k - 1) (by omega) (by omega))) hs
