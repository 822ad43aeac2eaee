/-! ===== edits that wait ===== -/
abbrev ED : Type := Nat × Nat × Nat × (Nat → Int)
abbrev mts (E : ED) (x k : Int) : Prop := (E.1 : Int) ≤ x + k ∧ x ≤ (E.1 : Int) + (E.2.1 : Int)
def tch (S : Nat → ED) (x k : Int) : Nat → Bool
  | 0 => false
  | i + 1 => tch S x k i || decide (mts (S i) x k)
theorem tch_iff (S : Nat → ED) (x k : Int) : ∀ z, tch S x k z = true ↔ ∃ i, i < z ∧ mts (S i) x k
  | 0 => by simp [tch]
  | z + 1 => by
    simp only [tch, Bool.or_eq_true, decide_eq_true_eq]
    rw [tch_iff S x k z]
    constructor
    · rintro (⟨i, h1, h2⟩ | h)
      · exact ⟨i, by omega, h2⟩
      · exact ⟨z, by omega, h⟩
    · rintro ⟨i, h1, h2⟩
      by_cases e : i = z
      · subst e; exact Or.inr h2
      · exact Or.inl ⟨i, by omega, h2⟩
def grw (S : Nat → ED) : Nat → Int
  | 0 => 0
  | i + 1 => grw S i + (((S i).2.2.1 : Int) - ((S i).2.1 : Int))
def pos (S : Nat → ED) (x : Int) : Nat → Nat
  | 0 => 0
  | i + 1 => if x < ((S i).1 : Int) then pos S x i else i + 1
theorem pos_le (S : Nat → ED) (x : Int) : ∀ z, pos S x z ≤ z
  | 0 => Nat.le_refl 0
  | z + 1 => by have := pos_le S x z; simp only [pos]; split <;> omega
theorem pos_hi (S : Nat → ED) (x : Int) : ∀ z j, pos S x z ≤ j → j < z → x < ((S j).1 : Int)
  | 0, j, _, h => by omega
  | z + 1, j, h1, h2 => by
    simp only [pos] at h1
    by_cases e : x < ((S z).1 : Int)
    · rw [if_pos e] at h1
      by_cases e2 : j = z
      · subst e2; exact e
      · exact pos_hi S x z j h1 (by omega)
    · rw [if_neg e] at h1; omega
theorem pos_lo (S : Nat → ED) (x : Int) : ∀ z, pos S x z = 0 ∨ ((S (pos S x z - 1)).1 : Int) ≤ x
  | 0 => Or.inl rfl
  | z + 1 => by
    simp only [pos]
    by_cases e : x < ((S z).1 : Int)
    · rw [if_pos e]; exact pos_lo S x z
    · rw [if_neg e]; right; rw [show z + 1 - 1 = z by omega]; omega
def insS (S : Nat → ED) (p : Nat) (E : ED) : Nat → ED := fun j => if j < p then S j else if j = p then E else S (j - 1)
def doA (S : Nat → ED) : Nat → PG → PG
  | 0, P => P
  | i + 1, P => doA S i (edP P (S i).1 (S i).2.1 (S i).2.2.1 (S i).2.2.2)
def okS (S : Nat → ED) (z n : Nat) : Prop := (∀ i, i < z → (S i).2.2.1 ≤ 24 ∧ ∀ j, j < (S i).2.2.1 → 0 ≤ (S i).2.2.2 j ∧ (S i).2.2.2 j ≤ 255) ∧ (∀ i j, i < j → j < z → (S i).1 + (S i).2.1 < (S j).1) ∧ ∀ i, i < z → (S i).1 + (S i).2.1 ≤ n
theorem okS.ins {S : Nat → ED} {z n : Nat} (h : okS S z n) {E : ED} (hE : E.2.2.1 ≤ 24 ∧ ∀ j, j < E.2.2.1 → 0 ≤ E.2.2.2 j ∧ E.2.2.2 j ≤ 255) (hn : E.1 + E.2.1 ≤ n) (ht : ∀ i, i < z → ¬ mts (S i) E.1 E.2.1) : okS (insS S (pos S E.1 z) E) (z + 1) n := by
  have hp := pos_le S E.1 z
  have hhi : ∀ j, pos S E.1 z ≤ j → j < z → E.1 < (S j).1 := fun j h1 h2 => by have := pos_hi S E.1 z j h1 h2; omega
  have hlo : ∀ j, j < pos S E.1 z → (S j).1 ≤ E.1 := fun j hj => by
    rcases pos_lo S E.1 z with e | e
    · omega
    · by_cases e2 : j = pos S E.1 z - 1
      · subst e2; omega
      · have := h.2.1 j (pos S E.1 z - 1) (by omega) (by omega); omega
  generalize pos S E.1 z = p at hp hhi hlo ⊢
  have hlt : ∀ j, j < p → (S j).1 + (S j).2.1 < E.1 := fun j hj => by
    have h1 := hlo j hj
    have h2 := ht j (by omega)
    simp only [mts] at h2
    omega
  have hgt : ∀ j, p ≤ j → j < z → E.1 + E.2.1 < (S j).1 := fun j h1 h2 => by
    have h3 := hhi j h1 h2
    have h4 := ht j h2
    simp only [mts] at h4
    omega
  refine ⟨fun i hi => ?_, fun i j hij hj => ?_, fun i hi => ?_⟩
  · simp only [insS]
    by_cases e : i < p
    · rw [if_pos e]; exact h.1 i (by omega)
    · rw [if_neg e]
      by_cases e2 : i = p
      · rw [if_pos e2]; exact hE
      · rw [if_neg e2]; exact h.1 _ (by omega)
  · simp only [insS]
    by_cases a : i < p
    · rw [if_pos a]
      by_cases b : j < p
      · rw [if_pos b]; exact h.2.1 i j hij (by omega)
      · rw [if_neg b]
        by_cases b2 : j = p
        · rw [if_pos b2]; exact hlt i a
        · rw [if_neg b2]; exact h.2.1 i (j - 1) (by omega) (by omega)
    · rw [if_neg a, if_neg (by omega : ¬ j < p)]
      by_cases a2 : i = p
      · rw [if_pos a2, if_neg (by omega : ¬ j = p)]; exact hgt (j - 1) (by omega) (by omega)
      · rw [if_neg a2, if_neg (by omega : ¬ j = p)]; exact h.2.1 (i - 1) (j - 1) (by omega) (by omega)
  · simp only [insS]
    by_cases e : i < p
    · rw [if_pos e]; exact h.2.2 i (by omega)
    · rw [if_neg e]
      by_cases e2 : i = p
      · rw [if_pos e2]; exact hn
      · rw [if_neg e2]; exact h.2.2 _ (by omega)
