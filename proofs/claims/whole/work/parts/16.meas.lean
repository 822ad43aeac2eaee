/-! ===== measures of bytes ===== -/
def hasM (b : Int) (w : Nat) : Int := if w = 0 then 1 else if w = 1 then (if b < 128 ∨ 191 < b then 1 else 0) else if w = 2 then (if b = 10 then 1 else 0) else (if ¬ (b < 128 ∨ 191 < b) ∨ b < 32 then 0 else if 223 < b then 2 else 1)
def measM (T : Nat → Int) (w : Nat) : Nat → Int
  | 0 => 0
  | j + 1 => measM T w j + hasM (T j) w
theorem measM_succ (T : Nat → Int) (w j : Nat) : measM T w (j + 1) = measM T w j + hasM (T j) w := rfl
theorem hasM_in (b : Int) (w : Nat) : 0 ≤ hasM b w ∧ hasM b w ≤ 2 := by
  simp only [hasM]
  repeat' split
  all_goals omega
theorem measM_in (T : Nat → Int) (w : Nat) : ∀ j, 0 ≤ measM T w j ∧ measM T w j ≤ 2 * j
  | 0 => by simp [measM]
  | j + 1 => by have := measM_in T w j; have := hasM_in (T j) w; simp only [measM]; omega
theorem measM_mono (T : Nat → Int) (w : Nat) {a : Nat} : ∀ {b : Nat}, a ≤ b → measM T w a ≤ measM T w b
  | 0, h => by have : a = 0 := by omega
               subst this; exact Int.le_refl _
  | b + 1, h => by
    by_cases e : a = b + 1
    · subst e; exact Int.le_refl _
    · have := measM_mono T w (a := a) (b := b) (by omega); have := hasM_in (T b) w; simp only [measM]; omega
theorem measM_congr {T T' : Nat → Int} {w : Nat} : ∀ {m : Nat}, (∀ j, j < m → T j = T' j) → measM T w m = measM T' w m
  | 0, _ => rfl
  | m + 1, e => by simp only [measM]; rw [measM_congr (fun j hj => e j (by omega)), e m (by omega)]
theorem measM_0 (T : Nat → Int) : ∀ j, measM T 0 j = j
  | 0 => rfl
  | j + 1 => by simp only [measM]; rw [measM_0 T j]; simp [hasM]
/-- how many marks; the nearest mark from a place on, its name and place; where the next letter begins -/
def mcnt (mk : Nat → Int) : Nat → Int
  | 0 => 0
  | j + 1 => mcnt mk j + (if mk j = -9 then 0 else 1)
theorem mcnt_in (mk : Nat → Int) : ∀ j, 0 ≤ mcnt mk j ∧ mcnt mk j ≤ j
  | 0 => by simp [mcnt]
  | j + 1 => by have := mcnt_in mk j; simp only [mcnt]; split <;> omega
def mfr (mk : Nat → Int) (x : Int) : Nat → Int × Int
  | 0 => (-9, 0)
  | j + 1 => if x ≤ mk j ∧ ((mfr mk x j).1 = -9 ∨ mk j < (mfr mk x j).2) then (97 + (j : Int), mk j) else mfr mk x j
theorem mfr_in {mk : Nat → Int} {x : Int} : ∀ {j : Nat}, (∀ i, i < j → -9 ≤ mk i ∧ mk i ≤ 5000) → -9 ≤ (mfr mk x j).1 ∧ (mfr mk x j).1 ≤ 97 + j ∧ -9 ≤ (mfr mk x j).2 ∧ (mfr mk x j).2 ≤ 5000
  | 0, _ => by simp [mfr]
  | j + 1, h => by
    have h1 := mfr_in (mk := mk) (x := x) (j := j) (fun i hi => h i (by omega))
    have h2 := h j (by omega)
    simp only [mfr]
    split
    · simp only []; omega
    · omega
def skp (T : Nat → Int) : Nat → Nat → Nat
  | 0, b => b
  | d + 1, b => if T b < 128 ∨ 191 < T b then b else skp T d (b + 1)
theorem skp_in (T : Nat → Int) : ∀ d b, b ≤ skp T d b ∧ skp T d b ≤ b + d
  | 0, b => by simp [skp]
  | d + 1, b => by
    have := skp_in T d (b + 1)
    simp only [skp]
    split <;> omega
