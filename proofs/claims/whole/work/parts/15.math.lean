/-! ===== what the texts are, in numbers ===== -/
def csum (C : Nat → Int) : Nat → Int
  | 0 => 0
  | k + 1 => csum C k + C k
theorem csum_succ (C : Nat → Int) (k : Nat) : csum C (k + 1) = csum C k + C k := rfl
theorem csum_congr {C C' : Nat → Int} : ∀ {m : Nat}, (∀ j, j < m → C j = C' j) → csum C m = csum C' m
  | 0, _ => rfl
  | m + 1, e => by simp only [csum]; rw [csum_congr (fun j hj => e j (by omega)), e m (by omega)]
theorem csum_mono {C : Nat → Int} {c : Nat} (h : ∀ j, j < c → 0 ≤ C j) {a : Nat} : ∀ {b : Nat}, a ≤ b → b ≤ c → csum C a ≤ csum C b
  | 0, h1, _ => by have : a = 0 := by omega
                   subst this; exact Int.le_refl _
  | b + 1, h1, h2 => by
    by_cases e : a = b + 1
    · subst e; exact Int.le_refl _
    · have := csum_mono h (a := a) (b := b) (by omega) (by omega)
      have := h b (by omega)
      simp only [csum]
      omega
theorem csum_nn {C : Nat → Int} {c : Nat} (h : ∀ j, j < c → 0 ≤ C j) {b : Nat} (hb : b ≤ c) : 0 ≤ csum C b := csum_mono h (a := 0) (Nat.zero_le b) hb
theorem csum_ge {C : Nat → Int} : ∀ {c : Nat}, (∀ j, j < c → 1 ≤ C j) → (c : Int) ≤ csum C c
  | 0, _ => by simp [csum]
  | c + 1, h => by have := csum_ge (C := C) (c := c) (fun j hj => h j (by omega)); have := h c (by omega); simp only [csum]; omega
theorem csum_up {C : Nat → Int} {c : Nat} {v : Int} : csum (va_up C c v) (c + 1) = csum C c + v := by
  simp only [csum]
  rw [csum_congr (C' := C) (fun j hj => by simp [va_up, Nat.ne_of_lt hj])]
  simp [va_up]
/-- what of a chunk stays -/
def stay (C : Nat → Int) (p k : Int) (j : Nat) : Int := C j - max (min (csum C j + C j) (p + k) - max (csum C j) p) 0
theorem stay_in {C : Nat → Int} {p k : Int} {j : Nat} (h : 0 ≤ C j) : 0 ≤ stay C p k j ∧ stay C p k j ≤ C j := by
  simp only [stay]; omega
theorem stay_sum {C : Nat → Int} {p k : Int} (hk : 0 ≤ k) (hp : 0 ≤ p) : ∀ {c : Nat}, (∀ j, j < c → 0 ≤ C j) → csum (stay C p k) c = csum C c - max 0 (min (csum C c) (p + k) - p)
  | 0, _ => by simp only [csum]; omega
  | c + 1, h => by
    have h1 := stay_sum hk hp (C := C) (c := c) (fun j hj => h j (by omega))
    have h2 := h c (by omega)
    have h3 := csum_nn (C := C) (c := c) (fun j hj => h j (by omega)) (Nat.le_refl c)
    simp only [csum]
    rw [h1]
    simp only [stay]
    omega
def shN (S : Nat → Int) : Nat → Nat
  | 0 => 0
  | j + 1 => if 0 < S j then shN S j + 1 else shN S j
def shF (S : Nat → Int) : Nat → (Nat → Int)
  | 0 => fun _ => 0
  | j + 1 => if 0 < S j then va_up (shF S j) (shN S j) (S j) else shF S j
theorem shN_le (S : Nat → Int) : ∀ j, shN S j ≤ j
  | 0 => Nat.le_refl 0
  | j + 1 => by have := shN_le S j; simp only [shN]; split <;> omega
theorem sh_sum {S : Nat → Int} : ∀ {j : Nat}, (∀ i, i < j → 0 ≤ S i) → csum (shF S j) (shN S j) = csum S j
  | 0, _ => rfl
  | j + 1, h => by
    have h1 := sh_sum (S := S) (j := j) (fun i hi => h i (by omega))
    have h2 := h j (by omega)
    simp only [shF, shN]
    by_cases e : 0 < S j
    · rw [if_pos e, if_pos e, csum_up, h1]; rfl
    · rw [if_neg e, if_neg e, h1]; simp only [csum]; omega
theorem sh_at {S : Nat → Int} : ∀ {j i : Nat}, i < shN S j → ∃ t, t < j ∧ shF S j i = S t ∧ 0 < S t
  | 0, i, h => by simp [shN] at h
  | j + 1, i, h => by
    simp only [shF, shN] at h ⊢
    by_cases e : 0 < S j
    · rw [if_pos e] at h ⊢
      by_cases e2 : i = shN S j
      · subst e2
        exact ⟨j, by omega, by simp [va_up], e⟩
      · obtain ⟨t, h1, h2, h3⟩ := sh_at (S := S) (j := j) (i := i) (by omega)
        exact ⟨t, by omega, by simp [va_up, e2, h2], h3⟩
    · rw [if_neg e] at h ⊢
      obtain ⟨t, h1, h2, h3⟩ := sh_at (S := S) (j := j) (i := i) h
      exact ⟨t, by omega, h2, h3⟩
/-- the chunk of the byte ahead of a place -/
def isCA (C : Nat → Int) (c : Nat) (p : Int) (k : Nat) : Prop := k < c ∧ p ≤ csum C (k + 1) ∧ ∀ j, j < k → csum C (j + 1) < p
def ca (C : Nat → Int) (p : Int) : Nat → Nat
  | 0 => 0
  | c + 1 => if p ≤ csum C c ∧ 0 < c then ca C p c else c
theorem ca_ex {C : Nat → Int} {p : Int} : ∀ {c : Nat}, (∀ j, j < c → 0 ≤ C j) → 0 < c → p ≤ csum C c → isCA C c p (ca C p c)
  | 0, _, h, _ => by omega
  | c + 1, hC, h, hp => by
    simp only [ca]
    by_cases e : p ≤ csum C c ∧ 0 < c
    · rw [if_pos e]
      obtain ⟨h1, h2, h3⟩ := ca_ex (c := c) (fun j hj => hC j (by omega)) e.2 e.1
      exact ⟨by omega, h2, h3⟩
    · rw [if_neg e]
      refine ⟨by omega, hp, fun j hj => ?_⟩
      have := csum_mono (C := C) (c := c + 1) hC (a := j + 1) (b := c) (by omega) (by omega)
      omega
theorem ca_un {C : Nat → Int} {c : Nat} {p : Int} {a b : Nat} (h1 : isCA C c p a) (h2 : isCA C c p b) : a = b := by
  rcases Nat.lt_trichotomy a b with h | h | h
  · have := h2.2.2 a h; have := h1.2.1; omega
  · exact h
  · have := h1.2.2 b h; have := h2.2.1; omega
theorem ca_of {C : Nat → Int} {c : Nat} {p : Int} {k : Nat} (hC : ∀ j, j < c → 0 ≤ C j) (h : isCA C c p k) : ca C p c = k := by
  refine ca_un (ca_ex hC (by have := h.1; omega) ?_) h
  have := csum_mono hC (a := k + 1) (b := c) (by have := h.1; omega) (Nat.le_refl c)
  have := h.2.1
  omega
theorem isCA_congr {C C' : Nat → Int} {c : Nat} {p : Int} {k : Nat} (e : ∀ j, j < c → C j = C' j) (h : isCA C c p k) : isCA C' c p k := by
  have hs : ∀ j, j ≤ c → csum C j = csum C' j := fun j hj => csum_congr (fun i hi => e i (by omega))
  have h1 := h.1
  refine ⟨h1, by rw [← hs (k + 1) (by omega)]; exact h.2.1, fun j hj => by rw [← hs (j + 1) (by omega)]; exact h.2.2 j hj⟩
/-- two chunks become one -/
def jnN (C : Nat → Int) (c k : Nat) : Nat := if k + 1 < c ∧ C k + C (k + 1) ≤ 8 then c - 1 else c
def jnF (C : Nat → Int) (c k : Nat) : Nat → Int := if k + 1 < c ∧ C k + C (k + 1) ≤ 8 then (fun j => if j < k then C j else if j = k then C k + C (k + 1) else C (j + 1)) else C
theorem jn_lo (C : Nat → Int) (k : Nat) : ∀ m, m ≤ k → csum (fun j => if j < k then C j else if j = k then C k + C (k + 1) else C (j + 1)) m = csum C m := fun m hm => csum_congr (fun j hj => if_pos (by omega))
theorem jn_hi (C : Nat → Int) (k : Nat) : ∀ d, csum (fun j => if j < k then C j else if j = k then C k + C (k + 1) else C (j + 1)) (k + 1 + d) = csum C (k + 2 + d)
  | 0 => by
    rw [Nat.add_zero, Nat.add_zero, csum_succ, jn_lo C k k (Nat.le_refl k), csum_succ C (k + 1), csum_succ C k]
    simp
    omega
  | d + 1 => by
    rw [show k + 1 + (d + 1) = (k + 1 + d) + 1 by omega, show k + 2 + (d + 1) = (k + 2 + d) + 1 by omega, csum_succ, csum_succ C (k + 2 + d), jn_hi C k d, if_neg (by omega), if_neg (by omega), show k + 1 + d + 1 = k + 2 + d by omega]
theorem jn_sum {C : Nat → Int} {c k : Nat} : csum (jnF C c k) (jnN C c k) = csum C c := by
  simp only [jnF, jnN]
  by_cases e : k + 1 < c ∧ C k + C (k + 1) ≤ 8
  · rw [if_pos e, if_pos e]
    obtain ⟨d, hd⟩ : ∃ d, c = k + 2 + d := ⟨c - (k + 2), by omega⟩
    subst hd
    rw [← jn_hi C k d]
    congr 1
    omega
  · rw [if_neg e, if_neg e]
theorem jn_in {C : Nat → Int} {c k : Nat} (h : ∀ j, j < c → 1 ≤ C j ∧ C j ≤ 8) : ∀ j, j < jnN C c k → 1 ≤ jnF C c k j ∧ jnF C c k j ≤ 8 := by
  intro j
  simp only [jnF, jnN]
  by_cases e : k + 1 < c ∧ C k + C (k + 1) ≤ 8
  · rw [if_pos e, if_pos e]
    intro hj
    by_cases e1 : j < k
    · rw [if_pos e1]; exact h j (by omega)
    · rw [if_neg e1]
      by_cases e2 : j = k
      · rw [if_pos e2]
        have := h k (by omega)
        have := h (k + 1) (by omega)
        omega
      · rw [if_neg e2]; exact h (j + 1) (by omega)
  · rw [if_neg e, if_neg e]
    exact h j
/-- a chunk becomes several: size bytes at k, so many parts -/
def gwF (C : Nat → Int) (k parts : Nat) (size : Int) : Nat → Int := fun j => if j < k then C j else if j < k + parts then size / parts + (if ((j - k : Nat) : Int) < size % parts then 1 else 0) else C (j - (parts - 1))
theorem gw_lo (C : Nat → Int) (k parts : Nat) (size : Int) : ∀ m, m ≤ k → csum (gwF C k parts size) m = csum C m := fun m hm => csum_congr (fun j hj => by simp only [gwF]; rw [if_pos (by omega)])
theorem gw_mid (C : Nat → Int) (k parts : Nat) (size : Int) : ∀ d, d ≤ parts → csum (gwF C k parts size) (k + d) = csum C k + (d * (size / parts) + min (d : Int) (max 0 (size % parts)))
  | 0, _ => by
    rw [Nat.add_zero, gw_lo C k parts size k (Nat.le_refl k)]
    have : ((0 : Nat) : Int) * (size / parts) = 0 := by simp
    rw [this]
    omega
  | d + 1, h => by
    have e0 : gwF C k parts size (k + d) = size / parts + (if (d : Int) < size % parts then 1 else 0) := by
      simp only [gwF]
      rw [if_neg (by omega), if_pos (by omega), show k + d - k = d by omega]
    rw [show k + (d + 1) = (k + d) + 1 by omega, csum_succ, gw_mid C k parts size d (by omega), e0]
    have : ((d + 1 : Nat) : Int) * (size / parts) = d * (size / parts) + size / parts := by
      rw [Int.natCast_add, Int.add_mul]; simp
    rw [this]
    generalize (d : Int) * (size / parts) = x
    generalize size / (parts : Int) = y
    generalize size % (parts : Int) = z
    by_cases e : (d : Int) < z
    · rw [if_pos e]; omega
    · rw [if_neg e]; omega
theorem gw_hi (C : Nat → Int) (k parts : Nat) (size : Int) (hp : 0 < parts) (hs : (parts * (size / parts) + min (parts : Int) (max 0 (size % parts)) : Int) = size) : ∀ d, csum (gwF C k parts size) (k + parts + d) = csum C (k + 1 + d) + (size - C k)
  | 0 => by
    rw [Nat.add_zero, gw_mid C k parts size parts (Nat.le_refl _), hs, Nat.add_zero, csum_succ]
    omega
  | d + 1 => by
    have e0 : gwF C k parts size (k + parts + d) = C (k + 1 + d) := by
      simp only [gwF]
      rw [if_neg (by omega), if_neg (by omega), show k + parts + d - (parts - 1) = k + 1 + d by omega]
    rw [show k + parts + (d + 1) = (k + parts + d) + 1 by omega, show k + 1 + (d + 1) = (k + 1 + d) + 1 by omega, csum_succ, csum_succ, gw_hi C k parts size hp hs d, e0]
    omega
theorem parts_ok {size : Int} (h1 : 1 ≤ size) (h2 : size ≤ 32) {parts : Nat} (hp : (parts : Int) = (size + 7) / 8) : 1 ≤ parts ∧ parts ≤ 4 ∧ (parts * (size / parts) + min (parts : Int) (max 0 (size % parts)) : Int) = size ∧ (∀ i : Nat, i < parts → 1 ≤ size / parts + (if (i : Int) < size % parts then 1 else 0) ∧ size / parts + (if (i : Int) < size % parts then 1 else 0) ≤ 8) := by
  have hp4 : parts = 1 ∨ parts = 2 ∨ parts = 3 ∨ parts = 4 := by omega
  rcases hp4 with rfl | rfl | rfl | rfl
  all_goals
    refine ⟨by omega, by omega, by omega, fun i hi => ?_⟩
    split <;> omega
theorem gw_in {C : Nat → Int} {c k parts : Nat} {size : Int} (h : ∀ j, j < c → j ≠ k → 1 ≤ C j ∧ C j ≤ 8) (hk : k < c) (h1 : 1 ≤ size) (h2 : size ≤ 32) (hp : (parts : Int) = (size + 7) / 8) : ∀ j, j < c + parts - 1 → 1 ≤ gwF C k parts size j ∧ gwF C k parts size j ≤ 8 := by
  obtain ⟨p1, p2, p3, p4⟩ := parts_ok h1 h2 hp
  intro j hj
  simp only [gwF]
  by_cases e1 : j < k
  · rw [if_pos e1]; exact h j (by omega) (by omega)
  · rw [if_neg e1]
    by_cases e2 : j < k + parts
    · rw [if_pos e2]; exact p4 (j - k) (by omega)
    · rw [if_neg e2]; exact h _ (by omega) (by omega)
theorem gw_sum {C : Nat → Int} {c k parts : Nat} {size : Int} (hk : k < c) (h1 : 1 ≤ size) (h2 : size ≤ 32) (hp : (parts : Int) = (size + 7) / 8) : csum (gwF C k parts size) (c + parts - 1) = csum C c + (size - C k) := by
  obtain ⟨p1, p2, p3, p4⟩ := parts_ok h1 h2 hp
  have := gw_hi C k parts size (by omega) p3 (c - (k + 1))
  rw [show k + 1 + (c - (k + 1)) = c by omega, show k + parts + (c - (k + 1)) = c + parts - 1 by omega] at this
  exact this
/-! pages: bytes, sizes of chunks, marks (-9: none), the reader -/
abbrev PG : Type := Nat × (Nat → Int) × Nat × (Nat → Int) × (Nat → Int) × Int
def wf (B : Nat) (P : PG) : Prop := P.1 ≤ B ∧ (∀ j, j < P.1 → 0 ≤ P.2.1 j ∧ P.2.1 j ≤ 255) ∧ (∀ j, j < P.2.2.1 → 1 ≤ P.2.2.2.1 j ∧ P.2.2.2.1 j ≤ 8) ∧ csum P.2.2.2.1 P.2.2.1 = P.1 ∧ (∀ j, j < 26 → P.2.2.2.2.1 j = -9 ∨ (0 ≤ P.2.2.2.2.1 j ∧ P.2.2.2.2.1 j ≤ P.1)) ∧ 0 ≤ P.2.2.2.2.2 ∧ P.2.2.2.2.2 ≤ P.1
theorem wf.c_le {B : Nat} {P : PG} (h : wf B P) : P.2.2.1 ≤ P.1 := by
  have := csum_ge (C := P.2.2.2.1) (c := P.2.2.1) (fun j hj => (h.2.2.1 j hj).1)
  have := h.2.2.2.1
  omega
theorem wf.up {B B' : Nat} {P : PG} (h : wf B P) (hB : P.1 ≤ B') : wf B' P := ⟨hB, h.2⟩
def mvT (x p k : Int) : Int := if x ≤ p then x else max p (x - k)
def mvP (x p m : Int) : Int := if x ≤ p then x else x + m
def shC (P : PG) (p k : Nat) : Nat := shN (stay P.2.2.2.1 p k) P.2.2.1
def shG (P : PG) (p k : Nat) : Nat → Int := shF (stay P.2.2.2.1 p k) P.2.2.1
def takeP (P : PG) (p k : Nat) : PG :=
  (P.1 - k, (fun j => if j < p then P.2.1 j else P.2.1 (j + k)), jnN (shG P p k) (shC P p k) (ca (shG P p k) p (shC P p k)), jnF (shG P p k) (shC P p k) (ca (shG P p k) p (shC P p k)), (fun j => mvT (P.2.2.2.2.1 j) p k), mvT P.2.2.2.2.2 p k)
def gC (P : PG) : Nat := if P.2.2.1 = 0 then 1 else P.2.2.1
def gG (P : PG) : Nat → Int := if P.2.2.1 = 0 then (fun _ => 0) else P.2.2.2.1
def gK (P : PG) (p : Nat) : Nat := ca (gG P) p (gC P)
def gS (P : PG) (p m : Nat) : Int := gG P (gK P p) + m
def gP (P : PG) (p m : Nat) : Nat := ((gS P p m + 7) / 8).toNat
def putP (P : PG) (p m : Nat) (W : Nat → Int) : PG :=
  (P.1 + m, (fun j => if j < p then P.2.1 j else if j < p + m then W (j - p) else P.2.1 (j - m)), gC P + gP P p m - 1, gwF (gG P) (gK P p) (gP P p m) (gS P p m), (fun j => mvP (P.2.2.2.2.1 j) p m), mvP P.2.2.2.2.2 p m)
def edP (P : PG) (p k m : Nat) (W : Nat → Int) : PG := if m = 0 then (if k = 0 then P else takeP P p k) else putP (if k = 0 then P else takeP P p k) p m W
theorem wf_sh {B : Nat} {P : PG} (h : wf B P) {p k : Nat} (hp : p + k ≤ P.1) : (∀ j, j < shC P p k → 1 ≤ shG P p k j ∧ shG P p k j ≤ 8) ∧ csum (shG P p k) (shC P p k) = ((P.1 - k : Nat) : Int) := by
  have hC : ∀ j, j < P.2.2.1 → 0 ≤ P.2.2.2.1 j := fun j hj => by have := (h.2.2.1 j hj).1; omega
  constructor
  · intro j hj
    obtain ⟨t, h1, h2, h3⟩ := sh_at (S := stay P.2.2.2.1 p k) (j := P.2.2.1) (i := j) hj
    have := stay_in (C := P.2.2.2.1) (p := p) (k := k) (j := t) (hC t h1)
    have := h.2.2.1 t h1
    simp only [shG]
    rw [h2]
    omega
  · have h1 := sh_sum (S := stay P.2.2.2.1 p k) (j := P.2.2.1) (fun i hi => (stay_in (hC i hi)).1)
    have h2 := stay_sum (C := P.2.2.2.1) (p := p) (k := k) (by omega) (by omega) (c := P.2.2.1) hC
    have h3 := h.2.2.2.1
    simp only [shG, shC]
    rw [h1, h2, h3]
    omega
theorem wf_take {B : Nat} {P : PG} (h : wf B P) {p k : Nat} (hp : p + k ≤ P.1) : wf B (takeP P p k) := by
  obtain ⟨s1, s2⟩ := wf_sh h hp
  obtain ⟨h1, h2, h3, h4, h5, h6, h7⟩ := h
  refine ⟨by simp only [takeP]; omega, fun j hj => ?_, fun j hj => ?_, ?_, fun j hj => ?_, ?_, ?_⟩
  · simp only [takeP] at hj ⊢
    by_cases e : j < p
    · rw [if_pos e]; exact h2 j (by omega)
    · rw [if_neg e]; exact h2 _ (by omega)
  · exact jn_in s1 j hj
  · simp only [takeP]
    rw [jn_sum, s2]
  · simp only [takeP, mvT]
    rcases h5 j hj with e | e
    · rw [e, if_pos (by omega)]; exact Or.inl rfl
    · right; split <;> omega
  · simp only [takeP, mvT]; split <;> omega
  · simp only [takeP, mvT]; split <;> omega
theorem wf_g {B : Nat} {P : PG} (h : wf B P) {p : Nat} (hp : p ≤ P.1) : (∀ j, j < gC P → 0 ≤ gG P j ∧ gG P j ≤ 8) ∧ csum (gG P) (gC P) = P.1 ∧ 0 < gC P ∧ isCA (gG P) (gC P) p (gK P p) ∧ (∀ j, j < gC P → j ≠ gK P p → 1 ≤ gG P j ∧ gG P j ≤ 8) ∧ gC P ≤ P.1 + 1 := by
  have hcl := h.c_le
  obtain ⟨h1, h2, h3, h4, h5, h6, h7⟩ := h
  by_cases e : P.2.2.1 = 0
  · have e1 : gC P = 1 := by simp [gC, e]
    have e2 : gG P = fun _ => 0 := by simp [gG, e]
    have e3 : (P.1 : Int) = 0 := by rw [← h4, e]; rfl
    have e4 : csum (gG P) (gC P) = P.1 := by rw [e1, e2, e3]; rfl
    have e5 : isCA (gG P) (gC P) p (gK P p) := ca_ex (fun j hj => by rw [e2]; exact Int.le_refl 0) (by omega) (by rw [e4]; omega)
    refine ⟨fun j hj => by rw [e2]; exact ⟨show (0 : Int) ≤ 0 by decide, show (0 : Int) ≤ 8 by decide⟩, e4, by omega, e5, fun j hj hne => ?_, by omega⟩
    have := e5.1
    omega
  · have e1 : gC P = P.2.2.1 := by simp [gC, e]
    have e2 : gG P = P.2.2.2.1 := by simp [gG, e]
    rw [e1, e2]
    have e5 : isCA P.2.2.2.1 P.2.2.1 p (gK P p) := by
      simp only [gK, e1, e2]
      exact ca_ex (fun j hj => by have := (h3 j hj).1; omega) (by omega) (by rw [h4]; omega)
    exact ⟨fun j hj => by have := h3 j hj; omega, h4, by omega, e5, fun j hj _ => h3 j hj, by omega⟩
theorem gP_ok {B : Nat} {P : PG} (h : wf B P) {p m : Nat} (hp : p ≤ P.1) (hm : 0 < m) (hm2 : m ≤ 24) : 1 ≤ gS P p m ∧ gS P p m ≤ 32 ∧ ((gP P p m : Nat) : Int) = (gS P p m + 7) / 8 := by
  obtain ⟨g1, g2, g3, g4, g5, g6⟩ := wf_g h hp
  have := g1 _ g4.1
  have e1 : 1 ≤ gS P p m := by simp only [gS]; omega
  have e2 : gS P p m ≤ 32 := by simp only [gS]; omega
  exact ⟨e1, e2, by simp only [gP]; omega⟩
theorem wf_put {B B' : Nat} {P : PG} {W : Nat → Int} (h : wf B P) {p m : Nat} (hp : p ≤ P.1) (hm : 0 < m) (hm2 : m ≤ 24) (hW : ∀ j, j < m → 0 ≤ W j ∧ W j ≤ 255) (hB : P.1 + m ≤ B') : wf B' (putP P p m W) := by
  obtain ⟨g1, g2, g3, g4, g5, g6⟩ := wf_g h hp
  obtain ⟨s1, s2, s3⟩ := gP_ok h hp hm hm2
  obtain ⟨h1, h2, h3, h4, h5, h6, h7⟩ := h
  refine ⟨hB, fun j hj => ?_, fun j hj => ?_, ?_, fun j hj => ?_, ?_, ?_⟩
  · simp only [putP] at hj ⊢
    by_cases e : j < p
    · rw [if_pos e]; exact h2 j (by omega)
    · rw [if_neg e]
      by_cases e2 : j < p + m
      · rw [if_pos e2]; exact hW _ (by omega)
      · rw [if_neg e2]; exact h2 _ (by omega)
  · exact gw_in g5 g4.1 s1 s2 s3 j hj
  · simp only [putP]
    rw [gw_sum g4.1 s1 s2 s3, g2]
    simp only [gS]
    omega
  · simp only [putP, mvP]
    rcases h5 j hj with e | e
    · rw [e, if_pos (by omega)]; exact Or.inl rfl
    · right; split <;> omega
  · simp only [putP, mvP]; split <;> omega
  · simp only [putP, mvP]; split <;> omega
