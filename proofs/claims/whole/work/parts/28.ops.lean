/-! ===== the whole state, what each call answers and does ===== -/
abbrev XS : Type := PG × (Nat × (Nat → Int)) × ((Nat → ED) × Nat) × ((Nat → PG) × Nat) × (Nat → Option PG)
def wfm (P : PG) : Prop := wf 120 P ∧ mcnt P.2.2.2.2.1 26 ≤ 8
def wfX (X : XS) : Prop := wfm X.1 ∧ (X.2.1.1 ≤ 24 ∧ ∀ j, j < X.2.1.1 → 0 ≤ X.2.1.2 j ∧ X.2.1.2 j ≤ 255) ∧ okS X.2.2.1.1 X.2.2.1.2 X.1.1 ∧ X.2.2.1.2 ≤ 4 ∧ (∀ i, i < X.2.2.2.1.2 → wfm (X.2.2.2.1.1 i)) ∧ X.2.2.2.1.2 ≤ 8 ∧ ∀ i Q, X.2.2.2.2 i = some Q → wfm Q
def pushH (Hs : Nat → PG) (P : PG) : Nat → PG := fun i => if i = 0 then P else Hs (i - 1)
abbrev isSt (X : XS) (x k : Int) : Prop := 0 ≤ x ∧ x ≤ X.1.1 ∧ 0 ≤ k ∧ k ≤ X.1.1 - x
abbrev isPl (X : XS) (x : Int) : Prop := 0 ≤ x ∧ x ≤ X.1.1
abbrev isLn (X : XS) (k : Int) : Prop := 0 ≤ k ∧ k ≤ nl X.1.2.1 X.1.1
abbrev isNm (a : Int) : Prop := 97 ≤ a ∧ a < 123
def oType (X : XS) (b : Int) : Int × XS := if b < 0 ∨ 255 < b then (-1, X) else if 24 ≤ X.2.1.1 then (-3, X) else (X.2.1.1 + 1, (X.1, (X.2.1.1 + 1, va_up X.2.1.2 X.2.1.1 b), X.2.2))
def oClear (X : XS) : Int × XS := (X.2.1.1, (X.1, (0, X.2.1.2), X.2.2))
def oEdits (X : XS) (x k : Int) : Int × XS := if ¬ isSt X x k then (-1, X) else if 0 < X.2.2.1.2 then (-2, X) else if 120 < (X.1.1 : Int) - k + X.2.1.1 then (-3, X) else ((X.1.1 : Int) - k + X.2.1.1, (edP X.1 x.toNat k.toNat X.2.1.1 X.2.1.2, (0, X.2.1.2), X.2.2.1, (pushH X.2.2.2.1.1 X.1, min (X.2.2.2.1.2 + 1) 8), X.2.2.2.2))
def oStages (X : XS) (x k : Int) : Int × XS := if ¬ isSt X x k then (-1, X) else if tch X.2.2.1.1 x k X.2.2.1.2 = true then (-2, X) else if 4 ≤ X.2.2.1.2 then (-3, X) else (X.2.2.1.2 + 1, (X.1, (0, X.2.1.2), (insS X.2.2.1.1 (pos X.2.2.1.1 x X.2.2.1.2) (x.toNat, k.toNat, X.2.1.1, X.2.1.2), X.2.2.1.2 + 1), X.2.2.2))
def oDoes (X : XS) : Int × XS := if X.2.2.1.2 = 0 then (-2, X) else if 120 < (X.1.1 : Int) + grw X.2.2.1.1 X.2.2.1.2 then (-3, X) else ((X.1.1 : Int) + grw X.2.2.1.1 X.2.2.1.2, (doA X.2.2.1.1 X.2.2.1.2 X.1, X.2.1, (X.2.2.1.1, 0), (pushH X.2.2.2.1.1 X.1, min (X.2.2.2.1.2 + 1) 8), X.2.2.2.2))
def oDrops (X : XS) : Int × XS := (X.2.2.1.2, (X.1, X.2.1, (X.2.2.1.1, 0), X.2.2.2))
def oUndo (X : XS) : Int × XS := if X.2.2.2.1.2 = 0 ∨ 0 < X.2.2.1.2 then (-2, X) else ((X.2.2.2.1.2 : Int) - 1, (X.2.2.2.1.1 0, X.2.1, X.2.2.1, ((fun i => X.2.2.2.1.1 (i + 1)), X.2.2.2.1.2 - 1), X.2.2.2.2))
def oAt (X : XS) (x : Int) : Int := if 0 ≤ x ∧ x < X.1.1 then X.1.2.1 x.toNat else -1
def oTells (X : XS) (f v t : Int) : Int := if ¬ (0 ≤ f ∧ f ≤ 3) ∨ ¬ (0 ≤ t ∧ t ≤ 3) ∨ v < 0 ∨ measM X.1.2.1 f.toNat X.1.1 < v then -1 else measM X.1.2.1 t.toNat (if f.toNat = 2 then lbN X.1.2.1 X.1.1 v.toNat else far X.1.2.1 f.toNat 0 v X.1.1 0)
def mil (w : Int) : Nat := if w = 1 then 0 else if w = 2 then 1 else 3
def oSpot (X : XS) (x w : Int) : Int := if ¬ isPl X x ∨ w < 0 ∨ 3 < w then -1 else if w = 0 then nl X.1.2.1 x.toNat else measM X.1.2.1 (mil w) x.toNat - measM X.1.2.1 (mil w) (lbN X.1.2.1 X.1.1 (nl X.1.2.1 x.toNat))
def oColumn (X : XS) (k v : Int) : Int := if ¬ isLn X k ∨ v < 0 then -1 else far X.1.2.1 3 (lbN X.1.2.1 X.1.1 k.toNat) v (lnE X.1.2.1 X.1.1 k.toNat - lbN X.1.2.1 X.1.1 k.toNat) (lbN X.1.2.1 X.1.1 k.toNat)
def oLine (X : XS) (k w : Int) : Int := if ¬ isLn X k ∨ w < 0 ∨ 3 < w then -1 else if w = 0 then lbN X.1.2.1 X.1.1 k.toNat else measM X.1.2.1 (mil w) (lnE X.1.2.1 X.1.1 k.toNat) - measM X.1.2.1 (mil w) (lbN X.1.2.1 X.1.1 k.toNat)
def fnd (w : Nat → Int) (L k : Nat) : Nat → Nat
  | 0 => 0
  | a + 1 => if (List.range L).countP (fun o => decide (wB w o a)) = k then a else fnd w L k a
theorem fnd_srt {w : Nat → Int} {L k : Nat} {xs : List Nat} (h : srt w L xs) (hk : k < L) : ∀ a, a ≤ L → xs.getD k 0 < a → fnd w L k a = xs.getD k 0
  | 0, _, h2 => by omega
  | a + 1, h1, h2 => by
    simp only [fnd]
    by_cases e : (List.range L).countP (fun o => decide (wB w o a)) = k
    · rw [if_pos e]; exact (srt_un h (by omega) e).symm
    · rw [if_neg e]
      refine fnd_srt h hk a (by omega) ?_
      by_cases e2 : xs.getD k 0 = a
      · exact absurd (by rw [← e2]; exact srt_rank h hk) e
      · omega
def oWide (X : XS) (k : Int) : Int := if ¬ isLn X k then -1 else fnd (lnW X.1.2.1 X.1.1) (nl X.1.2.1 X.1.1 + 1) k.toNat (nl X.1.2.1 X.1.1 + 1)
def wmax (w : Nat → Int) : Nat → Int
  | 0 => 0
  | j + 1 => max (wmax w j) (w j)
theorem wmax_ge (w : Nat → Int) : ∀ L j, j < L → w j ≤ wmax w L
  | 0, j, h => by omega
  | L + 1, j, h => by
    simp only [wmax]
    by_cases e : j = L
    · subst e; omega
    · have := wmax_ge w L j (by omega); omega
theorem wmax_le {w : Nat → Int} {b : Int} (hb : 0 ≤ b) : ∀ L, (∀ j, j < L → w j ≤ b) → wmax w L ≤ b
  | 0, _ => hb
  | L + 1, h => by
    have := wmax_le hb L (fun j hj => h j (by omega))
    have := h L (by omega)
    simp only [wmax]; omega
theorem wmax_srt {w : Nat → Int} {L : Nat} {xs : List Nat} (h : srt w L xs) (hL : 0 < L) (h0 : 0 ≤ w (xs.getD 0 0)) : w (xs.getD 0 0) = wmax w L := by
  have h1 := wmax_le h0 L (srt_max h hL)
  have h2 := wmax_ge w L _ (h.lt hL)
  omega
def wpr (T : Nat → Int) (b : Nat) : Nat → Int × Int
  | 0 => (0, 0)
  | d + 1 => ((if T (b + d) = 10 then 0 else (wpr T b d).1 + hasM (T (b + d)) 3), max (if T (b + d) = 10 then 0 else (wpr T b d).1 + hasM (T (b + d)) 3) (wpr T b d).2)
def oChunk (X : XS) (k w : Int) : Int := if k < 0 ∨ (X.1.2.2.1 : Int) ≤ k ∨ w < 0 ∨ 4 < w then -1 else if w = 4 then (wpr X.1.2.1 (csum X.1.2.2.2.1 k.toNat).toNat (X.1.2.2.2.1 k.toNat).toNat).2 else measM X.1.2.1 w.toNat (csum X.1.2.2.2.1 (k.toNat + 1)).toNat - measM X.1.2.1 w.toNat (csum X.1.2.2.2.1 k.toNat).toNat
def setMk (X : XS) (i : Nat) (v : Int) : XS := ((X.1.1, X.1.2.1, X.1.2.2.1, X.1.2.2.2.1, va_up X.1.2.2.2.2.1 i v, X.1.2.2.2.2.2), X.2)
def setRd (X : XS) (v : Int) : XS := ((X.1.1, X.1.2.1, X.1.2.2.1, X.1.2.2.2.1, X.1.2.2.2.2.1, v), X.2)
def oMarks (X : XS) (a x : Int) : Int × XS := if ¬ isNm a ∨ ¬ isPl X x then (-1, X) else if X.1.2.2.2.2.1 (a - 97).toNat = -9 ∧ 8 ≤ mcnt X.1.2.2.2.2.1 26 then (-3, X) else (X.1.2.2.2.2.1 (a - 97).toNat, setMk X (a - 97).toNat x)
def oLifts (X : XS) (a : Int) : Int × XS := if ¬ isNm a then (-1, X) else if X.1.2.2.2.2.1 (a - 97).toNat = -9 then (-2, X) else (X.1.2.2.2.2.1 (a - 97).toNat, setMk X (a - 97).toNat (-9))
def oMark (X : XS) (a : Int) : Int := if ¬ isNm a then -1 else X.1.2.2.2.2.1 (a - 97).toNat
def oNext (X : XS) (x : Int) : Int := if ¬ isPl X x then -1 else (mfr X.1.2.2.2.2.1 x 26).1
def oSeeks (X : XS) (x : Int) : Int × XS := if ¬ isPl X x then (-1, X) else (X.1.2.2.2.2.2, setRd X x)
def oReads (X : XS) : Int × XS := if (X.1.1 : Int) ≤ X.1.2.2.2.2.2 then (-9, X) else (X.1.2.1 X.1.2.2.2.2.2.toNat, setRd X ((skp X.1.2.1 (X.1.1 - (X.1.2.2.2.2.2.toNat + 1)) (X.1.2.2.2.2.2.toNat + 1) : Nat) : Int))
def oKeep (X : XS) (i : Int) : Int × XS := if i < 0 ∨ 2 ≤ i then (-1, X) else (X.1.1, (X.1, X.2.1, X.2.2.1, X.2.2.2.1, va_up X.2.2.2.2 i.toNat (some X.1)))
def oBack (X : XS) (i : Int) : Int × XS := if i < 0 ∨ 2 ≤ i then (-1, X) else match X.2.2.2.2 i.toNat with
  | none => (-2, X)
  | some Q => (Q.1, (Q, X.2.1, (X.2.2.1.1, 0), (X.2.2.2.1.1, 0), X.2.2.2.2))
def oCount (X : XS) (w : Int) : Int := if 0 ≤ w ∧ w ≤ 3 then measM X.1.2.1 w.toNat X.1.1 else if w = 4 then nl X.1.2.1 X.1.1 + 1 else if w = 5 then wmax (lnW X.1.2.1 X.1.1) (nl X.1.2.1 X.1.1 + 1) else if w = 6 then X.1.2.2.1 else if w = 7 then mcnt X.1.2.2.2.2.1 26 else if w = 8 then X.1.2.2.2.2.2 else if w = 9 then X.2.1.1 else if w = 10 then X.2.2.1.2 else if w = 11 then X.2.2.2.1.2 else -1
def mxm (z : Int) (mk : Nat → Int) : Nat → Int
  | 0 => z
  | j + 1 => if mk j = -9 then mxm z mk j else 31 * (31 * mxm z mk j + (97 + (j : Int))) + mk j
def oDigest (X : XS) : Int := mxm (mix (mix 17 X.1.2.1 X.1.1) X.1.2.2.2.1 X.1.2.2.1) X.1.2.2.2.2.1 26
/-! the state stays well formed -/
theorem mcnt_congr {mk mk' : Nat → Int} : ∀ {j : Nat}, (∀ i, i < j → (mk i = -9 ↔ mk' i = -9)) → mcnt mk j = mcnt mk' j
  | 0, _ => rfl
  | j + 1, h => by
    simp only [mcnt]
    rw [mcnt_congr (fun i hi => h i (by omega))]
    have := h j (by omega)
    by_cases e : mk j = -9
    · rw [if_pos e, if_pos (this.mp e)]
    · rw [if_neg e, if_neg (fun q => e (this.mpr q))]
theorem mcnt_take {P : PG} {p k : Nat} {B : Nat} (h : wf B P) : mcnt (if k = 0 then P else takeP P p k).2.2.2.2.1 26 = mcnt P.2.2.2.2.1 26 := by
  by_cases e : k = 0
  · rw [if_pos e]
  · rw [if_neg e]
    refine mcnt_congr (fun i hi => ?_)
    have := h.2.2.2.2.1 i hi
    simp only [takeP, mvT]
    constructor
    · intro q; split at q <;> omega
    · intro q; rw [q, if_pos (by omega)]
theorem mcnt_ed {P : PG} {p k m : Nat} {W : Nat → Int} {B : Nat} (h : wf B P) (hp : p + k ≤ P.1) : mcnt (edP P p k m W).2.2.2.2.1 26 = mcnt P.2.2.2.2.1 26 := by
  simp only [edP]
  by_cases e : m = 0
  · rw [if_pos e, mcnt_take h]
  · rw [if_neg e, ← mcnt_take (p := p) (k := k) h]
    have h1 := wf_take0 h hp
    generalize (if k = 0 then P else takeP P p k) = P1 at h1 ⊢
    refine mcnt_congr (fun i hi => ?_)
    have := h1.2.2.2.2.1 i hi
    simp only [putP, mvP]
    constructor
    · intro q; split at q <;> omega
    · intro q; rw [q, if_pos (by omega)]
theorem wfm_ed {P : PG} {W : Nat → Int} (h : wfm P) {p k m : Nat} (hp : p + k ≤ P.1) (hm : m ≤ 24) (hW : ∀ j, j < m → 0 ≤ W j ∧ W j ≤ 255) (hB : P.1 - k + m ≤ 120) : wfm (edP P p k m W) := ⟨wf_ed h.1 hp hm hW hB, by rw [mcnt_ed h.1 hp]; exact h.2⟩
theorem do_ok {S : Nat → ED} {z n : Nat} (hok : okS S z n) (hn : n ≤ 120) (hz : z ≤ 4) : ∀ (c : Nat) (P : PG), c ≤ z → wf 216 P → mcnt P.2.2.2.2.1 26 ≤ 8 → P.1 ≤ 120 + 24 * (z - c) → (∀ j, j < c → (S j).1 + (S j).2.1 ≤ P.1) → wf 216 (doA S c P) ∧ mcnt (doA S c P).2.2.2.2.1 26 ≤ 8 ∧ ((doA S c P).1 : Int) = (P.1 : Int) + grw S c
  | 0, P, _, hw, hm, _, _ => ⟨hw, hm, by simp [doA, grw]⟩
  | c + 1, P, hc, hw, hm, hs, hk => by
    have hk1 := hk c (by omega)
    have h1 := hok.1 c (by omega)
    have hn2 := ed_n (P := P) (p := (S c).1) (k := (S c).2.1) (m := (S c).2.2.1) (W := (S c).2.2.2)
    obtain ⟨a1, a2, a3⟩ := do_ok hok hn hz c (edP P (S c).1 (S c).2.1 (S c).2.2.1 (S c).2.2.2) (by omega) (wf_ed hw hk1 h1.1 h1.2 (by omega)) (by rw [mcnt_ed hw hk1]; exact hm) (by omega) (fun j hj => by
      have := hok.2.1 j c hj (by omega)
      omega)
    refine ⟨a1, a2, ?_⟩
    simp only [doA, grw]
    rw [a3, hn2]
    omega
theorem wfm_do {S : Nat → ED} {z : Nat} {P : PG} (h : wfm P) (hok : okS S z P.1) (hz : z ≤ 4) (hg : (P.1 : Int) + grw S z ≤ 120) : wfm (doA S z P) ∧ ((doA S z P).1 : Int) = (P.1 : Int) + grw S z := by
  have hn := h.1.1
  obtain ⟨a1, a2, a3⟩ := do_ok hok hn hz z P (Nat.le_refl z) (h.1.up (by omega)) h.2 (by omega) hok.2.2
  exact ⟨⟨a1.up (by omega), a2⟩, a3⟩
theorem okS_0 {S : Nat → ED} {n : Nat} : okS S 0 n := ⟨fun i h => by omega, fun i j _ h => by omega, fun i h => by omega⟩
theorem wf_type {X : XS} (h : wfX X) (b : Int) : wfX (oType X b).2 := by
  obtain ⟨h1, h2, h3⟩ := h
  simp only [oType]
  by_cases e1 : b < 0 ∨ 255 < b
  · rw [if_pos e1]; exact ⟨h1, h2, h3⟩
  · rw [if_neg e1]
    by_cases e2 : 24 ≤ X.2.1.1
    · rw [if_pos e2]; exact ⟨h1, h2, h3⟩
    · rw [if_neg e2]
      refine ⟨h1, ⟨by simp only []; omega, fun j hj => ?_⟩, h3⟩
      simp only [] at hj ⊢
      by_cases e : j = X.2.1.1
      · rw [e, va_up_self]; omega
      · rw [va_up_ne _ _ e]; exact h2.2 j (by omega)
theorem wf_clear {X : XS} (h : wfX X) : wfX (oClear X).2 := ⟨h.1, ⟨Nat.zero_le _, fun j hj => absurd hj (Nat.not_lt_zero j)⟩, h.2.2⟩
theorem wf_push {Hs : Nat → PG} {y : Nat} {P : PG} (h : ∀ i, i < y → wfm (Hs i)) (hP : wfm P) : ∀ i, i < min (y + 1) 8 → wfm (pushH Hs P i) := fun i hi => by
  simp only [pushH]
  by_cases e : i = 0
  · rw [if_pos e]; exact hP
  · rw [if_neg e]; exact h _ (by omega)
theorem wf_edits {X : XS} (h : wfX X) (x k : Int) : wfX (oEdits X x k).2 := by
  obtain ⟨h1, h2, h3, h4, h5, h6, h7⟩ := id h
  simp only [oEdits]
  by_cases e1 : ¬ isSt X x k
  · rw [if_pos e1]; exact h
  · rw [if_neg e1]
    have e1 := Classical.not_not.mp e1
    obtain ⟨a1, a2, a3, a4⟩ := e1
    by_cases e2 : 0 < X.2.2.1.2
    · rw [if_pos e2]; exact h
    · rw [if_neg e2]
      by_cases e3 : 120 < (X.1.1 : Int) - k + X.2.1.1
      · rw [if_pos e3]; exact h
      · rw [if_neg e3]
        have hz : X.2.2.1.2 = 0 := by omega
        exact ⟨wfm_ed h1 (by omega) h2.1 h2.2 (by omega), ⟨Nat.zero_le _, fun j hj => absurd hj (Nat.not_lt_zero j)⟩, by simp only []; rw [hz]; exact okS_0, h4, wf_push h5 h1, by simp only []; omega, h7⟩
theorem wf_stages {X : XS} (h : wfX X) (x k : Int) : wfX (oStages X x k).2 := by
  obtain ⟨h1, h2, h3, h4, h5, h6, h7⟩ := id h
  simp only [oStages]
  by_cases e1 : ¬ isSt X x k
  · rw [if_pos e1]; exact h
  · rw [if_neg e1]
    have e1 := Classical.not_not.mp e1
    obtain ⟨a1, a2, a3, a4⟩ := e1
    by_cases e2 : tch X.2.2.1.1 x k X.2.2.1.2 = true
    · rw [if_pos e2]; exact h
    · rw [if_neg e2]
      by_cases e3 : 4 ≤ X.2.2.1.2
      · rw [if_pos e3]; exact h
      · rw [if_neg e3]
        have ho := h3.ins (E := (x.toNat, k.toNat, X.2.1.1, X.2.1.2)) h2 (by simp only []; omega) (fun i hi hm => e2 ((tch_iff _ _ _ _).mpr ⟨i, hi, by
          simp only [mts] at hm ⊢
          omega⟩))
        simp only [] at ho
        rw [show ((x.toNat : Nat) : Int) = x by omega] at ho
        exact ⟨h1, ⟨Nat.zero_le _, fun j hj => absurd hj (Nat.not_lt_zero j)⟩, ho, by simp only []; omega, h5, h6, h7⟩
theorem wf_does {X : XS} (h : wfX X) : wfX (oDoes X).2 := by
  obtain ⟨h1, h2, h3, h4, h5, h6, h7⟩ := id h
  simp only [oDoes]
  by_cases e1 : X.2.2.1.2 = 0
  · rw [if_pos e1]; exact h
  · rw [if_neg e1]
    by_cases e2 : 120 < (X.1.1 : Int) + grw X.2.2.1.1 X.2.2.1.2
    · rw [if_pos e2]; exact h
    · rw [if_neg e2]
      exact ⟨(wfm_do h1 h3 h4 (by omega)).1, h2, okS_0, Nat.zero_le _, wf_push h5 h1, by simp only []; omega, h7⟩
theorem wf_drops {X : XS} (h : wfX X) : wfX (oDrops X).2 := ⟨h.1, h.2.1, okS_0, Nat.zero_le _, h.2.2.2.2⟩
theorem wf_undo {X : XS} (h : wfX X) : wfX (oUndo X).2 := by
  obtain ⟨h1, h2, h3, h4, h5, h6, h7⟩ := id h
  simp only [oUndo]
  by_cases e1 : X.2.2.2.1.2 = 0 ∨ 0 < X.2.2.1.2
  · rw [if_pos e1]; exact h
  · rw [if_neg e1]
    have hz : X.2.2.1.2 = 0 := by omega
    exact ⟨h5 0 (by omega), h2, by simp only []; rw [hz]; exact okS_0, h4, fun i hi => h5 (i + 1) (by simp only [] at hi; omega), by simp only []; omega, h7⟩
theorem wf_setMk {X : XS} (h : wfX X) {i : Nat} {v : Int} (hi : i < 26) (hv : v = -9 ∨ (0 ≤ v ∧ v ≤ X.1.1)) (hm : mcnt (va_up X.1.2.2.2.2.1 i v) 26 ≤ 8) : wfX (setMk X i v) := by
  obtain ⟨⟨⟨b1, b2, b3, b4, b5, b6⟩, h1⟩, h2⟩ := h
  refine ⟨⟨⟨b1, b2, b3, b4, fun j hj => ?_, b6⟩, hm⟩, h2⟩
  simp only [setMk]
  by_cases e : j = i
  · rw [e, va_up_self]; exact hv
  · rw [va_up_ne _ _ e]; exact b5 j hj
theorem mcnt_up {mk : Nat → Int} {i : Nat} {v : Int} : ∀ j, mcnt (va_up mk i v) j ≤ mcnt mk j + (if mk i = -9 then 1 else 0) ∧ (v = -9 → mcnt (va_up mk i v) j ≤ mcnt mk j)
  | 0 => ⟨by simp only [mcnt]; split <;> omega, fun _ => Int.le_refl _⟩
  | j + 1 => by
    by_cases e : j = i
    · subst e
      have h1 : mcnt (va_up mk j v) j = mcnt mk j := mcnt_congr (fun a ha => by rw [va_up_ne _ _ (by omega)])
      simp only [mcnt]
      rw [h1, va_up_self]
      constructor
      · split <;> split <;> omega
      · intro hv
        rw [if_pos hv]; split <;> omega
    · have h1 := mcnt_up (mk := mk) (i := i) (v := v) j
      simp only [mcnt]
      rw [va_up_ne _ _ e]
      exact ⟨by have := h1.1; omega, fun hv => by have := h1.2 hv; omega⟩
theorem wf_marks {X : XS} (h : wfX X) (a x : Int) : wfX (oMarks X a x).2 := by
  simp only [oMarks]
  by_cases e1 : ¬ isNm a ∨ ¬ isPl X x
  · rw [if_pos e1]; exact h
  · rw [if_neg e1]
    by_cases e2 : X.1.2.2.2.2.1 (a - 97).toNat = -9 ∧ 8 ≤ mcnt X.1.2.2.2.2.1 26
    · rw [if_pos e2]; exact h
    · rw [if_neg e2]
      simp only [isNm, isPl] at e1
      have h8 := h.1.2
      refine wf_setMk h (by omega) (Or.inr (by omega)) ?_
      have := (mcnt_up (mk := X.1.2.2.2.2.1) (i := (a - 97).toNat) (v := x) 26).1
      by_cases e3 : X.1.2.2.2.2.1 (a - 97).toNat = -9
      · rw [if_pos e3] at this; omega
      · rw [if_neg e3] at this; omega
theorem wf_lifts {X : XS} (h : wfX X) (a : Int) : wfX (oLifts X a).2 := by
  simp only [oLifts]
  by_cases e1 : ¬ isNm a
  · rw [if_pos e1]; exact h
  · rw [if_neg e1]
    by_cases e2 : X.1.2.2.2.2.1 (a - 97).toNat = -9
    · rw [if_pos e2]; exact h
    · rw [if_neg e2]
      simp only [isNm] at e1
      have h8 := h.1.2
      have := (mcnt_up (mk := X.1.2.2.2.2.1) (i := (a - 97).toNat) (v := -9) 26).2 rfl
      exact wf_setMk h (by omega) (Or.inl rfl) (by omega)
theorem wf_setRd {X : XS} (h : wfX X) {v : Int} (hv : 0 ≤ v ∧ v ≤ X.1.1) : wfX (setRd X v) := by
  obtain ⟨⟨⟨b1, b2, b3, b4, b5, b6⟩, h1⟩, h2⟩ := h
  exact ⟨⟨⟨b1, b2, b3, b4, b5, hv⟩, h1⟩, h2⟩
theorem wf_seeks {X : XS} (h : wfX X) (x : Int) : wfX (oSeeks X x).2 := by
  simp only [oSeeks]
  by_cases e1 : ¬ isPl X x
  · rw [if_pos e1]; exact h
  · rw [if_neg e1]; exact wf_setRd h (Classical.not_not.mp e1)
theorem wf_reads {X : XS} (h : wfX X) : wfX (oReads X).2 := by
  simp only [oReads]
  by_cases e1 : (X.1.1 : Int) ≤ X.1.2.2.2.2.2
  · rw [if_pos e1]; exact h
  · rw [if_neg e1]
    have h1 := skp_in X.1.2.1 (X.1.1 - (X.1.2.2.2.2.2.toNat + 1)) (X.1.2.2.2.2.2.toNat + 1)
    have h2 := h.1.1.2.2.2.2.2.1
    exact wf_setRd h (by omega)
theorem wf_keep {X : XS} (h : wfX X) (i : Int) : wfX (oKeep X i).2 := by
  simp only [oKeep]
  by_cases e1 : i < 0 ∨ 2 ≤ i
  · rw [if_pos e1]; exact h
  · rw [if_neg e1]
    refine ⟨h.1, h.2.1, h.2.2.1, h.2.2.2.1, h.2.2.2.2.1, h.2.2.2.2.2.1, fun j Q hj => ?_⟩
    simp only [] at hj
    by_cases e : j = i.toNat
    · rw [e, va_up_self] at hj; cases hj; exact h.1
    · rw [va_up_ne _ _ e] at hj; exact h.2.2.2.2.2.2 j Q hj
theorem wf_back {X : XS} (h : wfX X) (i : Int) : wfX (oBack X i).2 := by
  simp only [oBack]
  by_cases e1 : i < 0 ∨ 2 ≤ i
  · rw [if_pos e1]; exact h
  · rw [if_neg e1]
    cases e : X.2.2.2.2 i.toNat with
    | none => exact h
    | some Q => exact ⟨h.2.2.2.2.2.2 _ Q e, h.2.1, okS_0, Nat.zero_le _, fun j hj => absurd hj (Nat.not_lt_zero j), Nat.zero_le _, h.2.2.2.2.2.2⟩
