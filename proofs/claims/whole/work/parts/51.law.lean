/-! ===== the law: rules of its own ===== -/
/-! the room's own numbers are the Statement's (a meter's: they differ from one TURN to the next); all that is used of them stands in these two rows -/
theorem le_rc {q : Nat} (h : q ≤ 200000) : q ≤ room_1.cells := Nat.le_trans h (by decide +kernel)
theorem le_rn {q : Nat} (h : q ≤ 2000000) : q ≤ room_1.slots := Nat.le_trans h (by decide +kernel)
def mL (nm : String) : MI := (⟨RL, nm, "([I)Z"⟩, cL_law, 4, ret, 0, 0)
def lwEX (b L : Nat) (xs : Nat → Int32) : State → Array Value → Prop := fun s args => args = #[Value.ref b] ∧ va_X b L xs s s.heap ∧ b < s.heap.size
def lwG (b : Nat) : qG := fun _ below _ s => lw_Z below #[Value.ref b] s
abbrev LV (l : Launch) (nm : String) (b L : Nat) (xs : Nat → Int32) (sz0 : Nat) (k n : Nat) (h : qH) (sz : Nat) (pc : Nat) (Lo : List (Option Value)) (st : List Value) : Prop := qV l (mL nm) room_1 (lwEX b L xs) (lwG b) (fun _ => none) sz0 k n h sz pc Lo st
theorem RInv.obj {h : qH} {r : Nat} {X : XS} (a : RInv h r X) : h r = some (rob r X.2.2.2.1.2 X.2.1.1 X.2.2.1.2) := by
  obtain ⟨s, pa, im, kp, ta, pl, tk, tp, td, a1, -⟩ := a
  exact a1.1
theorem sI (x : Int32) : iR x.toInt := ⟨by have := Int32.le_toInt x; omega, by have := Int32.toInt_lt x; omega⟩
section LAW
variable {l : Launch} {nm : String} {b L : Nat} {xs : Nat → Int32} {sz0 k n : Nat} {h : qH} {sz pc : Nat} {Lo : List (Option Value)} {st : List Value}
theorem qV_slen (hd : decode (mL nm).2.1 pc = .ok (.arraylength, 1)) (kk : LV l nm b L xs sz0 k n h sz (pc + 1) Lo (vI L :: st)) : LV l nm b L xs sz0 k n h sz pc Lo (.ref b :: st) := by
  intro D p e s m args below meth c H locs ls hF hK hE hz hR hS hA hL
  obtain ⟨h1, h2, h3⟩ := id hE
  have hbA : ¬ qA (fun _ => none) sz0 b := fun q => q.elim (fun y => y rfl) (fun y => by omega)
  refine va_slen hF.1 hF.2.1 h2 h3 hbA hS hd ?_
  rw [← Int32.ofInt_eq_ofNat]
  exact kk D p e s m args below meth c H locs ls hF hK hE hz hR hS hA hL
theorem qV_sld {z : Int} (q : Nat) (hd : decode (mL nm).2.1 pc = .ok (.iaload, 1)) (hz : z = q) (hq : q < L ∧ L ≤ 2048) (kk : LV l nm b L xs sz0 k n h sz (pc + 1) Lo (vI (xs q).toInt :: st)) : LV l nm b L xs sz0 k n h sz pc Lo (vI z :: .ref b :: st) := by
  intro D p e s m args below meth c H locs ls hF hK hE hz' hR hS hA hL
  obtain ⟨h1, h2, h3⟩ := id hE
  have hbA : ¬ qA (fun _ => none) sz0 b := fun q => q.elim (fun y => y rfl) (fun y => by omega)
  refine va_sld hF.1 hF.2.1 h2 h3 hbA hS (iR_in (N := L) (z := z) ⟨by omega, by omega, by omega⟩) hd ?_
  rw [iR_cl ⟨by omega, by omega⟩, show z.toNat = q by omega]
  have kk := kk D p e s m args below meth c H locs ls hF hK hE hz' hR hS hA hL
  simp only [vI] at kk
  rw [Int32.ofInt_toInt] at kk
  exact kk
theorem qV_and31 {a : Int} (hd : decode (mL nm).2.1 pc = .ok (.iand, 1)) (kk : ∀ t : Nat, t < 32 → LV l nm b L xs sz0 k n h sz (pc + 1) Lo (vI (t : Int) :: st)) : LV l nm b L xs sz0 k n h sz pc Lo (vI 31 :: vI a :: st) := by
  obtain ⟨t, ht, e9⟩ := pk_andE (Int32.ofInt a) (m := Int32.ofInt 31) 5 (by decide)
  have kk := kk t ht
  intro D p e s m args below meth c H locs ls hF hK hE hz' hR hS hA hL
  refine lv_iand hF.1 hF.2.1 hd ?_
  have kk := kk D p e s m args below meth c H locs ls hF hK hE hz' hR hS hA hL
  simp only [vI] at kk
  rw [Int32.ofInt_eq_ofNat] at kk
  rw [e9]
  exact kk
theorem qV_lcmpS {z : Int} (hd : decode (mL nm).2.1 pc = .ok (.lcmp, 1)) (kk : LV l nm b L xs sz0 k n h sz (pc + 1) Lo (vI 0 :: st)) : LV l nm b L xs sz0 k n h sz pc Lo (vL z :: vL z :: st) := by
  intro D p e s m args below meth c H locs ls hF hK hE hz' hR hS hA hL
  refine W.lcmp hF.1 hF.2.1 hd ?_
  have e1 : lg_cmp (Int64.ofInt z) (Int64.ofInt z) = Int32.ofInt 0 := by
    unfold lg_cmp
    rw [if_neg (by simp), if_pos rfl]
    rfl
  rw [e1]
  exact kk D p e s m args below meth c H locs ls hF hK hE hz' hR hS hA hL
theorem qV_lawret (hd : decode (mL nm).2.1 pc = .ok (.ireturn, 1)) (hk : k ≤ 200000) (hn : n ≤ 2000000) : LV l nm b L xs sz0 k n h sz pc Lo [vI 1] := by
  intro D p e s m args below meth c H locs ls hF hK hE hz' hR hS hA hL
  obtain ⟨rfl, h2, h3⟩ := id hE
  refine W.widen (le_rc hk) (le_rn hn) ?_
  refine va_forget (fun q hq => ?_) ?_
  · exact (hS.2.2 q hq).elim (fun y => absurd rfl y) (fun y => by omega)
  · exact lw_ret hF.1 hF.2.1 hF.2.2.2.2.2.1 hF.2.2.2.2.2.2.1 hd
variable {v : Nat} {X : XS} {i : Int} {j : Nat}
set_option maxRecDepth 100000 in
set_option maxHeartbeats 4000000 in
theorem lc_type (hi : i = ((4 * j : Nat) : Int)) (hj : 4 * j + 4 ≤ L) (hL : L ≤ 2048) (hk : k ≤ 100000) (hn : n ≤ 1000000) (hI : CInv h sz v X) (hR : RInv h (v + 96) X) (wx : wfX X) (nx : ∀ (k' n' : Nat) (h' : qH) (sz' : Nat) (X' : XS), k' ≤ k + 7 → n' ≤ n + 276 → CInv h' sz' v X' → RInv h' (v + 96) X' → wfX X' → LV l nm b L xs sz0 k' n' h' sz' 727 [some (.ref b), some (.ref v), some (.ref (v + 96)), some (vI i)] []) : LV l nm b L xs sz0 k n h sz 144 [some (.ref b), some (.ref v), some (.ref (v + 96)), some (vI i)] [] := by
  refine qV_aload_n (pc := 144) 1 dL_law_144 rfl rfl ?_
  refine qV_aload_n (pc := 145) 0 dL_law_145 rfl rfl ?_
  refine qV_iload_n (pc := 146) 3 dL_law_146 rfl rfl ?_
  refine qV_iconst (pc := 147) dL_law_147 ?_
  refine qV_iadd (pc := 148) dL_law_148 ?_
  refine qV_sld (pc := 149) (4 * j + 1) dL_law_149 (by omega) (by omega) ?_
  refine qV_rtV (pc := 150) (v_type (sI _) hI wx) nX6_type kX6 lk_L_13 dL_law_150 hI.1 ⟨le_b rfl, le_b rfl⟩ ⟨by exact le_rc (by omega), by exact le_rn (by omega)⟩ rfl (le_b rfl) ?_
  rintro w h2 sz2 ⟨rfl, hI2, hK2, rfl⟩
  have hR2 := hR.fr (fun q h1 h2 => hK2 q h1 (by omega))
  have hob := hR2.obj
  refine qV_aload_n (pc := 153) 2 dL_law_153 rfl rfl ?_
  refine qV_aload_n (pc := 154) 0 dL_law_154 rfl rfl ?_
  refine qV_iload_n (pc := 155) 3 dL_law_155 rfl rfl ?_
  refine qV_iconst (pc := 156) dL_law_156 ?_
  refine qV_iadd (pc := 157) dL_law_157 ?_
  refine qV_sld (pc := 158) (4 * j + 1) dL_law_158 (by omega) (by omega) ?_
  refine qV_rtV (pc := 159) (r_type (sI _) hR2 wx) nX7_type kX7 lk_L_17 dL_law_159 hob ⟨le_b rfl, le_b rfl⟩ ⟨by exact le_rc (by omega), by exact le_rn (by omega)⟩ rfl (le_b rfl) ?_
  rintro w h3 sz3 ⟨rfl, hR3, f3, rfl⟩
  have hI3 := hI2.fr (f3.wide (by omega) (by omega))
  refine qV_same (pc := 162) 727 rfl dL_law_162 (by decide) ?_
  exact nx _ _ _ _ _ (by omega) (by omega) hI3 hR3 (wf_type wx _)
set_option maxRecDepth 100000 in
set_option maxHeartbeats 4000000 in
theorem lc_clear (hi : i = ((4 * j : Nat) : Int)) (hj : 4 * j + 4 ≤ L) (hL : L ≤ 2048) (hk : k ≤ 100000) (hn : n ≤ 1000000) (hI : CInv h sz v X) (hR : RInv h (v + 96) X) (wx : wfX X) (nx : ∀ (k' n' : Nat) (h' : qH) (sz' : Nat) (X' : XS), k' ≤ k + 7 → n' ≤ n + 276 → CInv h' sz' v X' → RInv h' (v + 96) X' → wfX X' → LV l nm b L xs sz0 k' n' h' sz' 727 [some (.ref b), some (.ref v), some (.ref (v + 96)), some (vI i)] []) : LV l nm b L xs sz0 k n h sz 167 [some (.ref b), some (.ref v), some (.ref (v + 96)), some (vI i)] [] := by
  refine qV_aload_n (pc := 167) 1 dL_law_167 rfl rfl ?_
  refine qV_rtV (pc := 168) (v_clear  hI wx) nX6_clear kX6 lk_L_18 dL_law_168 hI.1 ⟨le_b rfl, le_b rfl⟩ ⟨by exact le_rc (by omega), by exact le_rn (by omega)⟩ rfl (le_b rfl) ?_
  rintro w h2 sz2 ⟨rfl, hI2, hK2, rfl⟩
  have hR2 := hR.fr (fun q h1 h2 => hK2 q h1 (by omega))
  have hob := hR2.obj
  refine qV_aload_n (pc := 171) 2 dL_law_171 rfl rfl ?_
  refine qV_rtV (pc := 172) (r_clear  hR2 wx) nX7_clear kX7 lk_L_22 dL_law_172 hob ⟨le_b rfl, le_b rfl⟩ ⟨by exact le_rc (by omega), by exact le_rn (by omega)⟩ rfl (le_b rfl) ?_
  rintro w h3 sz3 ⟨rfl, hR3, f3, rfl⟩
  have hI3 := hI2.fr (f3.wide (by omega) (by omega))
  refine qV_same (pc := 175) 727 rfl dL_law_175 (by decide) ?_
  exact nx _ _ _ _ _ (by omega) (by omega) hI3 hR3 (wf_clear wx)
set_option maxRecDepth 100000 in
set_option maxHeartbeats 4000000 in
theorem lc_edits (hi : i = ((4 * j : Nat) : Int)) (hj : 4 * j + 4 ≤ L) (hL : L ≤ 2048) (hk : k ≤ 100000) (hn : n ≤ 1000000) (hI : CInv h sz v X) (hR : RInv h (v + 96) X) (wx : wfX X) (nx : ∀ (k' n' : Nat) (h' : qH) (sz' : Nat) (X' : XS), k' ≤ k + 7 → n' ≤ n + 276 → CInv h' sz' v X' → RInv h' (v + 96) X' → wfX X' → LV l nm b L xs sz0 k' n' h' sz' 727 [some (.ref b), some (.ref v), some (.ref (v + 96)), some (vI i)] []) : LV l nm b L xs sz0 k n h sz 180 [some (.ref b), some (.ref v), some (.ref (v + 96)), some (vI i)] [] := by
  refine qV_aload_n (pc := 180) 1 dL_law_180 rfl rfl ?_
  refine qV_aload_n (pc := 181) 0 dL_law_181 rfl rfl ?_
  refine qV_iload_n (pc := 182) 3 dL_law_182 rfl rfl ?_
  refine qV_iconst (pc := 183) dL_law_183 ?_
  refine qV_iadd (pc := 184) dL_law_184 ?_
  refine qV_sld (pc := 185) (4 * j + 1) dL_law_185 (by omega) (by omega) ?_
  refine qV_aload_n (pc := 186) 0 dL_law_186 rfl rfl ?_
  refine qV_iload_n (pc := 187) 3 dL_law_187 rfl rfl ?_
  refine qV_iconst (pc := 188) dL_law_188 ?_
  refine qV_iadd (pc := 189) dL_law_189 ?_
  refine qV_sld (pc := 190) (4 * j + 2) dL_law_190 (by omega) (by omega) ?_
  refine qV_rtV (pc := 191) (v_edits (sI _) (sI _) hI wx) nX6_edits kX6 lk_L_23 dL_law_191 hI.1 ⟨le_b rfl, le_b rfl⟩ ⟨by exact le_rc (by omega), by exact le_rn (by omega)⟩ rfl (le_b rfl) ?_
  rintro w h2 sz2 ⟨rfl, hI2, hK2, rfl⟩
  have hR2 := hR.fr (fun q h1 h2 => hK2 q h1 (by omega))
  have hob := hR2.obj
  refine qV_aload_n (pc := 194) 2 dL_law_194 rfl rfl ?_
  refine qV_aload_n (pc := 195) 0 dL_law_195 rfl rfl ?_
  refine qV_iload_n (pc := 196) 3 dL_law_196 rfl rfl ?_
  refine qV_iconst (pc := 197) dL_law_197 ?_
  refine qV_iadd (pc := 198) dL_law_198 ?_
  refine qV_sld (pc := 199) (4 * j + 1) dL_law_199 (by omega) (by omega) ?_
  refine qV_aload_n (pc := 200) 0 dL_law_200 rfl rfl ?_
  refine qV_iload_n (pc := 201) 3 dL_law_201 rfl rfl ?_
  refine qV_iconst (pc := 202) dL_law_202 ?_
  refine qV_iadd (pc := 203) dL_law_203 ?_
  refine qV_sld (pc := 204) (4 * j + 2) dL_law_204 (by omega) (by omega) ?_
  refine qV_rtV (pc := 205) (r_edits (sI _) (sI _) hR2 wx) nX7_edits kX7 lk_L_27 dL_law_205 hob ⟨le_b rfl, le_b rfl⟩ ⟨by exact le_rc (by omega), by exact le_rn (by omega)⟩ rfl (le_b rfl) ?_
  rintro w h3 sz3 ⟨rfl, hR3, f3, rfl⟩
  have hI3 := hI2.fr (f3.wide (by omega) (by omega))
  refine qV_same (pc := 208) 727 rfl dL_law_208 (by decide) ?_
  exact nx _ _ _ _ _ (by omega) (by omega) hI3 hR3 (wf_edits wx _ _)
set_option maxRecDepth 100000 in
set_option maxHeartbeats 4000000 in
theorem lc_stages (hi : i = ((4 * j : Nat) : Int)) (hj : 4 * j + 4 ≤ L) (hL : L ≤ 2048) (hk : k ≤ 100000) (hn : n ≤ 1000000) (hI : CInv h sz v X) (hR : RInv h (v + 96) X) (wx : wfX X) (nx : ∀ (k' n' : Nat) (h' : qH) (sz' : Nat) (X' : XS), k' ≤ k + 7 → n' ≤ n + 276 → CInv h' sz' v X' → RInv h' (v + 96) X' → wfX X' → LV l nm b L xs sz0 k' n' h' sz' 727 [some (.ref b), some (.ref v), some (.ref (v + 96)), some (vI i)] []) : LV l nm b L xs sz0 k n h sz 213 [some (.ref b), some (.ref v), some (.ref (v + 96)), some (vI i)] [] := by
  refine qV_aload_n (pc := 213) 1 dL_law_213 rfl rfl ?_
  refine qV_aload_n (pc := 214) 0 dL_law_214 rfl rfl ?_
  refine qV_iload_n (pc := 215) 3 dL_law_215 rfl rfl ?_
  refine qV_iconst (pc := 216) dL_law_216 ?_
  refine qV_iadd (pc := 217) dL_law_217 ?_
  refine qV_sld (pc := 218) (4 * j + 1) dL_law_218 (by omega) (by omega) ?_
  refine qV_aload_n (pc := 219) 0 dL_law_219 rfl rfl ?_
  refine qV_iload_n (pc := 220) 3 dL_law_220 rfl rfl ?_
  refine qV_iconst (pc := 221) dL_law_221 ?_
  refine qV_iadd (pc := 222) dL_law_222 ?_
  refine qV_sld (pc := 223) (4 * j + 2) dL_law_223 (by omega) (by omega) ?_
  refine qV_rtV (pc := 224) (v_stages (sI _) (sI _) hI wx) nX6_stages kX6 lk_L_28 dL_law_224 hI.1 ⟨le_b rfl, le_b rfl⟩ ⟨by exact le_rc (by omega), by exact le_rn (by omega)⟩ rfl (le_b rfl) ?_
  rintro w h2 sz2 ⟨rfl, hI2, hK2, rfl⟩
  have hR2 := hR.fr (fun q h1 h2 => hK2 q h1 (by omega))
  have hob := hR2.obj
  refine qV_aload_n (pc := 227) 2 dL_law_227 rfl rfl ?_
  refine qV_aload_n (pc := 228) 0 dL_law_228 rfl rfl ?_
  refine qV_iload_n (pc := 229) 3 dL_law_229 rfl rfl ?_
  refine qV_iconst (pc := 230) dL_law_230 ?_
  refine qV_iadd (pc := 231) dL_law_231 ?_
  refine qV_sld (pc := 232) (4 * j + 1) dL_law_232 (by omega) (by omega) ?_
  refine qV_aload_n (pc := 233) 0 dL_law_233 rfl rfl ?_
  refine qV_iload_n (pc := 234) 3 dL_law_234 rfl rfl ?_
  refine qV_iconst (pc := 235) dL_law_235 ?_
  refine qV_iadd (pc := 236) dL_law_236 ?_
  refine qV_sld (pc := 237) (4 * j + 2) dL_law_237 (by omega) (by omega) ?_
  refine qV_rtV (pc := 238) (r_stages (sI _) (sI _) hR2 wx) nX7_stages kX7 lk_L_31 dL_law_238 hob ⟨le_b rfl, le_b rfl⟩ ⟨by exact le_rc (by omega), by exact le_rn (by omega)⟩ rfl (le_b rfl) ?_
  rintro w h3 sz3 ⟨rfl, hR3, f3, rfl⟩
  have hI3 := hI2.fr (f3.wide (by omega) (by omega))
  refine qV_same (pc := 241) 727 rfl dL_law_241 (by decide) ?_
  exact nx _ _ _ _ _ (by omega) (by omega) hI3 hR3 (wf_stages wx _ _)
set_option maxRecDepth 100000 in
set_option maxHeartbeats 4000000 in
theorem lc_does (hi : i = ((4 * j : Nat) : Int)) (hj : 4 * j + 4 ≤ L) (hL : L ≤ 2048) (hk : k ≤ 100000) (hn : n ≤ 1000000) (hI : CInv h sz v X) (hR : RInv h (v + 96) X) (wx : wfX X) (nx : ∀ (k' n' : Nat) (h' : qH) (sz' : Nat) (X' : XS), k' ≤ k + 7 → n' ≤ n + 276 → CInv h' sz' v X' → RInv h' (v + 96) X' → wfX X' → LV l nm b L xs sz0 k' n' h' sz' 727 [some (.ref b), some (.ref v), some (.ref (v + 96)), some (vI i)] []) : LV l nm b L xs sz0 k n h sz 246 [some (.ref b), some (.ref v), some (.ref (v + 96)), some (vI i)] [] := by
  refine qV_aload_n (pc := 246) 1 dL_law_246 rfl rfl ?_
  refine qV_rtV (pc := 247) (v_does  hI wx) nX6_does kX6 lk_L_32 dL_law_247 hI.1 ⟨le_b rfl, le_b rfl⟩ ⟨by exact le_rc (by omega), by exact le_rn (by omega)⟩ rfl (le_b rfl) ?_
  rintro w h2 sz2 ⟨rfl, hI2, hK2, rfl⟩
  have hR2 := hR.fr (fun q h1 h2 => hK2 q h1 (by omega))
  have hob := hR2.obj
  refine qV_aload_n (pc := 250) 2 dL_law_250 rfl rfl ?_
  refine qV_rtV (pc := 251) (r_does  hR2 wx) nX7_does kX7 lk_L_35 dL_law_251 hob ⟨le_b rfl, le_b rfl⟩ ⟨by exact le_rc (by omega), by exact le_rn (by omega)⟩ rfl (le_b rfl) ?_
  rintro w h3 sz3 ⟨rfl, hR3, f3, rfl⟩
  have hI3 := hI2.fr (f3.wide (by omega) (by omega))
  refine qV_same (pc := 254) 727 rfl dL_law_254 (by decide) ?_
  exact nx _ _ _ _ _ (by omega) (by omega) hI3 hR3 (wf_does wx)
set_option maxRecDepth 100000 in
set_option maxHeartbeats 4000000 in
theorem lc_drops (hi : i = ((4 * j : Nat) : Int)) (hj : 4 * j + 4 ≤ L) (hL : L ≤ 2048) (hk : k ≤ 100000) (hn : n ≤ 1000000) (hI : CInv h sz v X) (hR : RInv h (v + 96) X) (wx : wfX X) (nx : ∀ (k' n' : Nat) (h' : qH) (sz' : Nat) (X' : XS), k' ≤ k + 7 → n' ≤ n + 276 → CInv h' sz' v X' → RInv h' (v + 96) X' → wfX X' → LV l nm b L xs sz0 k' n' h' sz' 727 [some (.ref b), some (.ref v), some (.ref (v + 96)), some (vI i)] []) : LV l nm b L xs sz0 k n h sz 259 [some (.ref b), some (.ref v), some (.ref (v + 96)), some (vI i)] [] := by
  refine qV_aload_n (pc := 259) 1 dL_law_259 rfl rfl ?_
  refine qV_rtV (pc := 260) (v_drops  hI wx) nX6_drops kX6 lk_L_36 dL_law_260 hI.1 ⟨le_b rfl, le_b rfl⟩ ⟨by exact le_rc (by omega), by exact le_rn (by omega)⟩ rfl (le_b rfl) ?_
  rintro w h2 sz2 ⟨rfl, hI2, hK2, rfl⟩
  have hR2 := hR.fr (fun q h1 h2 => hK2 q h1 (by omega))
  have hob := hR2.obj
  refine qV_aload_n (pc := 263) 2 dL_law_263 rfl rfl ?_
  refine qV_rtV (pc := 264) (r_drops  hR2 wx) nX7_drops kX7 lk_L_39 dL_law_264 hob ⟨le_b rfl, le_b rfl⟩ ⟨by exact le_rc (by omega), by exact le_rn (by omega)⟩ rfl (le_b rfl) ?_
  rintro w h3 sz3 ⟨rfl, hR3, f3, rfl⟩
  have hI3 := hI2.fr (f3.wide (by omega) (by omega))
  refine qV_same (pc := 267) 727 rfl dL_law_267 (by decide) ?_
  exact nx _ _ _ _ _ (by omega) (by omega) hI3 hR3 (wf_drops wx)
set_option maxRecDepth 100000 in
set_option maxHeartbeats 4000000 in
theorem lc_undo (hi : i = ((4 * j : Nat) : Int)) (hj : 4 * j + 4 ≤ L) (hL : L ≤ 2048) (hk : k ≤ 100000) (hn : n ≤ 1000000) (hI : CInv h sz v X) (hR : RInv h (v + 96) X) (wx : wfX X) (nx : ∀ (k' n' : Nat) (h' : qH) (sz' : Nat) (X' : XS), k' ≤ k + 7 → n' ≤ n + 276 → CInv h' sz' v X' → RInv h' (v + 96) X' → wfX X' → LV l nm b L xs sz0 k' n' h' sz' 727 [some (.ref b), some (.ref v), some (.ref (v + 96)), some (vI i)] []) : LV l nm b L xs sz0 k n h sz 272 [some (.ref b), some (.ref v), some (.ref (v + 96)), some (vI i)] [] := by
  refine qV_aload_n (pc := 272) 1 dL_law_272 rfl rfl ?_
  refine qV_rtV (pc := 273) (v_undo  hI wx) nX6_undo kX6 lk_L_40 dL_law_273 hI.1 ⟨le_b rfl, le_b rfl⟩ ⟨by exact le_rc (by omega), by exact le_rn (by omega)⟩ rfl (le_b rfl) ?_
  rintro w h2 sz2 ⟨rfl, hI2, hK2, rfl⟩
  have hR2 := hR.fr (fun q h1 h2 => hK2 q h1 (by omega))
  have hob := hR2.obj
  refine qV_aload_n (pc := 276) 2 dL_law_276 rfl rfl ?_
  refine qV_rtV (pc := 277) (r_undo  hR2 wx) nX7_undo kX7 lk_L_43 dL_law_277 hob ⟨le_b rfl, le_b rfl⟩ ⟨by exact le_rc (by omega), by exact le_rn (by omega)⟩ rfl (le_b rfl) ?_
  rintro w h3 sz3 ⟨rfl, hR3, f3, rfl⟩
  have hI3 := hI2.fr (f3.wide (by omega) (by omega))
  refine qV_same (pc := 280) 727 rfl dL_law_280 (by decide) ?_
  exact nx _ _ _ _ _ (by omega) (by omega) hI3 hR3 (wf_undo wx)
set_option maxRecDepth 100000 in
set_option maxHeartbeats 4000000 in
theorem lc_at (hi : i = ((4 * j : Nat) : Int)) (hj : 4 * j + 4 ≤ L) (hL : L ≤ 2048) (hk : k ≤ 100000) (hn : n ≤ 1000000) (hI : CInv h sz v X) (hR : RInv h (v + 96) X) (wx : wfX X) (nx : ∀ (k' n' : Nat) (h' : qH) (sz' : Nat) (X' : XS), k' ≤ k + 7 → n' ≤ n + 276 → CInv h' sz' v X' → RInv h' (v + 96) X' → wfX X' → LV l nm b L xs sz0 k' n' h' sz' 727 [some (.ref b), some (.ref v), some (.ref (v + 96)), some (vI i)] []) : LV l nm b L xs sz0 k n h sz 285 [some (.ref b), some (.ref v), some (.ref (v + 96)), some (vI i)] [] := by
  obtain ⟨s, pa, im, kp, ta, pl, tk, tp, td, hH, hP, -⟩ := id hR
  have hob := hR.obj
  refine qV_aload_n (pc := 285) 1 dL_law_285 rfl rfl ?_
  refine qV_aload_n (pc := 286) 0 dL_law_286 rfl rfl ?_
  refine qV_iload_n (pc := 287) 3 dL_law_287 rfl rfl ?_
  refine qV_iconst (pc := 288) dL_law_288 ?_
  refine qV_iadd (pc := 289) dL_law_289 ?_
  refine qV_sld (pc := 290) (4 * j + 1) dL_law_290 (by omega) (by omega) ?_
  refine qV_rdV (pc := 291) (v_at (sI _) hI wx) nX6_at kX6 lk_L_44 dL_law_291 hI.1 ⟨le_b rfl, le_b rfl⟩ ⟨by exact le_rc (by omega), by exact le_rn (by omega)⟩ rfl (le_b rfl) ?_
  refine qV_aload_n (pc := 294) 2 dL_law_294 rfl rfl ?_
  refine qV_aload_n (pc := 295) 0 dL_law_295 rfl rfl ?_
  refine qV_iload_n (pc := 296) 3 dL_law_296 rfl rfl ?_
  refine qV_iconst (pc := 297) dL_law_297 ?_
  refine qV_iadd (pc := 298) dL_law_298 ?_
  refine qV_sld (pc := 299) (4 * j + 1) dL_law_299 (by omega) (by omega) ?_
  refine qV_rdV (pc := 300) (r_at (sI _) hH.1 hH.2.1 hP wx) nX7_at kX7 lk_L_47 dL_law_300 hH.1 ⟨le_b rfl, le_b rfl⟩ ⟨by exact le_rc (by omega), by exact le_rn (by omega)⟩ rfl (le_b rfl) ?_
  refine qV_same (pc := 303) 727 rfl dL_law_303 (by decide) ?_
  exact nx _ _ _ _ X (by omega) (by omega) hI hR wx
set_option maxRecDepth 100000 in
set_option maxHeartbeats 4000000 in
theorem lc_tells (hi : i = ((4 * j : Nat) : Int)) (hj : 4 * j + 4 ≤ L) (hL : L ≤ 2048) (hk : k ≤ 100000) (hn : n ≤ 1000000) (hI : CInv h sz v X) (hR : RInv h (v + 96) X) (wx : wfX X) (nx : ∀ (k' n' : Nat) (h' : qH) (sz' : Nat) (X' : XS), k' ≤ k + 7 → n' ≤ n + 276 → CInv h' sz' v X' → RInv h' (v + 96) X' → wfX X' → LV l nm b L xs sz0 k' n' h' sz' 727 [some (.ref b), some (.ref v), some (.ref (v + 96)), some (vI i)] []) : LV l nm b L xs sz0 k n h sz 308 [some (.ref b), some (.ref v), some (.ref (v + 96)), some (vI i)] [] := by
  obtain ⟨s, pa, im, kp, ta, pl, tk, tp, td, hH, hP, -⟩ := id hR
  have hob := hR.obj
  refine qV_aload_n (pc := 308) 1 dL_law_308 rfl rfl ?_
  refine qV_aload_n (pc := 309) 0 dL_law_309 rfl rfl ?_
  refine qV_iload_n (pc := 310) 3 dL_law_310 rfl rfl ?_
  refine qV_iconst (pc := 311) dL_law_311 ?_
  refine qV_iadd (pc := 312) dL_law_312 ?_
  refine qV_sld (pc := 313) (4 * j + 1) dL_law_313 (by omega) (by omega) ?_
  refine qV_aload_n (pc := 314) 0 dL_law_314 rfl rfl ?_
  refine qV_iload_n (pc := 315) 3 dL_law_315 rfl rfl ?_
  refine qV_iconst (pc := 316) dL_law_316 ?_
  refine qV_iadd (pc := 317) dL_law_317 ?_
  refine qV_sld (pc := 318) (4 * j + 2) dL_law_318 (by omega) (by omega) ?_
  refine qV_aload_n (pc := 319) 0 dL_law_319 rfl rfl ?_
  refine qV_iload_n (pc := 320) 3 dL_law_320 rfl rfl ?_
  refine qV_iconst (pc := 321) dL_law_321 ?_
  refine qV_iadd (pc := 322) dL_law_322 ?_
  refine qV_sld (pc := 323) (4 * j + 3) dL_law_323 (by omega) (by omega) ?_
  refine qV_rdV (pc := 324) (v_tells (sI _) (sI _) (sI _) hI wx) nX6_tells kX6 lk_L_48 dL_law_324 hI.1 ⟨le_b rfl, le_b rfl⟩ ⟨by exact le_rc (by omega), by exact le_rn (by omega)⟩ rfl (le_b rfl) ?_
  refine qV_aload_n (pc := 327) 2 dL_law_327 rfl rfl ?_
  refine qV_aload_n (pc := 328) 0 dL_law_328 rfl rfl ?_
  refine qV_iload_n (pc := 329) 3 dL_law_329 rfl rfl ?_
  refine qV_iconst (pc := 330) dL_law_330 ?_
  refine qV_iadd (pc := 331) dL_law_331 ?_
  refine qV_sld (pc := 332) (4 * j + 1) dL_law_332 (by omega) (by omega) ?_
  refine qV_aload_n (pc := 333) 0 dL_law_333 rfl rfl ?_
  refine qV_iload_n (pc := 334) 3 dL_law_334 rfl rfl ?_
  refine qV_iconst (pc := 335) dL_law_335 ?_
  refine qV_iadd (pc := 336) dL_law_336 ?_
  refine qV_sld (pc := 337) (4 * j + 2) dL_law_337 (by omega) (by omega) ?_
  refine qV_aload_n (pc := 338) 0 dL_law_338 rfl rfl ?_
  refine qV_iload_n (pc := 339) 3 dL_law_339 rfl rfl ?_
  refine qV_iconst (pc := 340) dL_law_340 ?_
  refine qV_iadd (pc := 341) dL_law_341 ?_
  refine qV_sld (pc := 342) (4 * j + 3) dL_law_342 (by omega) (by omega) ?_
  refine qV_rdV (pc := 343) (r_tells (sI _) (sI _) (sI _) hH.1 hH.2.1 hP wx) nX7_tells kX7 lk_L_52 dL_law_343 hH.1 ⟨le_b rfl, le_b rfl⟩ ⟨by exact le_rc (by omega), by exact le_rn (by omega)⟩ rfl (le_b rfl) ?_
  refine qV_same (pc := 346) 727 rfl dL_law_346 (by decide) ?_
  exact nx _ _ _ _ X (by omega) (by omega) hI hR wx
set_option maxRecDepth 100000 in
set_option maxHeartbeats 4000000 in
theorem lc_spot (hi : i = ((4 * j : Nat) : Int)) (hj : 4 * j + 4 ≤ L) (hL : L ≤ 2048) (hk : k ≤ 100000) (hn : n ≤ 1000000) (hI : CInv h sz v X) (hR : RInv h (v + 96) X) (wx : wfX X) (nx : ∀ (k' n' : Nat) (h' : qH) (sz' : Nat) (X' : XS), k' ≤ k + 7 → n' ≤ n + 276 → CInv h' sz' v X' → RInv h' (v + 96) X' → wfX X' → LV l nm b L xs sz0 k' n' h' sz' 727 [some (.ref b), some (.ref v), some (.ref (v + 96)), some (vI i)] []) : LV l nm b L xs sz0 k n h sz 351 [some (.ref b), some (.ref v), some (.ref (v + 96)), some (vI i)] [] := by
  obtain ⟨s, pa, im, kp, ta, pl, tk, tp, td, hH, hP, -⟩ := id hR
  have hob := hR.obj
  refine qV_aload_n (pc := 351) 1 dL_law_351 rfl rfl ?_
  refine qV_aload_n (pc := 352) 0 dL_law_352 rfl rfl ?_
  refine qV_iload_n (pc := 353) 3 dL_law_353 rfl rfl ?_
  refine qV_iconst (pc := 354) dL_law_354 ?_
  refine qV_iadd (pc := 355) dL_law_355 ?_
  refine qV_sld (pc := 356) (4 * j + 1) dL_law_356 (by omega) (by omega) ?_
  refine qV_aload_n (pc := 357) 0 dL_law_357 rfl rfl ?_
  refine qV_iload_n (pc := 358) 3 dL_law_358 rfl rfl ?_
  refine qV_iconst (pc := 359) dL_law_359 ?_
  refine qV_iadd (pc := 360) dL_law_360 ?_
  refine qV_sld (pc := 361) (4 * j + 2) dL_law_361 (by omega) (by omega) ?_
  refine qV_rdV (pc := 362) (v_spot (sI _) (sI _) hI wx) nX6_spot kX6 lk_L_53 dL_law_362 hI.1 ⟨le_b rfl, le_b rfl⟩ ⟨by exact le_rc (by omega), by exact le_rn (by omega)⟩ rfl (le_b rfl) ?_
  refine qV_aload_n (pc := 365) 2 dL_law_365 rfl rfl ?_
  refine qV_aload_n (pc := 366) 0 dL_law_366 rfl rfl ?_
  refine qV_iload_n (pc := 367) 3 dL_law_367 rfl rfl ?_
  refine qV_iconst (pc := 368) dL_law_368 ?_
  refine qV_iadd (pc := 369) dL_law_369 ?_
  refine qV_sld (pc := 370) (4 * j + 1) dL_law_370 (by omega) (by omega) ?_
  refine qV_aload_n (pc := 371) 0 dL_law_371 rfl rfl ?_
  refine qV_iload_n (pc := 372) 3 dL_law_372 rfl rfl ?_
  refine qV_iconst (pc := 373) dL_law_373 ?_
  refine qV_iadd (pc := 374) dL_law_374 ?_
  refine qV_sld (pc := 375) (4 * j + 2) dL_law_375 (by omega) (by omega) ?_
  refine qV_rdV (pc := 376) (r_spot (sI _) (sI _) hH.1 hH.2.1 hP wx) nX7_spot kX7 lk_L_56 dL_law_376 hH.1 ⟨le_b rfl, le_b rfl⟩ ⟨by exact le_rc (by omega), by exact le_rn (by omega)⟩ rfl (le_b rfl) ?_
  refine qV_same (pc := 379) 727 rfl dL_law_379 (by decide) ?_
  exact nx _ _ _ _ X (by omega) (by omega) hI hR wx
set_option maxRecDepth 100000 in
set_option maxHeartbeats 4000000 in
theorem lc_column (hi : i = ((4 * j : Nat) : Int)) (hj : 4 * j + 4 ≤ L) (hL : L ≤ 2048) (hk : k ≤ 100000) (hn : n ≤ 1000000) (hI : CInv h sz v X) (hR : RInv h (v + 96) X) (wx : wfX X) (nx : ∀ (k' n' : Nat) (h' : qH) (sz' : Nat) (X' : XS), k' ≤ k + 7 → n' ≤ n + 276 → CInv h' sz' v X' → RInv h' (v + 96) X' → wfX X' → LV l nm b L xs sz0 k' n' h' sz' 727 [some (.ref b), some (.ref v), some (.ref (v + 96)), some (vI i)] []) : LV l nm b L xs sz0 k n h sz 384 [some (.ref b), some (.ref v), some (.ref (v + 96)), some (vI i)] [] := by
  obtain ⟨s, pa, im, kp, ta, pl, tk, tp, td, hH, hP, -⟩ := id hR
  have hob := hR.obj
  refine qV_aload_n (pc := 384) 1 dL_law_384 rfl rfl ?_
  refine qV_aload_n (pc := 385) 0 dL_law_385 rfl rfl ?_
  refine qV_iload_n (pc := 386) 3 dL_law_386 rfl rfl ?_
  refine qV_iconst (pc := 387) dL_law_387 ?_
  refine qV_iadd (pc := 388) dL_law_388 ?_
  refine qV_sld (pc := 389) (4 * j + 1) dL_law_389 (by omega) (by omega) ?_
  refine qV_aload_n (pc := 390) 0 dL_law_390 rfl rfl ?_
  refine qV_iload_n (pc := 391) 3 dL_law_391 rfl rfl ?_
  refine qV_iconst (pc := 392) dL_law_392 ?_
  refine qV_iadd (pc := 393) dL_law_393 ?_
  refine qV_sld (pc := 394) (4 * j + 2) dL_law_394 (by omega) (by omega) ?_
  refine qV_rdV (pc := 395) (v_column (sI _) (sI _) hI wx) nX6_column kX6 lk_L_57 dL_law_395 hI.1 ⟨le_b rfl, le_b rfl⟩ ⟨by exact le_rc (by omega), by exact le_rn (by omega)⟩ rfl (le_b rfl) ?_
  refine qV_aload_n (pc := 398) 2 dL_law_398 rfl rfl ?_
  refine qV_aload_n (pc := 399) 0 dL_law_399 rfl rfl ?_
  refine qV_iload_n (pc := 400) 3 dL_law_400 rfl rfl ?_
  refine qV_iconst (pc := 401) dL_law_401 ?_
  refine qV_iadd (pc := 402) dL_law_402 ?_
  refine qV_sld (pc := 403) (4 * j + 1) dL_law_403 (by omega) (by omega) ?_
  refine qV_aload_n (pc := 404) 0 dL_law_404 rfl rfl ?_
  refine qV_iload_n (pc := 405) 3 dL_law_405 rfl rfl ?_
  refine qV_iconst (pc := 406) dL_law_406 ?_
  refine qV_iadd (pc := 407) dL_law_407 ?_
  refine qV_sld (pc := 408) (4 * j + 2) dL_law_408 (by omega) (by omega) ?_
  refine qV_rdV (pc := 409) (r_column (sI _) (sI _) hH.1 hH.2.1 hP wx) nX7_column kX7 lk_L_60 dL_law_409 hH.1 ⟨le_b rfl, le_b rfl⟩ ⟨by exact le_rc (by omega), by exact le_rn (by omega)⟩ rfl (le_b rfl) ?_
  refine qV_same (pc := 412) 727 rfl dL_law_412 (by decide) ?_
  exact nx _ _ _ _ X (by omega) (by omega) hI hR wx
set_option maxRecDepth 100000 in
set_option maxHeartbeats 4000000 in
theorem lc_line (hi : i = ((4 * j : Nat) : Int)) (hj : 4 * j + 4 ≤ L) (hL : L ≤ 2048) (hk : k ≤ 100000) (hn : n ≤ 1000000) (hI : CInv h sz v X) (hR : RInv h (v + 96) X) (wx : wfX X) (nx : ∀ (k' n' : Nat) (h' : qH) (sz' : Nat) (X' : XS), k' ≤ k + 7 → n' ≤ n + 276 → CInv h' sz' v X' → RInv h' (v + 96) X' → wfX X' → LV l nm b L xs sz0 k' n' h' sz' 727 [some (.ref b), some (.ref v), some (.ref (v + 96)), some (vI i)] []) : LV l nm b L xs sz0 k n h sz 417 [some (.ref b), some (.ref v), some (.ref (v + 96)), some (vI i)] [] := by
  obtain ⟨s, pa, im, kp, ta, pl, tk, tp, td, hH, hP, -⟩ := id hR
  have hob := hR.obj
  refine qV_aload_n (pc := 417) 1 dL_law_417 rfl rfl ?_
  refine qV_aload_n (pc := 418) 0 dL_law_418 rfl rfl ?_
  refine qV_iload_n (pc := 419) 3 dL_law_419 rfl rfl ?_
  refine qV_iconst (pc := 420) dL_law_420 ?_
  refine qV_iadd (pc := 421) dL_law_421 ?_
  refine qV_sld (pc := 422) (4 * j + 1) dL_law_422 (by omega) (by omega) ?_
  refine qV_aload_n (pc := 423) 0 dL_law_423 rfl rfl ?_
  refine qV_iload_n (pc := 424) 3 dL_law_424 rfl rfl ?_
  refine qV_iconst (pc := 425) dL_law_425 ?_
  refine qV_iadd (pc := 426) dL_law_426 ?_
  refine qV_sld (pc := 427) (4 * j + 2) dL_law_427 (by omega) (by omega) ?_
  refine qV_rdV (pc := 428) (v_line (sI _) (sI _) hI wx) nX6_line kX6 lk_L_61 dL_law_428 hI.1 ⟨le_b rfl, le_b rfl⟩ ⟨by exact le_rc (by omega), by exact le_rn (by omega)⟩ rfl (le_b rfl) ?_
  refine qV_aload_n (pc := 431) 2 dL_law_431 rfl rfl ?_
  refine qV_aload_n (pc := 432) 0 dL_law_432 rfl rfl ?_
  refine qV_iload_n (pc := 433) 3 dL_law_433 rfl rfl ?_
  refine qV_iconst (pc := 434) dL_law_434 ?_
  refine qV_iadd (pc := 435) dL_law_435 ?_
  refine qV_sld (pc := 436) (4 * j + 1) dL_law_436 (by omega) (by omega) ?_
  refine qV_aload_n (pc := 437) 0 dL_law_437 rfl rfl ?_
  refine qV_iload_n (pc := 438) 3 dL_law_438 rfl rfl ?_
  refine qV_iconst (pc := 439) dL_law_439 ?_
  refine qV_iadd (pc := 440) dL_law_440 ?_
  refine qV_sld (pc := 441) (4 * j + 2) dL_law_441 (by omega) (by omega) ?_
  refine qV_rdV (pc := 442) (r_line (sI _) (sI _) hH.1 hH.2.1 hP wx) nX7_line kX7 lk_L_64 dL_law_442 hH.1 ⟨le_b rfl, le_b rfl⟩ ⟨by exact le_rc (by omega), by exact le_rn (by omega)⟩ rfl (le_b rfl) ?_
  refine qV_same (pc := 445) 727 rfl dL_law_445 (by decide) ?_
  exact nx _ _ _ _ X (by omega) (by omega) hI hR wx
set_option maxRecDepth 100000 in
set_option maxHeartbeats 4000000 in
theorem lc_wide (hi : i = ((4 * j : Nat) : Int)) (hj : 4 * j + 4 ≤ L) (hL : L ≤ 2048) (hk : k ≤ 100000) (hn : n ≤ 1000000) (hI : CInv h sz v X) (hR : RInv h (v + 96) X) (wx : wfX X) (nx : ∀ (k' n' : Nat) (h' : qH) (sz' : Nat) (X' : XS), k' ≤ k + 7 → n' ≤ n + 276 → CInv h' sz' v X' → RInv h' (v + 96) X' → wfX X' → LV l nm b L xs sz0 k' n' h' sz' 727 [some (.ref b), some (.ref v), some (.ref (v + 96)), some (vI i)] []) : LV l nm b L xs sz0 k n h sz 450 [some (.ref b), some (.ref v), some (.ref (v + 96)), some (vI i)] [] := by
  refine qV_aload_n (pc := 450) 1 dL_law_450 rfl rfl ?_
  refine qV_aload_n (pc := 451) 0 dL_law_451 rfl rfl ?_
  refine qV_iload_n (pc := 452) 3 dL_law_452 rfl rfl ?_
  refine qV_iconst (pc := 453) dL_law_453 ?_
  refine qV_iadd (pc := 454) dL_law_454 ?_
  refine qV_sld (pc := 455) (4 * j + 1) dL_law_455 (by omega) (by omega) ?_
  refine qV_rtV (pc := 456) (v_wide (sI _) hI wx) nX6_wide kX6 lk_L_65 dL_law_456 hI.1 ⟨le_b rfl, le_b rfl⟩ ⟨by exact le_rc (by omega), by exact le_rn (by omega)⟩ rfl (le_b rfl) ?_
  rintro w h2 sz2 ⟨rfl, hI2, hK2, rfl⟩
  have hR2 := hR.fr (fun q h1 h2 => hK2 q h1 (by omega))
  obtain ⟨s, pa, im, kp, ta, pl, tk, tp, td, hH, hP, -⟩ := id hR2
  have hob := hR2.obj
  refine qV_aload_n (pc := 459) 2 dL_law_459 rfl rfl ?_
  refine qV_aload_n (pc := 460) 0 dL_law_460 rfl rfl ?_
  refine qV_iload_n (pc := 461) 3 dL_law_461 rfl rfl ?_
  refine qV_iconst (pc := 462) dL_law_462 ?_
  refine qV_iadd (pc := 463) dL_law_463 ?_
  refine qV_sld (pc := 464) (4 * j + 1) dL_law_464 (by omega) (by omega) ?_
  refine qV_rdV (pc := 465) (r_wide (sI _) hH.1 hH.2.1 hP wx) nX7_wide kX7 lk_L_68 dL_law_465 hH.1 ⟨le_b rfl, le_b rfl⟩ ⟨by exact le_rc (by omega), by exact le_rn (by omega)⟩ rfl (le_b rfl) ?_
  refine qV_same (pc := 468) 727 rfl dL_law_468 (by decide) ?_
  exact nx _ _ _ _ X (by omega) (by omega) hI2 hR2 wx
set_option maxRecDepth 100000 in
set_option maxHeartbeats 4000000 in
theorem lc_chunk (hi : i = ((4 * j : Nat) : Int)) (hj : 4 * j + 4 ≤ L) (hL : L ≤ 2048) (hk : k ≤ 100000) (hn : n ≤ 1000000) (hI : CInv h sz v X) (hR : RInv h (v + 96) X) (wx : wfX X) (nx : ∀ (k' n' : Nat) (h' : qH) (sz' : Nat) (X' : XS), k' ≤ k + 7 → n' ≤ n + 276 → CInv h' sz' v X' → RInv h' (v + 96) X' → wfX X' → LV l nm b L xs sz0 k' n' h' sz' 727 [some (.ref b), some (.ref v), some (.ref (v + 96)), some (vI i)] []) : LV l nm b L xs sz0 k n h sz 473 [some (.ref b), some (.ref v), some (.ref (v + 96)), some (vI i)] [] := by
  obtain ⟨s, pa, im, kp, ta, pl, tk, tp, td, hH, hP, -⟩ := id hR
  have hob := hR.obj
  refine qV_aload_n (pc := 473) 1 dL_law_473 rfl rfl ?_
  refine qV_aload_n (pc := 474) 0 dL_law_474 rfl rfl ?_
  refine qV_iload_n (pc := 475) 3 dL_law_475 rfl rfl ?_
  refine qV_iconst (pc := 476) dL_law_476 ?_
  refine qV_iadd (pc := 477) dL_law_477 ?_
  refine qV_sld (pc := 478) (4 * j + 1) dL_law_478 (by omega) (by omega) ?_
  refine qV_aload_n (pc := 479) 0 dL_law_479 rfl rfl ?_
  refine qV_iload_n (pc := 480) 3 dL_law_480 rfl rfl ?_
  refine qV_iconst (pc := 481) dL_law_481 ?_
  refine qV_iadd (pc := 482) dL_law_482 ?_
  refine qV_sld (pc := 483) (4 * j + 2) dL_law_483 (by omega) (by omega) ?_
  refine qV_rdV (pc := 484) (v_chunk (sI _) (sI _) hI wx) nX6_chunk kX6 lk_L_69 dL_law_484 hI.1 ⟨le_b rfl, le_b rfl⟩ ⟨by exact le_rc (by omega), by exact le_rn (by omega)⟩ rfl (le_b rfl) ?_
  refine qV_aload_n (pc := 487) 2 dL_law_487 rfl rfl ?_
  refine qV_aload_n (pc := 488) 0 dL_law_488 rfl rfl ?_
  refine qV_iload_n (pc := 489) 3 dL_law_489 rfl rfl ?_
  refine qV_iconst (pc := 490) dL_law_490 ?_
  refine qV_iadd (pc := 491) dL_law_491 ?_
  refine qV_sld (pc := 492) (4 * j + 1) dL_law_492 (by omega) (by omega) ?_
  refine qV_aload_n (pc := 493) 0 dL_law_493 rfl rfl ?_
  refine qV_iload_n (pc := 494) 3 dL_law_494 rfl rfl ?_
  refine qV_iconst (pc := 495) dL_law_495 ?_
  refine qV_iadd (pc := 496) dL_law_496 ?_
  refine qV_sld (pc := 497) (4 * j + 2) dL_law_497 (by omega) (by omega) ?_
  refine qV_rdV (pc := 498) (r_chunk (sI _) (sI _) hH.1 hH.2.1 hP wx) nX7_chunk kX7 lk_L_72 dL_law_498 hH.1 ⟨le_b rfl, le_b rfl⟩ ⟨by exact le_rc (by omega), by exact le_rn (by omega)⟩ rfl (le_b rfl) ?_
  refine qV_same (pc := 501) 727 rfl dL_law_501 (by decide) ?_
  exact nx _ _ _ _ X (by omega) (by omega) hI hR wx
set_option maxRecDepth 100000 in
set_option maxHeartbeats 4000000 in
theorem lc_marks (hi : i = ((4 * j : Nat) : Int)) (hj : 4 * j + 4 ≤ L) (hL : L ≤ 2048) (hk : k ≤ 100000) (hn : n ≤ 1000000) (hI : CInv h sz v X) (hR : RInv h (v + 96) X) (wx : wfX X) (nx : ∀ (k' n' : Nat) (h' : qH) (sz' : Nat) (X' : XS), k' ≤ k + 7 → n' ≤ n + 276 → CInv h' sz' v X' → RInv h' (v + 96) X' → wfX X' → LV l nm b L xs sz0 k' n' h' sz' 727 [some (.ref b), some (.ref v), some (.ref (v + 96)), some (vI i)] []) : LV l nm b L xs sz0 k n h sz 506 [some (.ref b), some (.ref v), some (.ref (v + 96)), some (vI i)] [] := by
  refine qV_aload_n (pc := 506) 1 dL_law_506 rfl rfl ?_
  refine qV_aload_n (pc := 507) 0 dL_law_507 rfl rfl ?_
  refine qV_iload_n (pc := 508) 3 dL_law_508 rfl rfl ?_
  refine qV_iconst (pc := 509) dL_law_509 ?_
  refine qV_iadd (pc := 510) dL_law_510 ?_
  refine qV_sld (pc := 511) (4 * j + 1) dL_law_511 (by omega) (by omega) ?_
  refine qV_aload_n (pc := 512) 0 dL_law_512 rfl rfl ?_
  refine qV_iload_n (pc := 513) 3 dL_law_513 rfl rfl ?_
  refine qV_iconst (pc := 514) dL_law_514 ?_
  refine qV_iadd (pc := 515) dL_law_515 ?_
  refine qV_sld (pc := 516) (4 * j + 2) dL_law_516 (by omega) (by omega) ?_
  refine qV_rtV (pc := 517) (v_marks (sI _) (sI _) hI wx) nX6_marks kX6 lk_L_73 dL_law_517 hI.1 ⟨le_b rfl, le_b rfl⟩ ⟨by exact le_rc (by omega), by exact le_rn (by omega)⟩ rfl (le_b rfl) ?_
  rintro w h2 sz2 ⟨rfl, hI2, hK2, rfl⟩
  have hR2 := hR.fr (fun q h1 h2 => hK2 q h1 (by omega))
  have hob := hR2.obj
  refine qV_aload_n (pc := 520) 2 dL_law_520 rfl rfl ?_
  refine qV_aload_n (pc := 521) 0 dL_law_521 rfl rfl ?_
  refine qV_iload_n (pc := 522) 3 dL_law_522 rfl rfl ?_
  refine qV_iconst (pc := 523) dL_law_523 ?_
  refine qV_iadd (pc := 524) dL_law_524 ?_
  refine qV_sld (pc := 525) (4 * j + 1) dL_law_525 (by omega) (by omega) ?_
  refine qV_aload_n (pc := 526) 0 dL_law_526 rfl rfl ?_
  refine qV_iload_n (pc := 527) 3 dL_law_527 rfl rfl ?_
  refine qV_iconst (pc := 528) dL_law_528 ?_
  refine qV_iadd (pc := 529) dL_law_529 ?_
  refine qV_sld (pc := 530) (4 * j + 2) dL_law_530 (by omega) (by omega) ?_
  refine qV_rtV (pc := 531) (r_marks (sI _) (sI _) hR2 wx) nX7_marks kX7 lk_L_76 dL_law_531 hob ⟨le_b rfl, le_b rfl⟩ ⟨by exact le_rc (by omega), by exact le_rn (by omega)⟩ rfl (le_b rfl) ?_
  rintro w h3 sz3 ⟨rfl, hR3, f3, rfl⟩
  have hI3 := hI2.fr (f3.wide (by omega) (by omega))
  refine qV_same (pc := 534) 727 rfl dL_law_534 (by decide) ?_
  exact nx _ _ _ _ _ (by omega) (by omega) hI3 hR3 (wf_marks wx _ _)
set_option maxRecDepth 100000 in
set_option maxHeartbeats 4000000 in
theorem lc_lifts (hi : i = ((4 * j : Nat) : Int)) (hj : 4 * j + 4 ≤ L) (hL : L ≤ 2048) (hk : k ≤ 100000) (hn : n ≤ 1000000) (hI : CInv h sz v X) (hR : RInv h (v + 96) X) (wx : wfX X) (nx : ∀ (k' n' : Nat) (h' : qH) (sz' : Nat) (X' : XS), k' ≤ k + 7 → n' ≤ n + 276 → CInv h' sz' v X' → RInv h' (v + 96) X' → wfX X' → LV l nm b L xs sz0 k' n' h' sz' 727 [some (.ref b), some (.ref v), some (.ref (v + 96)), some (vI i)] []) : LV l nm b L xs sz0 k n h sz 539 [some (.ref b), some (.ref v), some (.ref (v + 96)), some (vI i)] [] := by
  refine qV_aload_n (pc := 539) 1 dL_law_539 rfl rfl ?_
  refine qV_aload_n (pc := 540) 0 dL_law_540 rfl rfl ?_
  refine qV_iload_n (pc := 541) 3 dL_law_541 rfl rfl ?_
  refine qV_iconst (pc := 542) dL_law_542 ?_
  refine qV_iadd (pc := 543) dL_law_543 ?_
  refine qV_sld (pc := 544) (4 * j + 1) dL_law_544 (by omega) (by omega) ?_
  refine qV_rtV (pc := 545) (v_lifts (sI _) hI wx) nX6_lifts kX6 lk_L_77 dL_law_545 hI.1 ⟨le_b rfl, le_b rfl⟩ ⟨by exact le_rc (by omega), by exact le_rn (by omega)⟩ rfl (le_b rfl) ?_
  rintro w h2 sz2 ⟨rfl, hI2, hK2, rfl⟩
  have hR2 := hR.fr (fun q h1 h2 => hK2 q h1 (by omega))
  have hob := hR2.obj
  refine qV_aload_n (pc := 548) 2 dL_law_548 rfl rfl ?_
  refine qV_aload_n (pc := 549) 0 dL_law_549 rfl rfl ?_
  refine qV_iload_n (pc := 550) 3 dL_law_550 rfl rfl ?_
  refine qV_iconst (pc := 551) dL_law_551 ?_
  refine qV_iadd (pc := 552) dL_law_552 ?_
  refine qV_sld (pc := 553) (4 * j + 1) dL_law_553 (by omega) (by omega) ?_
  refine qV_rtV (pc := 554) (r_lifts (sI _) hR2 wx) nX7_lifts kX7 lk_L_80 dL_law_554 hob ⟨le_b rfl, le_b rfl⟩ ⟨by exact le_rc (by omega), by exact le_rn (by omega)⟩ rfl (le_b rfl) ?_
  rintro w h3 sz3 ⟨rfl, hR3, f3, rfl⟩
  have hI3 := hI2.fr (f3.wide (by omega) (by omega))
  refine qV_same (pc := 557) 727 rfl dL_law_557 (by decide) ?_
  exact nx _ _ _ _ _ (by omega) (by omega) hI3 hR3 (wf_lifts wx _)
set_option maxRecDepth 100000 in
set_option maxHeartbeats 4000000 in
theorem lc_mark (hi : i = ((4 * j : Nat) : Int)) (hj : 4 * j + 4 ≤ L) (hL : L ≤ 2048) (hk : k ≤ 100000) (hn : n ≤ 1000000) (hI : CInv h sz v X) (hR : RInv h (v + 96) X) (wx : wfX X) (nx : ∀ (k' n' : Nat) (h' : qH) (sz' : Nat) (X' : XS), k' ≤ k + 7 → n' ≤ n + 276 → CInv h' sz' v X' → RInv h' (v + 96) X' → wfX X' → LV l nm b L xs sz0 k' n' h' sz' 727 [some (.ref b), some (.ref v), some (.ref (v + 96)), some (vI i)] []) : LV l nm b L xs sz0 k n h sz 562 [some (.ref b), some (.ref v), some (.ref (v + 96)), some (vI i)] [] := by
  obtain ⟨s, pa, im, kp, ta, pl, tk, tp, td, hH, hP, -⟩ := id hR
  have hob := hR.obj
  refine qV_aload_n (pc := 562) 1 dL_law_562 rfl rfl ?_
  refine qV_aload_n (pc := 563) 0 dL_law_563 rfl rfl ?_
  refine qV_iload_n (pc := 564) 3 dL_law_564 rfl rfl ?_
  refine qV_iconst (pc := 565) dL_law_565 ?_
  refine qV_iadd (pc := 566) dL_law_566 ?_
  refine qV_sld (pc := 567) (4 * j + 1) dL_law_567 (by omega) (by omega) ?_
  refine qV_rdV (pc := 568) (v_mark (sI _) hI wx) nX6_mark kX6 lk_L_81 dL_law_568 hI.1 ⟨le_b rfl, le_b rfl⟩ ⟨by exact le_rc (by omega), by exact le_rn (by omega)⟩ rfl (le_b rfl) ?_
  refine qV_aload_n (pc := 571) 2 dL_law_571 rfl rfl ?_
  refine qV_aload_n (pc := 572) 0 dL_law_572 rfl rfl ?_
  refine qV_iload_n (pc := 573) 3 dL_law_573 rfl rfl ?_
  refine qV_iconst (pc := 574) dL_law_574 ?_
  refine qV_iadd (pc := 575) dL_law_575 ?_
  refine qV_sld (pc := 576) (4 * j + 1) dL_law_576 (by omega) (by omega) ?_
  refine qV_rdV (pc := 577) (r_mark (sI _) hH.1 hH.2.1 hP wx) nX7_mark kX7 lk_L_84 dL_law_577 hH.1 ⟨le_b rfl, le_b rfl⟩ ⟨by exact le_rc (by omega), by exact le_rn (by omega)⟩ rfl (le_b rfl) ?_
  refine qV_same (pc := 580) 727 rfl dL_law_580 (by decide) ?_
  exact nx _ _ _ _ X (by omega) (by omega) hI hR wx
set_option maxRecDepth 100000 in
set_option maxHeartbeats 4000000 in
theorem lc_next (hi : i = ((4 * j : Nat) : Int)) (hj : 4 * j + 4 ≤ L) (hL : L ≤ 2048) (hk : k ≤ 100000) (hn : n ≤ 1000000) (hI : CInv h sz v X) (hR : RInv h (v + 96) X) (wx : wfX X) (nx : ∀ (k' n' : Nat) (h' : qH) (sz' : Nat) (X' : XS), k' ≤ k + 7 → n' ≤ n + 276 → CInv h' sz' v X' → RInv h' (v + 96) X' → wfX X' → LV l nm b L xs sz0 k' n' h' sz' 727 [some (.ref b), some (.ref v), some (.ref (v + 96)), some (vI i)] []) : LV l nm b L xs sz0 k n h sz 585 [some (.ref b), some (.ref v), some (.ref (v + 96)), some (vI i)] [] := by
  obtain ⟨s, pa, im, kp, ta, pl, tk, tp, td, hH, hP, -⟩ := id hR
  have hob := hR.obj
  refine qV_aload_n (pc := 585) 1 dL_law_585 rfl rfl ?_
  refine qV_aload_n (pc := 586) 0 dL_law_586 rfl rfl ?_
  refine qV_iload_n (pc := 587) 3 dL_law_587 rfl rfl ?_
  refine qV_iconst (pc := 588) dL_law_588 ?_
  refine qV_iadd (pc := 589) dL_law_589 ?_
  refine qV_sld (pc := 590) (4 * j + 1) dL_law_590 (by omega) (by omega) ?_
  refine qV_rdV (pc := 591) (v_next (sI _) hI wx) nX6_next kX6 lk_L_85 dL_law_591 hI.1 ⟨le_b rfl, le_b rfl⟩ ⟨by exact le_rc (by omega), by exact le_rn (by omega)⟩ rfl (le_b rfl) ?_
  refine qV_aload_n (pc := 594) 2 dL_law_594 rfl rfl ?_
  refine qV_aload_n (pc := 595) 0 dL_law_595 rfl rfl ?_
  refine qV_iload_n (pc := 596) 3 dL_law_596 rfl rfl ?_
  refine qV_iconst (pc := 597) dL_law_597 ?_
  refine qV_iadd (pc := 598) dL_law_598 ?_
  refine qV_sld (pc := 599) (4 * j + 1) dL_law_599 (by omega) (by omega) ?_
  refine qV_rdV (pc := 600) (r_next (sI _) hH.1 hH.2.1 hP wx) nX7_next kX7 lk_L_88 dL_law_600 hH.1 ⟨le_b rfl, le_b rfl⟩ ⟨by exact le_rc (by omega), by exact le_rn (by omega)⟩ rfl (le_b rfl) ?_
  refine qV_same (pc := 603) 727 rfl dL_law_603 (by decide) ?_
  exact nx _ _ _ _ X (by omega) (by omega) hI hR wx
set_option maxRecDepth 100000 in
set_option maxHeartbeats 4000000 in
theorem lc_seeks (hi : i = ((4 * j : Nat) : Int)) (hj : 4 * j + 4 ≤ L) (hL : L ≤ 2048) (hk : k ≤ 100000) (hn : n ≤ 1000000) (hI : CInv h sz v X) (hR : RInv h (v + 96) X) (wx : wfX X) (nx : ∀ (k' n' : Nat) (h' : qH) (sz' : Nat) (X' : XS), k' ≤ k + 7 → n' ≤ n + 276 → CInv h' sz' v X' → RInv h' (v + 96) X' → wfX X' → LV l nm b L xs sz0 k' n' h' sz' 727 [some (.ref b), some (.ref v), some (.ref (v + 96)), some (vI i)] []) : LV l nm b L xs sz0 k n h sz 608 [some (.ref b), some (.ref v), some (.ref (v + 96)), some (vI i)] [] := by
  refine qV_aload_n (pc := 608) 1 dL_law_608 rfl rfl ?_
  refine qV_aload_n (pc := 609) 0 dL_law_609 rfl rfl ?_
  refine qV_iload_n (pc := 610) 3 dL_law_610 rfl rfl ?_
  refine qV_iconst (pc := 611) dL_law_611 ?_
  refine qV_iadd (pc := 612) dL_law_612 ?_
  refine qV_sld (pc := 613) (4 * j + 1) dL_law_613 (by omega) (by omega) ?_
  refine qV_rtV (pc := 614) (v_seeks (sI _) hI wx) nX6_seeks kX6 lk_L_89 dL_law_614 hI.1 ⟨le_b rfl, le_b rfl⟩ ⟨by exact le_rc (by omega), by exact le_rn (by omega)⟩ rfl (le_b rfl) ?_
  rintro w h2 sz2 ⟨rfl, hI2, hK2, rfl⟩
  have hR2 := hR.fr (fun q h1 h2 => hK2 q h1 (by omega))
  have hob := hR2.obj
  refine qV_aload_n (pc := 617) 2 dL_law_617 rfl rfl ?_
  refine qV_aload_n (pc := 618) 0 dL_law_618 rfl rfl ?_
  refine qV_iload_n (pc := 619) 3 dL_law_619 rfl rfl ?_
  refine qV_iconst (pc := 620) dL_law_620 ?_
  refine qV_iadd (pc := 621) dL_law_621 ?_
  refine qV_sld (pc := 622) (4 * j + 1) dL_law_622 (by omega) (by omega) ?_
  refine qV_rtV (pc := 623) (r_seeks (sI _) hR2 wx) nX7_seeks kX7 lk_L_92 dL_law_623 hob ⟨le_b rfl, le_b rfl⟩ ⟨by exact le_rc (by omega), by exact le_rn (by omega)⟩ rfl (le_b rfl) ?_
  rintro w h3 sz3 ⟨rfl, hR3, f3, rfl⟩
  have hI3 := hI2.fr (f3.wide (by omega) (by omega))
  refine qV_same (pc := 626) 727 rfl dL_law_626 (by decide) ?_
  exact nx _ _ _ _ _ (by omega) (by omega) hI3 hR3 (wf_seeks wx _)
set_option maxRecDepth 100000 in
set_option maxHeartbeats 4000000 in
theorem lc_reads (hi : i = ((4 * j : Nat) : Int)) (hj : 4 * j + 4 ≤ L) (hL : L ≤ 2048) (hk : k ≤ 100000) (hn : n ≤ 1000000) (hI : CInv h sz v X) (hR : RInv h (v + 96) X) (wx : wfX X) (nx : ∀ (k' n' : Nat) (h' : qH) (sz' : Nat) (X' : XS), k' ≤ k + 7 → n' ≤ n + 276 → CInv h' sz' v X' → RInv h' (v + 96) X' → wfX X' → LV l nm b L xs sz0 k' n' h' sz' 727 [some (.ref b), some (.ref v), some (.ref (v + 96)), some (vI i)] []) : LV l nm b L xs sz0 k n h sz 631 [some (.ref b), some (.ref v), some (.ref (v + 96)), some (vI i)] [] := by
  refine qV_aload_n (pc := 631) 1 dL_law_631 rfl rfl ?_
  refine qV_rtV (pc := 632) (v_reads  hI wx) nX6_reads kX6 lk_L_93 dL_law_632 hI.1 ⟨le_b rfl, le_b rfl⟩ ⟨by exact le_rc (by omega), by exact le_rn (by omega)⟩ rfl (le_b rfl) ?_
  rintro w h2 sz2 ⟨rfl, hI2, hK2, rfl⟩
  have hR2 := hR.fr (fun q h1 h2 => hK2 q h1 (by omega))
  have hob := hR2.obj
  refine qV_aload_n (pc := 635) 2 dL_law_635 rfl rfl ?_
  refine qV_rtV (pc := 636) (r_reads  hR2 wx) nX7_reads kX7 lk_L_96 dL_law_636 hob ⟨le_b rfl, le_b rfl⟩ ⟨by exact le_rc (by omega), by exact le_rn (by omega)⟩ rfl (le_b rfl) ?_
  rintro w h3 sz3 ⟨rfl, hR3, f3, rfl⟩
  have hI3 := hI2.fr (f3.wide (by omega) (by omega))
  refine qV_same (pc := 639) 727 rfl dL_law_639 (by decide) ?_
  exact nx _ _ _ _ _ (by omega) (by omega) hI3 hR3 (wf_reads wx)
set_option maxRecDepth 100000 in
set_option maxHeartbeats 4000000 in
theorem lc_keep (hi : i = ((4 * j : Nat) : Int)) (hj : 4 * j + 4 ≤ L) (hL : L ≤ 2048) (hk : k ≤ 100000) (hn : n ≤ 1000000) (hI : CInv h sz v X) (hR : RInv h (v + 96) X) (wx : wfX X) (nx : ∀ (k' n' : Nat) (h' : qH) (sz' : Nat) (X' : XS), k' ≤ k + 7 → n' ≤ n + 276 → CInv h' sz' v X' → RInv h' (v + 96) X' → wfX X' → LV l nm b L xs sz0 k' n' h' sz' 727 [some (.ref b), some (.ref v), some (.ref (v + 96)), some (vI i)] []) : LV l nm b L xs sz0 k n h sz 644 [some (.ref b), some (.ref v), some (.ref (v + 96)), some (vI i)] [] := by
  refine qV_aload_n (pc := 644) 1 dL_law_644 rfl rfl ?_
  refine qV_aload_n (pc := 645) 0 dL_law_645 rfl rfl ?_
  refine qV_iload_n (pc := 646) 3 dL_law_646 rfl rfl ?_
  refine qV_iconst (pc := 647) dL_law_647 ?_
  refine qV_iadd (pc := 648) dL_law_648 ?_
  refine qV_sld (pc := 649) (4 * j + 1) dL_law_649 (by omega) (by omega) ?_
  refine qV_rtV (pc := 650) (v_keep (sI _) hI wx) nX6_keep kX6 lk_L_97 dL_law_650 hI.1 ⟨le_b rfl, le_b rfl⟩ ⟨by exact le_rc (by omega), by exact le_rn (by omega)⟩ rfl (le_b rfl) ?_
  rintro w h2 sz2 ⟨rfl, hI2, hK2, hsz⟩
  have hR2 := hR.fr (fun q h1 h2 => hK2 q h1 (by omega))
  have hob := hR2.obj
  refine qV_aload_n (pc := 653) 2 dL_law_653 rfl rfl ?_
  refine qV_aload_n (pc := 654) 0 dL_law_654 rfl rfl ?_
  refine qV_iload_n (pc := 655) 3 dL_law_655 rfl rfl ?_
  refine qV_iconst (pc := 656) dL_law_656 ?_
  refine qV_iadd (pc := 657) dL_law_657 ?_
  refine qV_sld (pc := 658) (4 * j + 1) dL_law_658 (by omega) (by omega) ?_
  refine qV_rtV (pc := 659) (r_keep (sI _) hR2 wx) nX7_keep kX7 lk_L_100 dL_law_659 hob ⟨le_b rfl, le_b rfl⟩ ⟨by exact le_rc (by omega), by exact le_rn (by omega)⟩ rfl (le_b rfl) ?_
  rintro w h3 sz3 ⟨rfl, hR3, f3, rfl⟩
  have hI3 := hI2.fr (f3.wide (by omega) (by omega))
  refine qV_same (pc := 662) 727 rfl dL_law_662 (by decide) ?_
  exact nx _ _ _ _ _ (by omega) (by omega) hI3 hR3 (wf_keep wx _)
set_option maxRecDepth 100000 in
set_option maxHeartbeats 4000000 in
theorem lc_back (hi : i = ((4 * j : Nat) : Int)) (hj : 4 * j + 4 ≤ L) (hL : L ≤ 2048) (hk : k ≤ 100000) (hn : n ≤ 1000000) (hI : CInv h sz v X) (hR : RInv h (v + 96) X) (wx : wfX X) (nx : ∀ (k' n' : Nat) (h' : qH) (sz' : Nat) (X' : XS), k' ≤ k + 7 → n' ≤ n + 276 → CInv h' sz' v X' → RInv h' (v + 96) X' → wfX X' → LV l nm b L xs sz0 k' n' h' sz' 727 [some (.ref b), some (.ref v), some (.ref (v + 96)), some (vI i)] []) : LV l nm b L xs sz0 k n h sz 667 [some (.ref b), some (.ref v), some (.ref (v + 96)), some (vI i)] [] := by
  refine qV_aload_n (pc := 667) 1 dL_law_667 rfl rfl ?_
  refine qV_aload_n (pc := 668) 0 dL_law_668 rfl rfl ?_
  refine qV_iload_n (pc := 669) 3 dL_law_669 rfl rfl ?_
  refine qV_iconst (pc := 670) dL_law_670 ?_
  refine qV_iadd (pc := 671) dL_law_671 ?_
  refine qV_sld (pc := 672) (4 * j + 1) dL_law_672 (by omega) (by omega) ?_
  refine qV_rtV (pc := 673) (v_back (sI _) hI wx) nX6_back kX6 lk_L_101 dL_law_673 hI.1 ⟨le_b rfl, le_b rfl⟩ ⟨by exact le_rc (by omega), by exact le_rn (by omega)⟩ rfl (le_b rfl) ?_
  rintro w h2 sz2 ⟨rfl, hI2, hK2, rfl⟩
  have hR2 := hR.fr (fun q h1 h2 => hK2 q h1 (by omega))
  have hob := hR2.obj
  refine qV_aload_n (pc := 676) 2 dL_law_676 rfl rfl ?_
  refine qV_aload_n (pc := 677) 0 dL_law_677 rfl rfl ?_
  refine qV_iload_n (pc := 678) 3 dL_law_678 rfl rfl ?_
  refine qV_iconst (pc := 679) dL_law_679 ?_
  refine qV_iadd (pc := 680) dL_law_680 ?_
  refine qV_sld (pc := 681) (4 * j + 1) dL_law_681 (by omega) (by omega) ?_
  refine qV_rtV (pc := 682) (r_back (sI _) hR2 wx) nX7_back kX7 lk_L_104 dL_law_682 hob ⟨le_b rfl, le_b rfl⟩ ⟨by exact le_rc (by omega), by exact le_rn (by omega)⟩ rfl (le_b rfl) ?_
  rintro w h3 sz3 ⟨rfl, hR3, f3, rfl⟩
  have hI3 := hI2.fr (f3.wide (by omega) (by omega))
  refine qV_same (pc := 685) 727 rfl dL_law_685 (by decide) ?_
  exact nx _ _ _ _ _ (by omega) (by omega) hI3 hR3 (wf_back wx _)
set_option maxRecDepth 100000 in
set_option maxHeartbeats 4000000 in
theorem lc_count (hi : i = ((4 * j : Nat) : Int)) (hj : 4 * j + 4 ≤ L) (hL : L ≤ 2048) (hk : k ≤ 100000) (hn : n ≤ 1000000) (hI : CInv h sz v X) (hR : RInv h (v + 96) X) (wx : wfX X) (nx : ∀ (k' n' : Nat) (h' : qH) (sz' : Nat) (X' : XS), k' ≤ k + 7 → n' ≤ n + 276 → CInv h' sz' v X' → RInv h' (v + 96) X' → wfX X' → LV l nm b L xs sz0 k' n' h' sz' 727 [some (.ref b), some (.ref v), some (.ref (v + 96)), some (vI i)] []) : LV l nm b L xs sz0 k n h sz 690 [some (.ref b), some (.ref v), some (.ref (v + 96)), some (vI i)] [] := by
  refine qV_aload_n (pc := 690) 1 dL_law_690 rfl rfl ?_
  refine qV_aload_n (pc := 691) 0 dL_law_691 rfl rfl ?_
  refine qV_iload_n (pc := 692) 3 dL_law_692 rfl rfl ?_
  refine qV_iconst (pc := 693) dL_law_693 ?_
  refine qV_iadd (pc := 694) dL_law_694 ?_
  refine qV_sld (pc := 695) (4 * j + 1) dL_law_695 (by omega) (by omega) ?_
  refine qV_rtV (pc := 696) (v_count (sI _) hI wx) nX6_count kX6 lk_L_105 dL_law_696 hI.1 ⟨le_b rfl, le_b rfl⟩ ⟨by exact le_rc (by omega), by exact le_rn (by omega)⟩ rfl (le_b rfl) ?_
  rintro w h2 sz2 ⟨rfl, hI2, hK2, rfl⟩
  have hR2 := hR.fr (fun q h1 h2 => hK2 q h1 (by omega))
  obtain ⟨s, pa, im, kp, ta, pl, tk, tp, td, hH, hP, -⟩ := id hR2
  have hob := hR2.obj
  refine qV_aload_n (pc := 699) 2 dL_law_699 rfl rfl ?_
  refine qV_aload_n (pc := 700) 0 dL_law_700 rfl rfl ?_
  refine qV_iload_n (pc := 701) 3 dL_law_701 rfl rfl ?_
  refine qV_iconst (pc := 702) dL_law_702 ?_
  refine qV_iadd (pc := 703) dL_law_703 ?_
  refine qV_sld (pc := 704) (4 * j + 1) dL_law_704 (by omega) (by omega) ?_
  refine qV_rdV (pc := 705) (r_count (sI _) hH.1 hH.2.1 hP wx) nX7_count kX7 lk_L_108 dL_law_705 hH.1 ⟨le_b rfl, le_b rfl⟩ ⟨by exact le_rc (by omega), by exact le_rn (by omega)⟩ rfl (le_b rfl) ?_
  refine qV_same (pc := 708) 727 rfl dL_law_708 (by decide) ?_
  exact nx _ _ _ _ X (by omega) (by omega) hI2 hR2 wx
set_option maxRecDepth 100000 in
set_option maxHeartbeats 4000000 in
theorem lc_digest (hi : i = ((4 * j : Nat) : Int)) (hj : 4 * j + 4 ≤ L) (hL : L ≤ 2048) (hk : k ≤ 100000) (hn : n ≤ 1000000) (hI : CInv h sz v X) (hR : RInv h (v + 96) X) (wx : wfX X) (nx : ∀ (k' n' : Nat) (h' : qH) (sz' : Nat) (X' : XS), k' ≤ k + 7 → n' ≤ n + 276 → CInv h' sz' v X' → RInv h' (v + 96) X' → wfX X' → LV l nm b L xs sz0 k' n' h' sz' 727 [some (.ref b), some (.ref v), some (.ref (v + 96)), some (vI i)] []) : LV l nm b L xs sz0 k n h sz 713 [some (.ref b), some (.ref v), some (.ref (v + 96)), some (vI i)] [] := by
  obtain ⟨s, pa, im, kp, ta, pl, tk, tp, td, hH, hP, -⟩ := id hR
  have hob := hR.obj
  refine qV_aload_n (pc := 713) 1 dL_law_713 rfl rfl ?_
  refine qV_rdV (pc := 714) (v_digest  hI wx) nX6_digest kX6 lk_L_109 dL_law_714 hI.1 ⟨le_b rfl, le_b rfl⟩ ⟨by exact le_rc (by omega), by exact le_rn (by omega)⟩ rfl (le_b rfl) ?_
  refine qV_aload_n (pc := 717) 2 dL_law_717 rfl rfl ?_
  refine qV_rdV (pc := 718) (r_digest  hH.1 hH.2.1 hP wx) nX7_digest kX7 lk_L_113 dL_law_718 hH.1 ⟨le_b rfl, le_b rfl⟩ ⟨by exact le_rc (by omega), by exact le_rn (by omega)⟩ rfl (le_b rfl) ?_
  refine qV_lcmpS (pc := 721) dL_law_721 ?_
  refine qV_ifeq (pc := 722) 727 dL_law_722 (by decide) ⟨by omega, by omega⟩ (fun _ => ?_) (fun q => absurd rfl q)
  exact nx _ _ _ _ X (by omega) (by omega) hI hR wx
set_option maxRecDepth 100000 in
set_option maxHeartbeats 4000000 in
theorem law_loop (hL : L ≤ 2048) : ∀ (d j : Nat) (i : Int) (k n : Nat) (h : qH) (sz : Nat) (X : XS), j + d = 512 → i = ((4 * j : Nat) : Int) → k ≤ 106 + 7 * j → n ≤ 9685 + 276 * j → CInv h sz v X → RInv h (v + 96) X → wfX X → LV l nm b L xs sz0 k n h sz 18 [some (.ref b), some (.ref v), some (.ref (v + 96)), some (vI i)] [] := by
  intro d
  induction d with
  | zero =>
    intro j i k n h sz X hd hi hk hn hI hR wx
    refine qV_iload_n (pc := 18) 3 dL_law_18 rfl rfl ?_
    refine qV_aload_n (pc := 19) 0 dL_law_19 rfl rfl ?_
    refine qV_slen (pc := 20) dL_law_20 ?_
    refine qV_iconst (pc := 21) dL_law_21 ?_
    refine qV_isub (pc := 22) dL_law_22 ?_
    refine qV_icmp_gt (pc := 23) 733 dL_law_23 (by decide) ⟨by omega, by omega⟩ ⟨by omega, by omega⟩ (fun c23 => ?_) (fun c23 => ?_)
    · refine qV_iconst (pc := 733) dL_law_733 ?_
      exact qV_lawret dL_law_734 (by omega) (by omega)
    · exfalso; omega
  | succ d ih =>
    intro j i k n h sz X hd hi hk hn hI hR wx
    have nx : ∀ (k' n' : Nat) (h' : qH) (sz' : Nat) (X' : XS), k' ≤ k + 7 → n' ≤ n + 276 → CInv h' sz' v X' → RInv h' (v + 96) X' → wfX X' → LV l nm b L xs sz0 k' n' h' sz' 727 [some (.ref b), some (.ref v), some (.ref (v + 96)), some (vI i)] [] := by
      intro k' n' h' sz' X' hk' hn' hI' hR' wx'
      refine qV_iinc (pc := 727) 3 dL_law_727 rfl (le_b rfl) (le_b rfl) rfl ?_
      refine qV_goto (pc := 730) 18 dL_law_730 (by decide) ?_
      exact ih (j + 1) _ _ _ _ _ X' (by omega) (by omega) (by omega) (by omega) hI' hR' wx'
    refine qV_iload_n (pc := 18) 3 dL_law_18 rfl rfl ?_
    refine qV_aload_n (pc := 19) 0 dL_law_19 rfl rfl ?_
    refine qV_slen (pc := 20) dL_law_20 ?_
    refine qV_iconst (pc := 21) dL_law_21 ?_
    refine qV_isub (pc := 22) dL_law_22 ?_
    refine qV_icmp_gt (pc := 23) 733 dL_law_23 (by decide) ⟨by omega, by omega⟩ ⟨by omega, by omega⟩ (fun c23 => ?_) (fun c23 => ?_)
    · refine qV_iconst (pc := 733) dL_law_733 ?_
      exact qV_lawret dL_law_734 (by omega) (by omega)
    · refine qV_aload_n (pc := 26) 0 dL_law_26 rfl rfl ?_
      refine qV_iload_n (pc := 27) 3 dL_law_27 rfl rfl ?_
      refine qV_sld (pc := 28) (4 * j) dL_law_28 (by omega) (by omega) ?_
      refine qV_bipush (pc := 29) dL_law_29 rfl ?_
      refine qV_and31 (pc := 31) dL_law_31 (fun t ht => ?_)
      have hc : t = 0 ∨ t = 1 ∨ t = 2 ∨ t = 3 ∨ t = 4 ∨ t = 5 ∨ t = 6 ∨ t = 7 ∨ t = 8 ∨ t = 9 ∨ t = 10 ∨ t = 11 ∨ t = 12 ∨ t = 13 ∨ t = 14 ∨ t = 15 ∨ t = 16 ∨ t = 17 ∨ t = 18 ∨ t = 19 ∨ t = 20 ∨ t = 21 ∨ t = 22 ∨ t = 23 ∨ 24 ≤ t := by omega
      rcases hc with rfl | rfl | rfl | rfl | rfl | rfl | rfl | rfl | rfl | rfl | rfl | rfl | rfl | rfl | rfl | rfl | rfl | rfl | rfl | rfl | rfl | rfl | rfl | rfl | hc
      · exact qV_tswIn 144 dL_law_32 ⟨by omega, by omega⟩ (by omega) (by omega) rfl (by decide) (lc_type hi (by omega) hL (by omega) (by omega) hI hR wx nx)
      · exact qV_tswIn 167 dL_law_32 ⟨by omega, by omega⟩ (by omega) (by omega) rfl (by decide) (lc_clear hi (by omega) hL (by omega) (by omega) hI hR wx nx)
      · exact qV_tswIn 180 dL_law_32 ⟨by omega, by omega⟩ (by omega) (by omega) rfl (by decide) (lc_edits hi (by omega) hL (by omega) (by omega) hI hR wx nx)
      · exact qV_tswIn 213 dL_law_32 ⟨by omega, by omega⟩ (by omega) (by omega) rfl (by decide) (lc_stages hi (by omega) hL (by omega) (by omega) hI hR wx nx)
      · exact qV_tswIn 246 dL_law_32 ⟨by omega, by omega⟩ (by omega) (by omega) rfl (by decide) (lc_does hi (by omega) hL (by omega) (by omega) hI hR wx nx)
      · exact qV_tswIn 259 dL_law_32 ⟨by omega, by omega⟩ (by omega) (by omega) rfl (by decide) (lc_drops hi (by omega) hL (by omega) (by omega) hI hR wx nx)
      · exact qV_tswIn 272 dL_law_32 ⟨by omega, by omega⟩ (by omega) (by omega) rfl (by decide) (lc_undo hi (by omega) hL (by omega) (by omega) hI hR wx nx)
      · exact qV_tswIn 285 dL_law_32 ⟨by omega, by omega⟩ (by omega) (by omega) rfl (by decide) (lc_at hi (by omega) hL (by omega) (by omega) hI hR wx nx)
      · exact qV_tswIn 308 dL_law_32 ⟨by omega, by omega⟩ (by omega) (by omega) rfl (by decide) (lc_tells hi (by omega) hL (by omega) (by omega) hI hR wx nx)
      · exact qV_tswIn 351 dL_law_32 ⟨by omega, by omega⟩ (by omega) (by omega) rfl (by decide) (lc_spot hi (by omega) hL (by omega) (by omega) hI hR wx nx)
      · exact qV_tswIn 384 dL_law_32 ⟨by omega, by omega⟩ (by omega) (by omega) rfl (by decide) (lc_column hi (by omega) hL (by omega) (by omega) hI hR wx nx)
      · exact qV_tswIn 417 dL_law_32 ⟨by omega, by omega⟩ (by omega) (by omega) rfl (by decide) (lc_line hi (by omega) hL (by omega) (by omega) hI hR wx nx)
      · exact qV_tswIn 450 dL_law_32 ⟨by omega, by omega⟩ (by omega) (by omega) rfl (by decide) (lc_wide hi (by omega) hL (by omega) (by omega) hI hR wx nx)
      · exact qV_tswIn 473 dL_law_32 ⟨by omega, by omega⟩ (by omega) (by omega) rfl (by decide) (lc_chunk hi (by omega) hL (by omega) (by omega) hI hR wx nx)
      · exact qV_tswIn 506 dL_law_32 ⟨by omega, by omega⟩ (by omega) (by omega) rfl (by decide) (lc_marks hi (by omega) hL (by omega) (by omega) hI hR wx nx)
      · exact qV_tswIn 539 dL_law_32 ⟨by omega, by omega⟩ (by omega) (by omega) rfl (by decide) (lc_lifts hi (by omega) hL (by omega) (by omega) hI hR wx nx)
      · exact qV_tswIn 562 dL_law_32 ⟨by omega, by omega⟩ (by omega) (by omega) rfl (by decide) (lc_mark hi (by omega) hL (by omega) (by omega) hI hR wx nx)
      · exact qV_tswIn 585 dL_law_32 ⟨by omega, by omega⟩ (by omega) (by omega) rfl (by decide) (lc_next hi (by omega) hL (by omega) (by omega) hI hR wx nx)
      · exact qV_tswIn 608 dL_law_32 ⟨by omega, by omega⟩ (by omega) (by omega) rfl (by decide) (lc_seeks hi (by omega) hL (by omega) (by omega) hI hR wx nx)
      · exact qV_tswIn 631 dL_law_32 ⟨by omega, by omega⟩ (by omega) (by omega) rfl (by decide) (lc_reads hi (by omega) hL (by omega) (by omega) hI hR wx nx)
      · exact qV_tswIn 644 dL_law_32 ⟨by omega, by omega⟩ (by omega) (by omega) rfl (by decide) (lc_keep hi (by omega) hL (by omega) (by omega) hI hR wx nx)
      · exact qV_tswIn 667 dL_law_32 ⟨by omega, by omega⟩ (by omega) (by omega) rfl (by decide) (lc_back hi (by omega) hL (by omega) (by omega) hI hR wx nx)
      · exact qV_tswIn 690 dL_law_32 ⟨by omega, by omega⟩ (by omega) (by omega) rfl (by decide) (lc_count hi (by omega) hL (by omega) (by omega) hI hR wx nx)
      · exact qV_tswIn 713 dL_law_32 ⟨by omega, by omega⟩ (by omega) (by omega) rfl (by decide) (lc_digest hi (by omega) hL (by omega) (by omega) hI hR wx nx)
      · exact qV_tswOut 727 dL_law_32 ⟨by omega, by omega⟩ (by omega) (by decide) (nx k n h sz X (by omega) (by omega) hI hR wx)
set_option maxRecDepth 100000 in
set_option maxHeartbeats 4000000 in
theorem law_start (hL : L ≤ 2048) : LV l nm b L xs v 0 0 (fun _ => none) v 0 (qent [.ref b] ++ List.replicate 3 none) [] := by
  refine qV_new (pc := 0) [.null, .null, .null, .null, .null, .null] kX6 lk_L_7 wb_X6 wn_X6 (by intro j hj; rcases (show j = 0 ∨ j = 1 ∨ j = 2 ∨ j = 3 ∨ j = 4 ∨ j = 5 by omega) with rfl | rfl | rfl | rfl | rfl | rfl <;> rfl) dL_law_0 (le_b rfl) (le_b rfl) ?_
  refine qV_dup (pc := 3) dL_law_3 rfl ?_
  refine qV_voI (pc := 4) (v_init (hU_self _ _ _) rfl) nX6_init lk_L_9 dL_law_4 ⟨le_b rfl, le_b rfl⟩ ⟨le_b rfl, le_b rfl⟩ rfl (le_b rfl) ?_
  rintro h2 sz2 ⟨i1, i2, i3, i4, i5, i6, i7, f2, rfl⟩
  refine qV_astore_n (pc := 7) 1 dL_law_7 rfl (le_b rfl) (le_b rfl) rfl ?_
  refine qV_new (pc := 8) [.null, .null, vI 0, .null, .null, .null, vI 0, .null, .null, .null, .null, vI 0] kX7 lk_L_10 wb_X7 wn_X7 (by intro j hj; rcases (show j = 0 ∨ j = 1 ∨ j = 2 ∨ j = 3 ∨ j = 4 ∨ j = 5 ∨ j = 6 ∨ j = 7 ∨ j = 8 ∨ j = 9 ∨ j = 10 ∨ j = 11 by omega) with rfl | rfl | rfl | rfl | rfl | rfl | rfl | rfl | rfl | rfl | rfl | rfl <;> rfl) dL_law_8 (le_b rfl) (le_b rfl) ?_
  refine qV_dup (pc := 11) dL_law_11 rfl ?_
  refine qV_voI (pc := 12) (m_init (hU_self _ _ _) rfl) nX7_init lk_L_12 dL_law_12 ⟨le_b rfl, le_b rfl⟩ ⟨le_b rfl, le_b rfl⟩ rfl (le_b rfl) ?_
  rintro h3 sz3 ⟨hR3, f3, rfl⟩
  have hI2 : CInv h2 (v + 106) v X0 := ⟨i1, i2, i3, i4, i5, i6, i7 _, Nat.le_refl _⟩
  have hI3 : CInv h3 (v + 106) v X0 := hI2.fr ((Fr.hU (by omega) (by omega)).trans (f3.wide (by omega) (by omega)))
  refine qV_astore_n (pc := 15) 2 dL_law_15 rfl (le_b rfl) (le_b rfl) rfl ?_
  refine qV_iconst (pc := 16) dL_law_16 ?_
  refine qV_istore_n (pc := 17) 3 dL_law_17 rfl (le_b rfl) (le_b rfl) rfl ?_
  exact law_loop hL 512 0 _ _ _ _ _ X0 (by omega) rfl (by omega) (by omega) hI3 hR3 wf_X0
end LAW
set_option maxRecDepth 100000 in
set_option maxHeartbeats 4000000 in
theorem whole_start {p : Program} {e : Env} {s : State} {m : MethodId} {below : List Frame} {meth : Method} {c : Code} (l : Launch) (hflags : l.flags = flags0) {b L : Nat} {xs : Nat → Int32} (hL : L ≤ 2048) (C0 : lw_At p s m meth c b L xs) : W p l e room_1 s m #[Value.ref b] below meth c s.heap [] 0 0 (lw_Z below #[Value.ref b] s) (entryFrame m ([Value.ref b] : List Value).toArray 4) := by
  obtain ⟨hx, hb, hr, hml, hown, hts, hX, hbl, hlk, hgv⟩ := C0
  obtain ⟨c0, i0, k0⟩ := u_known (C := RX0) (T := TX0) (N := 3) (n := 3) hts (fun w h => gt_in (uw_X0 w h)) (hts _ (gt_in wb_X0))
  obtain ⟨c1, i1, k1⟩ := u_known (C := RX1) (T := TX1) (N := 3) (n := 3) hts (fun w h => gt_in (uw_X1 w h)) (hts _ (gt_in wb_X1))
  obtain ⟨c2, i2, k2⟩ := u_known (C := RX2) (T := TX2) (N := 4) (n := 4) hts (fun w h => gt_in (uw_X2 w h)) (hts _ (gt_in wb_X2))
  obtain ⟨c3, i3, k3⟩ := u_known (C := RX3) (T := TX3) (N := 2) (n := 2) hts (fun w h => gt_in (uw_X3 w h)) (hts _ (gt_in wb_X3))
  obtain ⟨c4, i4, k4⟩ := u_known (C := RX4) (T := TX4) (N := 2) (n := 2) hts (fun w h => gt_in (uw_X4 w h)) (hts _ (gt_in wb_X4))
  obtain ⟨c5, i5, k5⟩ := u_known (C := RX5) (T := TX5) (N := 7) (n := 7) hts (fun w h => gt_in (uw_X5 w h)) (hts _ (gt_in wb_X5))
  obtain ⟨c6, i6, k6⟩ := u_known (C := RX6) (T := TX6) (N := 6) (n := 6) hts (fun w h => gt_in (uw_X6 w h)) (hts _ (gt_in wb_X6))
  obtain ⟨c7, i7, k7⟩ := u_known (C := RX7) (T := TX7) (N := 12) (n := 12) hts (fun w h => gt_in (uw_X7 w h)) (hts _ (gt_in wb_X7))
  have hK : va_K (fun c => match c with | 0 => c0 | 1 => c1 | 2 => c2 | 3 => c3 | 4 => c4 | 5 => c5 | 6 => c6 | _ => c7, fun c => match c with | 0 => i0 | 1 => i1 | 2 => i2 | 3 => i3 | 4 => i4 | 5 => i5 | 6 => i6 | _ => i7) vwCl [] s := by
    refine ⟨fun c q hq => ?_, fun k q hk => by cases hk⟩
    match c, hq with
    | 0, hq => cases hq; exact k0
    | 1, hq => cases hq; exact k1
    | 2, hq => cases hq; exact k2
    | 3, hq => cases hq; exact k3
    | 4, hq => cases hq; exact k4
    | 5, hq => cases hq; exact k5
    | 6, hq => cases hq; exact k6
    | 7, hq => cases hq; exact k7
    | c + 8, hq => cases hq
  have hKK := (⟨hK, fun w hw => va_Nw.of (nst_on w hw) (hts w (nst_in w hw)), va_AO.of (hts _ wo_X0), va_AO.of (hts _ wo_X2)⟩ : qKK _ s)
  rw [lg_entry_eq]
  exact law_start (nm := meth.name) (xs := xs) hL _ p e s m #[Value.ref b] below meth c s.heap [] _ ⟨hx, hb, hml, hown, fun w hw => hts w (gt_in hw), hr, hlk, rfl⟩ hKK ⟨rfl, hX, hbl⟩ rfl ⟨rfl, fun a e he => by cases he⟩ va_S.rf (fun q hq => absurd rfl hq) (qL_entry [.ref b] (le_b rfl) 3)
