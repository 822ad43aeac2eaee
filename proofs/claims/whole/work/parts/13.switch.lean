section QT
variable {l : Launch} {M : MI} {R : Room} {EX : State → Array Value → Prop} {G : qG} {h0 : qH} {sz0 k n : Nat} {h : qH} {sz pc : Nat} {L : List (Option Value)} {st : List Value}
theorem qV_tswIn {x dflt lo hi off : Int} {offs : Array Int} {len : Nat} (tgt : Nat) (hd : decode M.2.1 pc = .ok (.tableswitch dflt lo hi offs, len)) (hx : iR x) (h1 : lo ≤ x) (h2 : x ≤ hi) (ho : offs[(x - lo).toNat]? = some off) (ht : (pc : Int) + off = (tgt : Int)) (kk : qV l M R EX G h0 sz0 k n h sz tgt L st) : qV l M R EX G h0 sz0 k n h sz pc L (vI x :: st) :=
  qV.step (fun _ _ _ _ _ _ _ _ _ _ _ _ hx' hb k => lv_tableIn hx' hb hd (by rw [iR_toInt hx]; omega) (by rw [iR_toInt hx]; omega) (by rw [iR_toInt hx]; exact ho) ht k) kk
theorem qV_tswOut {x dflt lo hi : Int} {offs : Array Int} {len : Nat} (tgt : Nat) (hd : decode M.2.1 pc = .ok (.tableswitch dflt lo hi offs, len)) (hx : iR x) (h1 : x < lo ∨ hi < x) (ht : (pc : Int) + dflt = (tgt : Int)) (kk : qV l M R EX G h0 sz0 k n h sz tgt L st) : qV l M R EX G h0 sz0 k n h sz pc L (vI x :: st) :=
  qV.step (fun _ _ _ _ _ _ _ _ _ _ _ _ hx' hb k => lv_tableOut hx' hb hd (by rw [iR_toInt hx]; exact h1) ht k) kk
end QT
