/-! The words of this proof: a world before a call, a world behind it, calls with their frame in one row. -/
section Base
/-- links of nest mates and arrays of references, which no word list of a method carries -/
def nw (U : State) : Prop := va_Nw (.methodLinkNest RX8 30 yX2_init "OddShoes") U ∧ va_Nw (.methodLinkNest RX8 37 yX6_init "OddShoes") U ∧ va_Nw (.methodLinkNest RX8 44 yX4_init "OddShoes") U ∧ va_Nw (.methodLinkNest RX8 92 yX0_init "OddShoes") U ∧ va_AO "OddShoes$Maker" U ∧ va_AO "OddShoes$Person" U ∧ va_AO "OddShoes$Trial" U
theorem nw_warm {s U : State} (hW : s.WarmedH U.vm) (h : nw s) : nw U := ⟨va_Nw.warmM hW h.1, va_Nw.warmM hW h.2.1, va_Nw.warmM hW h.2.2.1, va_Nw.warmM hW h.2.2.2.1, va_AO.moved hW.alike h.2.2.2.2.1, va_AO.moved hW.alike h.2.2.2.2.2.1, va_AO.moved hW.alike h.2.2.2.2.2.2⟩
theorem nw_same {u U : State} (e : u.vm = U.vm) (h : nw u) : nw U := ⟨va_Nw.same rfl e h.1, va_Nw.same rfl e h.2.1, va_Nw.same rfl e h.2.2.1, va_Nw.same rfl e h.2.2.2.1, va_AO.moved (by rw [e]; exact Vm.Alike.refl _) h.2.2.2.2.1, va_AO.moved (by rw [e]; exact Vm.Alike.refl _) h.2.2.2.2.2.1, va_AO.moved (by rw [e]; exact Vm.Alike.refl _) h.2.2.2.2.2.2⟩
abbrev TyL : Type := List (ClassId × FieldType)
/-- the world that a method finds -/
abbrev pw (D : va_G) (sz : Nat) (ws : va_W) (tys : TyL) (U : State) : Prop := U.heap.size = sz ∧ va_P D vwCl ws U.heap ∧ va_K D vwCl tys U ∧ va_D (fun _ => True) ws ∧ nw U
/-- the world that it leaves -/
abbrev qw (D : va_G) (A : Nat → Prop) (ws : va_W) (tys : TyL) (t : State) : Prop := va_P D vwCl ws t.heap ∧ va_K D vwCl tys t ∧ va_D A ws
theorem pw_blind {D : va_G} {sz : Nat} {ws : va_W} {tys : TyL} {As : List Value} : FrameBlind (va_Pc As (pw D sz ws tys)) := fun a U g mk q => by
  obtain ⟨q0, q1, qP, qK, qD, qN⟩ := q
  exact ⟨q0, q1, qP, va_K.moved (u := U) (U := U.calling g mk a) (Vm.Alike.refl U.vm) qK, qD, nw_same (u := U) (U := U.calling g mk a) rfl qN⟩
theorem pw_S {s : State} {H : Heap} {D : va_G} {ws wc : va_W} {tys tc : TyL} {As : List Value} {A : Nat → Prop} (isC isT : List Nat) (hP : va_P D vwCl ws H) (hD : va_D A ws) (hK : va_K D vwCl tys s) (hN : nw s) (hC : isC.filterMap (fun i => ws[i]?) = wc) (hC2 : isC.map (fun i => ws[i]?) = wc.map some) (hn : va_nd isC = true) (hT : isT.filterMap (fun i => tys[i]?) = tc) : PreS s H (va_Pc As (pw D H.size wc tc)) As :=
  ⟨pw_blind, fun U hU hW => ⟨rfl, by rw [hU], by rw [hU]; exact hP.sub isC hC, va_K.moved hW.alike (hK.sub isT hT), (hD.sub isC hn hC2).weaken (fun _ _ _ _ => trivial), nw_warm hW hN⟩⟩
theorem pw_V {s : State} {H : Heap} {D : va_G} {ws wc : va_W} {tys tc : TyL} {As : List Value} {A : Nat → Prop} (isC isT : List Nat) (hP : va_P D vwCl ws H) (hD : va_D A ws) (hK : va_K D vwCl tys s) (hN : nw s) (hC : isC.filterMap (fun i => ws[i]?) = wc) (hC2 : isC.map (fun i => ws[i]?) = wc.map some) (hn : va_nd isC = true) (hT : isT.filterMap (fun i => tys[i]?) = tc)
    {ci q0 : Nat} {b : Nat} {fs : List Value} {q : vw_C} (hc : vwCl[ci]? = some q) (he : ws[q0]? = some (b, .inr (ci, fs))) : PreV s H q.1 b (va_Pc (.ref b :: As) (pw D H.size wc tc)) As :=
  ⟨pw_blind, va_recv hK hP hc he, fun U hU hW => ⟨rfl, by rw [hU], by rw [hU]; exact hP.sub isC hC, va_K.moved hW.alike (hK.sub isT hT), (hD.sub isC hn hC2).weaken (fun _ _ _ _ => trivial), nw_warm hW hN⟩⟩
section Frame
variable {p : Program} {l : Launch} {e : Env} {R : Room} {s : State} {m : MethodId} {args : Array Value} {below : List Frame} {meth : Method} {c : Code} {H : Heap} {locs : List Loc} {cells slots : Nat} {Q : State → Prop}
variable {pc : Nat} {ls : Array Slot} {rest st0 : List Value} {a : Array Value} {A : Nat → Prop} {H0 : Heap} {mc ms : Nat} {D : va_G} {ws wc wr : va_W} {tys : TyL}
theorem fr_i {S : Type} {post : Int32 → S → Prop} {w1 : S → va_W} {t1 : S → TyL} (hrun : va_Run p l e R s m args below meth c H locs cells slots mc ms (F0 m pc ls st0) rest (va_Qi post (fun u => qw D (va_A wc H.size) (w1 u) (t1 u)) (va_A wc H.size) a) (va_A wc H.size))
    (hP : va_P D vwCl ws H) (hD : va_D A ws) (hK : va_K D vwCl tys s) (hS : va_S A H0 H locs) (hA : ∀ q, H0.size ≤ q → A q) (isC isR : List Nat) (hC : isC.map (fun i => ws[i]?) = wc.map some) (hR : isR.map (fun i => ws[i]?) = wr.map some) (hn : va_nd isR = true) (hdis : ∀ i ∈ isR, i ∉ isC)
    (kk : ∀ (r : Int32) (u : S) (H1 : Heap) (locs1 : List Loc), post r u → va_P D vwCl (wr ++ w1 u) H1 → va_D A (wr ++ w1 u) → va_K D vwCl (tys ++ t1 u) s → va_S A H0 H1 locs1 → W p l e R s m args below meth c H1 locs1 (cells + mc) (slots + ms) Q (F0 m (pc + 3) ls (.int r :: rest))) : W p l e R s m args below meth c H locs cells slots Q (F0 m pc ls st0) := by
  have hFc := va_free (wc := wc) hD hS hA isC hC
  refine va_calli hrun hS (fun q _ h => hFc q h) hFc (fun r u t H1 locs1 ht hvm hw hB hz1 hk1 hS1 => ?_)
  obtain ⟨hP1, hK1, hD1⟩ := hB
  rw [ht] at hP1
  have hK1 := va_K.moved hvm.symm hK1
  obtain ⟨hP2, hD2⟩ := va_join (wr := wr) (w1 := w1 u) hP hD isC isR hC hR hn hdis hk1 hFc hP1 hD1
  exact kk r u H1 locs1 hw hP2 hD2 (hK.app hK1) hS1
theorem fr_v {S : Type} {post : S → Prop} {w1 : S → va_W} {t1 : S → TyL} (hrun : va_Run p l e R s m args below meth c H locs cells slots mc ms (F0 m pc ls st0) rest (va_Qv post (fun u => qw D (va_A wc H.size) (w1 u) (t1 u)) (va_A wc H.size) a) (va_A wc H.size))
    (hP : va_P D vwCl ws H) (hD : va_D A ws) (hK : va_K D vwCl tys s) (hS : va_S A H0 H locs) (hA : ∀ q, H0.size ≤ q → A q) (isC isR : List Nat) (hC : isC.map (fun i => ws[i]?) = wc.map some) (hR : isR.map (fun i => ws[i]?) = wr.map some) (hn : va_nd isR = true) (hdis : ∀ i ∈ isR, i ∉ isC)
    (kk : ∀ (u : S) (H1 : Heap) (locs1 : List Loc), post u → va_P D vwCl (wr ++ w1 u) H1 → va_D A (wr ++ w1 u) → va_K D vwCl (tys ++ t1 u) s → va_S A H0 H1 locs1 → W p l e R s m args below meth c H1 locs1 (cells + mc) (slots + ms) Q (F0 m (pc + 3) ls rest)) : W p l e R s m args below meth c H locs cells slots Q (F0 m pc ls st0) := by
  have hFc := va_free (wc := wc) hD hS hA isC hC
  refine va_callv hrun hS (fun q _ h => hFc q h) hFc (fun u t H1 locs1 ht hvm hw hB hz1 hk1 hS1 => ?_)
  obtain ⟨hP1, hK1, hD1⟩ := hB
  rw [ht] at hP1
  have hK1 := va_K.moved hvm.symm hK1
  obtain ⟨hP2, hD2⟩ := va_join (wr := wr) (w1 := w1 u) hP hD isC isR hC hR hn hdis hk1 hFc hP1 hD1
  exact kk u H1 locs1 hw hP2 hD2 (hK.app hK1) hS1
theorem fr_q {S : Type} {post : Option Nat → S → Prop} {w1 : S → va_W} {t1 : S → TyL} (hrun : va_Run p l e R s m args below meth c H locs cells slots mc ms (F0 m pc ls st0) rest (va_Qq post (fun u => qw D (va_A wc H.size) (w1 u) (t1 u)) (va_A wc H.size) a) (va_A wc H.size))
    (hP : va_P D vwCl ws H) (hD : va_D A ws) (hK : va_K D vwCl tys s) (hS : va_S A H0 H locs) (hA : ∀ q, H0.size ≤ q → A q) (isC isR : List Nat) (hC : isC.map (fun i => ws[i]?) = wc.map some) (hR : isR.map (fun i => ws[i]?) = wr.map some) (hn : va_nd isR = true) (hdis : ∀ i ∈ isR, i ∉ isC)
    (kk : ∀ (r : Option Nat) (u : S) (H1 : Heap) (locs1 : List Loc), post r u → va_P D vwCl (wr ++ w1 u) H1 → va_D A (wr ++ w1 u) → va_K D vwCl (tys ++ t1 u) s → va_S A H0 H1 locs1 → W p l e R s m args below meth c H1 locs1 (cells + mc) (slots + ms) Q (F0 m (pc + 3) ls (va_rf r :: rest))) : W p l e R s m args below meth c H locs cells slots Q (F0 m pc ls st0) := by
  have hFc := va_free (wc := wc) hD hS hA isC hC
  refine va_callq hrun hS (fun q _ h => hFc q h) hFc (fun r u t H1 locs1 ht hvm hw hB hz1 hk1 hS1 => ?_)
  obtain ⟨hP1, hK1, hD1⟩ := hB
  rw [ht] at hP1
  have hK1 := va_K.moved hvm.symm hK1
  obtain ⟨hP2, hD2⟩ := va_join (wr := wr) (w1 := w1 u) hP hD isC isR hC hR hn hdis hk1 hFc hP1 hD1
  exact kk r u H1 locs1 hw hP2 hD2 (hK.app hK1) hS1
/-- a number on the stack is another one's name -/
theorem tI {x y : Int32} (h : x = y) (k : W p l e R s m args below meth c H locs cells slots Q (F0 m pc ls (.int y :: rest))) : W p l e R s m args below meth c H locs cells slots Q (F0 m pc ls (.int x :: rest)) := by
  rw [h]; exact k
/-- what it is doesn't matter any more -/
theorem tF {x : Int32} (k : ∀ y : Int32, W p l e R s m args below meth c H locs cells slots Q (F0 m pc ls (.int y :: rest))) : W p l e R s m args below meth c H locs cells slots Q (F0 m pc ls (.int x :: rest)) := k x
end Frame
/-- is a number within two bounds: 1 or 0 -/
def isW (x lo hi : Int32) : Int32 := if lo ≤ x ∧ x ≤ hi then 1 else 0
theorem isW_no (x : Int32) : isW x 0 (-1) = 0 := by
  unfold isW
  rw [if_neg]
  rintro ⟨h1, h2⟩
  have h1 := Int32.le_iff_toInt_le.mp h1
  have h2 := Int32.le_iff_toInt_le.mp h2
  have e1 : (0 : Int32).toInt = 0 := by decide
  have e2 : (-1 : Int32).toInt = -1 := by decide
  omega
theorem isW_no1 (x : Int32) : isW x 1 0 = 0 := by
  unfold isW
  rw [if_neg]
  rintro ⟨h1, h2⟩
  have h1 := Int32.le_iff_toInt_le.mp h1
  have h2 := Int32.le_iff_toInt_le.mp h2
  have e1 : (0 : Int32).toInt = 0 := by decide
  have e2 : (1 : Int32).toInt = 1 := by decide
  omega
/-- between 0 and a bound: a natural number -/
theorem isW_nat {x : Int32} {lo hi : Int32} (h : ¬ isW x lo hi = 0) {a b : Nat} (ha : lo = nI a) (hb : hi = nI b) (ha1 : a < 2 ^ 31) (hb1 : b < 2 ^ 31) : ∃ j : Nat, a ≤ j ∧ j ≤ b ∧ x = nI j := by
  unfold isW at h
  by_cases q : lo ≤ x ∧ x ≤ hi
  · obtain ⟨q1, q2⟩ := q
    have q1 := Int32.le_iff_toInt_le.mp q1
    have q2 := Int32.le_iff_toInt_le.mp q2
    rw [ha, nI_toInt ha1] at q1
    rw [hb, nI_toInt hb1] at q2
    have h0 : (0 : Int32).toInt = 0 := by decide
    obtain ⟨j, hj, e⟩ := nI_of (x := x) (fun q => by
      have q := Int32.lt_iff_toInt_lt.mp q
      omega)
    rw [e, nI_toInt hj] at q1 q2
    exact ⟨j, by omega, by omega, e⟩
  · rw [if_neg q] at h; exact absurd rfl h
theorem lt_of {i : Nat} {y : Int32} (b : Nat) (c : ¬ y ≤ nI i) (hy : y = nI b) (hi : i < 2 ^ 31) : i < b := by
  rcases Nat.lt_or_ge i b with q | q
  · exact q
  · exact absurd (by rw [hy]; exact nI_le q hi) c
theorem ge_of {i : Nat} {y : Int32} (b : Nat) (c : y ≤ nI i) (hy : y = nI b) (hi : i < 2 ^ 31) (hb : b < 2 ^ 31) : b ≤ i := by
  rw [hy] at c; exact (nI_leI hb hi).mp c
theorem isW_nar (x lo hi : Int32) : narrow .boolean (.int (isW x lo hi)) = .int (isW x lo hi) := by
  unfold isW
  split <;> rfl
end Base
theorem able1 : ∀ i, i < 12 → (if ((1 : Int32) <<< (nI i &&& 31)) &&& (-1) = 0 then (1 : Int32) else 0) = 0 := by decide +kernel
theorem able2 : ∀ i, i < 12 → ∀ j, j < 12 → (if (((1 : Int32) <<< (nI i &&& 31)) ||| ((1 : Int32) <<< (nI j &&& 31))) &&& (-1) = 0 then (1 : Int32) else 0) = 0 := by decide +kernel
theorem pick0 : ∀ i, i < 12 → ((0 : Int32) >>> (nI i &&& 31)) &&& 1 = 0 := by decide +kernel
