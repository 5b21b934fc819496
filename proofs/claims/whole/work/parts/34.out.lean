/-! The law's out array, and what a call through a wrapper leaves. -/
def OU (cL : ClassId) (ou : Nat) (v : Int64) (H : Heap) : Prop := H[ou]? = some (vp_cell cL (1, .inr (.inl (fun _ => v))))
def Aw (ω : WX) (ou : Nat) : Nat → Prop := fun q => Ax ω q ∨ q = ou
def BW (ω : WX) (cL : ClassId) (ou : Nat) (o0 : Int64) (k q z : Int) (M : Nat → Nat → Int) (k' q' z' : Int) (M' : Nat → Nat → Int) (r : Int32) (w : Int × (Nat → Int)) (t : State) : Prop :=
  (w.1 = 0 → CX ω k' q' z' M' w.2 t.heap ∧ OU cL ou r.toInt64 t.heap) ∧ (¬ w.1 = 0 → CX ω k q z M w.2 t.heap ∧ OU cL ou o0 t.heap)
theorem CX.keptA {ω : WX} {k q z : Int} {M : Nat → Nat → Int} {wk : Nat → Int} {H H1 : Heap} (h : ∀ a : Nat, a < H.size → Ax ω a → H1[a]? = H[a]?) (c : CX ω k q z M wk H) : CX ω k q z M wk H1 := by
  have lt : ∀ {a : Nat} {x : Cell}, H[a]? = some x → a < H.size := fun hx => (Array.getElem?_eq_some_iff.mp hx).1
  exact ⟨ob_one ((c.1 0 _ rfl).kept (h _ ((c.1 0 _ rfl).lt) (Or.inl rfl))), by rw [h _ (lt c.2.1) (Or.inr (Or.inl rfl))]; exact c.2.1, by rw [h _ (lt c.2.2.1) (Or.inr (Or.inr (Or.inl rfl)))]; exact c.2.2.1, fun r hr => by rw [h _ (lt (c.2.2.2 r hr)) (Or.inr (Or.inr (Or.inr ⟨r, hr, rfl⟩)))]; exact c.2.2.2 r hr⟩
theorem sUi_01 (k : Int) (f : Nat → Int) : sUi k f = 0 ∨ sUi k f = 1 := by
  unfold sUi
  split
  · exact Or.inr rfl
  · exact Or.inl rfl
section OUR
variable {p : Program} {l : Launch} {e : Env} {R : Room} {s : State} {m : MethodId} {args : Array Value} {below : List Frame} {meth : Method} {c : Code} {H : Heap} {locs : List Loc} {cells slots : Nat} {Q : State → Prop}
variable {cc : ByteArray} {pc : Nat} {ls : Array Slot} {rest : List Value} {cL : ClassId} {ou : Nat} {o0 : Int64}
theorem ou_st (hexec : p.tables.exec = Jvm.exec) (hb : c.code = cc) (hO : OU cL ou o0 H) (hAr : ArrOfT s cL .long) {v : Int64} (hdg : decode cc pc = .ok (.lastore, 1))
    (kk : ∀ H1 : Heap, OU cL ou v H1 → H1.size = H.size → (∀ q, q ≠ ou → H1[q]? = H[q]?) → W p l e R s m args below meth c H1 (locs ++ [⟨ou, 0⟩]) cells slots Q (F0 m (pc + 1) ls rest)) : W p l e R s m args below meth c H locs cells slots Q (F0 m pc ls (.long v :: .int (iI 0) :: .ref ou :: rest)) := by
  refine W.last hexec hb hO (hAr 1 (fun _ => .long o0)) (fun q => by cases q) ?_ rfl rfl hdg fun H1 e1 z1 oq => kk H1 ?_ z1 oq
  · rw [vp_cell_l, arrV_size]; decide
  · unfold OU
    rw [e1, vp_cell_l, arrV_store, vp_cell_l]
    refine congrArg some ?_
    unfold arrV
    congr 2
    funext j
    have hj : (j : Nat) = 0 := by have := j.2; omega
    show updV (fun _ => Value.long o0) (iI 0).toNatClampNeg (.long v) (j : Nat) = _
    rw [hj]
    rfl
theorem ou_ld (hexec : p.tables.exec = Jvm.exec) (hb : c.code = cc) (hO : OU cL ou o0 H) (hAr : ArrOfT s cL .long) (hdg : decode cc pc = .ok (.laload, 1))
    (kk : W p l e R s m args below meth c H locs cells slots Q (F0 m (pc + 1) ls (.long o0 :: rest))) : W p l e R s m args below meth c H locs cells slots Q (F0 m pc ls (.int (iI 0) :: .ref ou :: rest)) := by
  refine W.lald (v := .long o0) hexec hb hO (hAr 1 (fun _ => .long o0)) (fun q => by cases q) ?_ ?_ rfl rfl hdg kk
  · rw [vp_cell_l, arrV_size]; decide
  · rw [vp_cell_l, show (iI 0).toNatClampNeg = 0 by decide, arrV_read _ _ (by decide)]
end OUR
theorem gw_S {s : State} {H : Heap} {ω : WX} {cL : ClassId} {ou : Nat} {o0 : Int64} {k q z : Int} {M : Nat → Nat → Int} {wk : Nat → Int} (hG : GX ω k q z M wk s H) (hAr : ArrOfT s cL .long) (hO : OU cL ou o0 H) {As : List Value} : PreS s H (va_Pc As (fun U => GX ω k q z M wk U U.heap ∧ ArrOfT U cL .long ∧ OU cL ou o0 U.heap)) As :=
  ⟨fun a U g mk h => ⟨h.1, GX.moved (u := U) (U := U.calling g mk a) (State.WarmedH.refl U) h.2.1, arrOfT_moved (show U.vm.Alike (U.calling g mk a).vm from Vm.Alike.refl U.vm) h.2.2.1, h.2.2.2⟩, fun U hU hW => ⟨rfl, by have h := hG.moved hW; rw [← hU] at h; exact h, arrOfT_moved hW.alike hAr, by rw [hU]; exact hO⟩⟩
