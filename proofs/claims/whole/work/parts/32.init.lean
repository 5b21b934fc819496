/-! The constructors. -/
theorem va_AOA.moved {ty : FieldType} {u U : State} (hvm : u.vm.Alike U.vm) (h : va_AOA ty u) : va_AOA ty U := by
  unfold va_AOA Cond.before Cond.holds at h ⊢
  simp only [Cond.value, beq_iff_eq] at h ⊢
  cases hc : u.vm.findClass (FieldType.array ty).toString with
  | none => simp [hc] at h
  | some comp =>
    have f1 : U.vm.findClass (FieldType.array ty).toString = some comp := by rw [hvm.findClass]; exact hc
    rw [hc, Option.bind_some] at h
    rw [f1, Option.bind_some]
    obtain ⟨c, h2, h3⟩ := Option.bind_eq_some_iff.mp h
    obtain ⟨k, h4, h5⟩ := Option.map_eq_some_iff.mp h3
    obtain ⟨k', hk', he⟩ := hvm.2.2 _ _ h4
    have hi : (U.vm.classes.findIdx? fun (x : Class) => match x.kind with | .array component _ => component == comp | _ => false) = some c := by
      have e1 := va_idx_bare U.vm comp
      have e2 := va_idx_bare u.vm comp
      have e3 : u.vm.bare = U.vm.bare := by first | exact hvm.bare_eq | exact hvm.bare_eq.symm
      rw [← e3, e2] at e1
      exact e1.symm.trans h2
    refine (congrArg (fun o : Option Nat => o.bind (fun c => (U.vm.classes[c]?).map fun (k : Class) => match k.kind with | .array _ ty1 => decide (ty1 = FieldType.array ty) && decide (U.vm.findClass ("[" ++ (FieldType.array ty).toString) = some c) | _ => false)) hi).trans ?_
    rw [Option.bind_some, hk', Option.map_some, he, ← h5]
    congr 2
    cases k.kind <;> simp [hvm.findClass]
/-- statics and words, over the cells that may change -/
def BA (T : Nat → Nat) (A : Nat → Prop) (U : State) (H : Heap) : Prop :=
  ((va_Z RX0 "MODULUS" "[I" (.ref (T 0)) A U H ∧ va_T .int (T 0) 2 (fun j => .int (iI (tbM j))) A U H) ∧ (va_Z RX0 "MOST_BITS" "[I" (.ref (T 1)) A U H ∧ va_T .int (T 1) 2 (fun j => .int (iI (tbB j))) A U H) ∧ (va_Z RX0 "BASE_ROOT" "[I" (.ref (T 2)) A U H ∧ va_T .int (T 2) 2 (fun j => .int (iI (tbR j))) A U H) ∧ (va_Z RX0 "ZERO_EXPONENT" "[I" (.ref (T 3)) A U H ∧ va_T .int (T 3) 2 (fun j => .int (iI (tbZ j))) A U H)) ∧
  (vx_Zq Bundle.tN "UNASSIGNED_STACK" Bundle.steD A U H ∧ vx_Zq Bundle.tN "SUPPRESSED_SENTINEL" Bundle.listD A U H) ∧ (vk_R "NoiseRing" 115 "no such register" (T 4) U ∧ vk_R "NoiseRing" 120 "no such coefficient" (T 5) U ∧ vk_R "NoiseRing" 124 "an argument that can't be" (T 6) U) ∧
  (va_Nw (.declares (Bundle.initS "java/lang/RuntimeException")) U ∧ va_Nw (.declares (Bundle.initS "java/lang/Exception")) U ∧ va_Nw (.declares (Bundle.initS Bundle.tN)) U) ∧ va_Nw (.castable nNSE nNSE) U ∧ va_Nw (.castable nIAE nIAE) U ∧ va_Nc nIAE nNSE U
theorem BA.moved {T : Nat → Nat} {A : Nat → Prop} {u U : State} {H : Heap} (h : u.WarmedH U.vm) (k : BA T A u H) : BA T A U H := by
  obtain ⟨⟨⟨a1, a2⟩, ⟨b1, b2⟩, ⟨c1, c2⟩, d1, d2⟩, k2⟩ := k
  exact ⟨⟨⟨va_Z.moved h.alike a1, va_T.moved h.alike a2⟩, ⟨va_Z.moved h.alike b1, va_T.moved h.alike b2⟩, ⟨va_Z.moved h.alike c1, va_T.moved h.alike c2⟩, va_Z.moved h.alike d1, va_T.moved h.alike d2⟩, ⟨k2.1.1.moved h.alike, k2.1.2.moved h.alike⟩, ⟨k2.2.1.1.warm h, k2.2.1.2.1.warm h, k2.2.1.2.2.warm h⟩, ⟨k2.2.2.1.1.warmD h, k2.2.2.1.2.1.warmD h, k2.2.2.1.2.2.warmD h⟩, k2.2.2.2.1.warmC h, k2.2.2.2.2.1.warmC h, k2.2.2.2.2.2.moved h.alike⟩
theorem BA.kept {T : Nat → Nat} {A : Nat → Prop} {U : State} {H H1 : Heap} (h : ∀ a : Nat, a < H.size → ¬ A a → H1[a]? = H[a]?) (k : BA T A U H) : BA T A U H1 := by
  obtain ⟨⟨⟨a1, a2⟩, ⟨b1, b2⟩, ⟨c1, c2⟩, d1, d2⟩, k2⟩ := k
  exact ⟨⟨⟨a1.kept h, a2.kept h⟩, ⟨b1.kept h, b2.kept h⟩, ⟨c1.kept h, c2.kept h⟩, d1.kept h, d2.kept h⟩, ⟨k2.1.1.kept h, k2.1.2.kept h⟩, k2.2⟩
theorem BA.narrow {T : Nat → Nat} {A B : Nat → Prop} {U : State} {H : Heap} (h : ∀ q, B q → A q) (k : BA T A U H) : BA T B U H := by
  obtain ⟨⟨⟨a1, a2⟩, ⟨b1, b2⟩, ⟨c1, c2⟩, d1, d2⟩, k2⟩ := k
  exact ⟨⟨⟨a1.narrow h, a2.narrow h⟩, ⟨b1.narrow h, b2.narrow h⟩, ⟨c1.narrow h, c2.narrow h⟩, d1.narrow h, d2.narrow h⟩, ⟨k2.1.1.narrow h, k2.1.2.narrow h⟩, k2.2⟩
theorem BA.to {T : Nat → Nat} {A : Nat → Prop} {U : State} {H : Heap} {ω : WX} (hT : oT ω = T) (h : ∀ q, Ax ω q → A q) (k : BA T A U H) : SX ω U H ∧ EX ω U H := by
  subst hT
  exact k.narrow h
section OBM
variable {p : Program} {l : Launch} {e : Env} {R : Room} {s : State} {m : MethodId} {args : Array Value} {below : List Frame} {meth : Method} {c : Code} {H : Heap} {locs : List Loc} {cells slots : Nat} {Q : State → Prop}
variable {cc : ByteArray} {pc : Nat} {ls : Array Slot} {rest : List Value}
/-- new int[12][16] -/
theorem ob_mna (hexec : p.tables.exec = Jvm.exec) (hb : c.code = cc) {own : String} {index : Nat} (hown : s.vm.findClass own = some m.cls) (hclink : (Cond.classLink own index "[[I").before args s = true) (hover : va_AOA .int s) (harr : (Cond.arrayClass .int).before args s = true) (hcells : cells + 13 ≤ R.cells) (hslots : slots + 204 ≤ R.slots) (hdg : decode cc pc = .ok (.multianewarray index 2, 4))
    (kk : ∀ (cA cI : ClassId) (H1 : Heap), H1.size = H.size + 13 → H1[H.size]? = some (vp_cell cA (12, .inr (.inr (.inr (.inr (fun r => some (H.size + 1 + r))))))) → (∀ r, r < 12 → H1[H.size + 1 + r]? = some (vp_cell cI (16, .inl (fun _ => iI 0)))) → (∀ x : Nat, x < H.size → H1[x]? = H[x]?) → ArrOfT s cA (.array .int) → s.vm.findClass "[[I" = some cA → ArrOfT s cI .int → s.vm.findClass "[I" = some cI → W p l e R s m args below meth c H1 locs (cells + 13) (slots + 204) Q (F0 m (pc + 4) ls (.ref H.size :: rest))) :
    W p l e R s m args below meth c H locs cells slots Q (F0 m pc ls (.int (iI 16) :: .int (iI 12) :: rest)) := by
  have h12 : (iI 12).toNatClampNeg = 12 := by decide
  have h16 : (iI 16).toNatClampNeg = 16 := by decide
  intro T hT Xs
  obtain ⟨vm₁, cA, comp, -, fA, fC, hO, hI, X', step⟩ := Xs.multianewarray2F (ty := .int) hexec hown hclink (va_AOA.use hover) harr (g := F0 m pc ls (.int (iI 16) :: .int (iI 12) :: rest)) rfl (by rw [hb]; exact hdg) rfl (by decide) (by decide) (by rw [h12]; decide) (by rw [h16]; decide) (by rw [h16]; decide) rfl rfl (by rw [h12]; exact hcells) (by rw [h12, h16]; exact hslots)
  rw [h12, h16] at X' step
  generalize hF : Jvm.Free.Multi.fill (T.setVm vm₁) cA comp 12 16 (defaultValue .int) 12 = F at X' step
  have hTh : (T.setVm vm₁).heap = H := hT
  obtain ⟨f1, f2, -, -⟩ := Jvm.Free.Multi.fill_facts (T.setVm vm₁) cA comp 12 16 (defaultValue .int) 12
  rw [hF, hTh] at f1 f2
  have hold : ∀ x : Nat, x < H.size → F.heap[x]? = H[x]? := fun x hx => by
    have := Jvm.Free.Multi.fill_old (T.setVm vm₁) cA comp 12 16 (defaultValue .int) (a := x) (by rw [hTh]; exact hx) 12
    rw [hF, hTh] at this
    exact this
  have hrow : ∀ j : Nat, j < 12 → F.heap[H.size + 1 + j]? = some (vp_cell comp (16, .inl (fun _ => iI 0))) := fun j hj => by
    have := Jvm.Free.Multi.fill_inner (T.setVm vm₁) cA comp 12 16 (defaultValue .int) 12 j hj
    rw [hF, hTh] at this
    rw [this]
    refine congrArg some ?_
    show ({ cls := comp, slots := Array.replicate 16 (defaultValue .int), vm := .none } : Cell) = _
    rw [arrV_new]
    rfl
  have hout : Jvm.Free.Multi.outerC cA 12 H.size 12 = vp_cell cA (12, .inr (.inr (.inr (.inr (fun r => some (H.size + 1 + r)))))) := by
    rw [vr_outer cA 12 H.size 12, vp_cell_q]
    unfold arrV
    congr 2
    funext j
    show va_rf (if (j : Nat) < 12 then some (H.size + 1 + j) else none) = _
    rw [if_pos j.2]
  rw [hout] at f2
  have hAr : ArrOfT s cA (.array .int) := fun N9 z9 => by
    obtain ⟨-, k9, hk9, cm9, hkk9⟩ := (hO 0 0 0).1
    exact ⟨(fun q hq => by cases hq), k9, hk9, cm9, hkk9⟩
  have hIr : ArrOfT s comp .int := fun N9 z9 => by
    obtain ⟨-, k9, hk9, cm9, hkk9⟩ := (hI 0 .null).1
    exact ⟨(fun q hq => by cases hq), k9, hk9, cm9, hkk9⟩
  obtain ⟨t, a1, b1⟩ := kk cA comp F.heap (by rw [f1]) f2 hrow hold hAr fA hIr fC F rfl X'
  refine ⟨t, step t ?_, b1⟩
  have e : T.heap.size = H.size := by rw [hT]
  rw [e]
  exact a1
end OBM
