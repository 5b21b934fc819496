/-! The class's world: the object, its rows, its work row; the statics that it reads; Throwable's statics. -/
abbrev WX : Type := va_G × (ClassId × ClassId) × (Nat × Nat × Nat) × (Nat → Nat) × (Nat → Nat)
def oI (ω : WX) : ClassId := ω.2.1.1
def oC (ω : WX) : ClassId := ω.2.1.2
def ox (ω : WX) : Nat := ω.2.2.1.1
def og (ω : WX) : Nat := ω.2.2.1.2.1
def ow (ω : WX) : Nat := ω.2.2.1.2.2
def oR (ω : WX) : Nat → Nat := ω.2.2.2.1
def oT (ω : WX) : Nat → Nat := ω.2.2.2.2
def Ax (ω : WX) : Nat → Prop := fun a => a = ox ω ∨ a = og ω ∨ a = ow ω ∨ ∃ r, r < 12 ∧ a = oR ω r
def oD (ω : WX) : Prop := (ox ω ≠ og ω ∧ ox ω ≠ ow ω ∧ og ω ≠ ow ω) ∧ (∀ r, r < 12 → oR ω r ≠ ox ω ∧ oR ω r ≠ og ω ∧ oR ω r ≠ ow ω) ∧ ∀ r t, r < 12 → t < 12 → oR ω r = oR ω t → r = t
def tbM (j : Nat) : Int := if j = 0 then 3329 else 8380417
def tbB (j : Nat) : Int := if j = 0 then 11 else 22
def tbR (j : Nat) : Int := if j = 0 then 17 else 1753
def tbZ (j : Nat) : Int := if j = 0 then 8 else 16
def sx_1 (ω : WX) (i : Nat) (n : String) (f : Nat → Int) (U : State) (H : Heap) : Prop := va_Z RX0 n "[I" (.ref (oT ω i)) (Ax ω) U H ∧ va_T .int (oT ω i) 2 (fun j => .int (iI (f j))) (Ax ω) U H
theorem sx_1.moved {ω : WX} {i : Nat} {n : String} {f : Nat → Int} {u U : State} {H : Heap} (h : u.vm.Alike U.vm) (k : sx_1 ω i n f u H) : sx_1 ω i n f U H := ⟨va_Z.moved h k.1, va_T.moved h k.2⟩
theorem sx_1.kept {ω : WX} {i : Nat} {n : String} {f : Nat → Int} {U : State} {H H1 : Heap} (h : ∀ a : Nat, a < H.size → ¬ Ax ω a → H1[a]? = H[a]?) (k : sx_1 ω i n f U H) : sx_1 ω i n f U H1 := ⟨k.1.kept h, k.2.kept h⟩
def SX (ω : WX) (U : State) (H : Heap) : Prop := sx_1 ω 0 "MODULUS" tbM U H ∧ sx_1 ω 1 "MOST_BITS" tbB U H ∧ sx_1 ω 2 "BASE_ROOT" tbR U H ∧ sx_1 ω 3 "ZERO_EXPONENT" tbZ U H
theorem SX.moved {ω : WX} {u U : State} {H : Heap} (h : u.vm.Alike U.vm) (k : SX ω u H) : SX ω U H := ⟨k.1.moved h, k.2.1.moved h, k.2.2.1.moved h, k.2.2.2.moved h⟩
theorem SX.kept {ω : WX} {U : State} {H H1 : Heap} (h : ∀ a : Nat, a < H.size → ¬ Ax ω a → H1[a]? = H[a]?) (k : SX ω U H) : SX ω U H1 := ⟨k.1.kept h, k.2.1.kept h, k.2.2.1.kept h, k.2.2.2.kept h⟩
abbrev nNSE : String := "java/util/NoSuchElementException"
abbrev nIAE : String := "java/lang/IllegalArgumentException"
/-- what a throw and a catch need beside the good words: Throwable's statics, the texts, three words on constructors, three on classes -/
def EX (ω : WX) (U : State) (H : Heap) : Prop := (vx_Zq Bundle.tN "UNASSIGNED_STACK" Bundle.steD (Ax ω) U H ∧ vx_Zq Bundle.tN "SUPPRESSED_SENTINEL" Bundle.listD (Ax ω) U H) ∧ (vk_R "NoiseRing" 115 "no such register" (oT ω 4) U ∧ vk_R "NoiseRing" 120 "no such coefficient" (oT ω 5) U ∧ vk_R "NoiseRing" 124 "an argument that can't be" (oT ω 6) U) ∧
  (va_Nw (.declares (Bundle.initS "java/lang/RuntimeException")) U ∧ va_Nw (.declares (Bundle.initS "java/lang/Exception")) U ∧ va_Nw (.declares (Bundle.initS Bundle.tN)) U) ∧ va_Nw (.castable nNSE nNSE) U ∧ va_Nw (.castable nIAE nIAE) U ∧ va_Nc nIAE nNSE U
theorem EX.moved {ω : WX} {u U : State} {H : Heap} (h : u.WarmedH U.vm) (k : EX ω u H) : EX ω U H := ⟨⟨k.1.1.moved h.alike, k.1.2.moved h.alike⟩, ⟨k.2.1.1.warm h, k.2.1.2.1.warm h, k.2.1.2.2.warm h⟩, ⟨k.2.2.1.1.warmD h, k.2.2.1.2.1.warmD h, k.2.2.1.2.2.warmD h⟩, k.2.2.2.1.warmC h, k.2.2.2.2.1.warmC h, k.2.2.2.2.2.moved h.alike⟩
theorem EX.kept {ω : WX} {U : State} {H H1 : Heap} (h : ∀ a : Nat, a < H.size → ¬ Ax ω a → H1[a]? = H[a]?) (k : EX ω U H) : EX ω U H1 := ⟨⟨k.1.1.kept h, k.1.2.kept h⟩, k.2⟩
/-- the tables and the statics -/
def BX (ω : WX) (U : State) (H : Heap) : Prop := va_K ω.1 vwCl [(oI ω, .int), (oC ω, .array .int)] U ∧ (SX ω U H ∧ EX ω U H) ∧ oD ω
theorem BX.moved {ω : WX} {u U : State} {H : Heap} (h : u.WarmedH U.vm) (k : BX ω u H) : BX ω U H := ⟨va_K.moved h.alike k.1, ⟨k.2.1.1.moved h.alike, k.2.1.2.moved h⟩, k.2.2⟩
theorem BX.kept {ω : WX} {U : State} {H H1 : Heap} (h : ∀ a : Nat, a < H.size → ¬ Ax ω a → H1[a]? = H[a]?) (k : BX ω U H) : BX ω U H1 := ⟨k.1, ⟨k.2.1.1.kept h, k.2.1.2.kept h⟩, k.2.2⟩
/-- the cells -/
def CX (ω : WX) (k q z : Int) (M : Nat → Nat → Int) (wk : Nat → Int) (H : Heap) : Prop :=
  va_P ω.1 vwCl [(ox ω, .inr (0, [.ref (og ω), .ref (ow ω), .int (iI k), .int (iI q), .int (iI z)]))] H ∧ H[og ω]? = some (vp_cell (oC ω) (12, .inr (.inr (.inr (.inr (fun r => some (oR ω r))))))) ∧ H[ow ω]? = some (vp_cell (oI ω) (16, .inl (fun i => iI (wk i)))) ∧
    ∀ r, r < 12 → H[oR ω r]? = some (vp_cell (oI ω) (16, .inl (fun i => iI (M r i))))
def GX (ω : WX) (k q z : Int) (M : Nat → Nat → Int) (wk : Nat → Int) (U : State) (H : Heap) : Prop := BX ω U H ∧ CX ω k q z M wk H
theorem GX.moved {ω : WX} {k q z : Int} {M : Nat → Nat → Int} {wk : Nat → Int} {u U : State} {H : Heap} (h : u.WarmedH U.vm) (g : GX ω k q z M wk u H) : GX ω k q z M wk U H := ⟨g.1.moved h, g.2⟩
theorem CX.kept {ω : WX} {k q z : Int} {M : Nat → Nat → Int} {wk : Nat → Int} {H H1 : Heap} (h : ∀ a : Nat, a < H.size → H1[a]? = H[a]?) (c : CX ω k q z M wk H) : CX ω k q z M wk H1 := by
  have lt : ∀ {a : Nat} {x : Cell}, H[a]? = some x → a < H.size := fun hx => (Array.getElem?_eq_some_iff.mp hx).1
  exact ⟨c.1.kept (fun a b hab => h _ ((c.1 a b hab).lt)), by rw [h _ (lt c.2.1)]; exact c.2.1, by rw [h _ (lt c.2.2.1)]; exact c.2.2.1, fun r hr => by rw [h _ (lt (c.2.2.2 r hr))]; exact c.2.2.2 r hr⟩
section GXR
variable {p : Program} {l : Launch} {e : Env} {R : Room} {s : State} {m : MethodId} {args : Array Value} {below : List Frame} {meth : Method} {c : Code} {H : Heap} {locs : List Loc} {cells slots : Nat} {Q : State → Prop}
variable {cc : ByteArray} {pc : Nat} {ls : Array Slot} {rest : List Value} {ω : WX} {k q z : Int} {M : Nat → Nat → Int} {wk : Nat → Int}
/-- a contract's start at a call -/
theorem gx_blind (av : List Value) : FrameBlind (va_Pc av (fun U => GX ω k q z M wk U U.heap)) := fun a U g mk h => ⟨h.1, GX.moved (u := U) (U := U.calling g mk a) (State.WarmedH.refl U) h.2⟩
theorem gx_S (hG : GX ω k q z M wk s H) {As : List Value} : PreS s H (va_Pc As (fun U => GX ω k q z M wk U U.heap)) As := ⟨gx_blind _, fun U hU hW => ⟨rfl, by have h := hG.moved hW; rw [← hU] at h; exact h⟩⟩
theorem gx_recv (hG : GX ω k q z M wk s H) : ∃ cell : Cell, H[ox ω]? = some cell ∧ cell.vm.isStatics = false ∧ s.vm.findClass RX0 = some cell.cls := va_recv (D := ω.1) (q := (RX0, TX0, 5)) (q0 := 0) (ci := 0) hG.1.1 hG.2.1 rfl rfl
theorem gx_V (hG : GX ω k q z M wk s H) {As : List Value} : PreV s H RX0 (ox ω) (va_Pc (.ref (ox ω) :: As) (fun U => GX ω k q z M wk U U.heap)) As := ⟨gx_blind _, gx_recv hG, fun U hU hW => ⟨rfl, by have h := hG.moved hW; rw [← hU] at h; exact h⟩⟩
theorem gx_row (hexec : p.tables.exec = Jvm.exec) (hb : c.code = cc) (hG : GX ω k q z M wk s H) {r : Nat} (hr : r < 12) (hdg : decode cc pc = .ok (.aaload, 1))
    (kk : W p l e R s m args below meth c H locs cells slots Q (F0 m (pc + 1) ls (.ref (oR ω r) :: rest))) : W p l e R s m args below meth c H locs cells slots Q (F0 m pc ls (.int (iI r) :: .ref (og ω) :: rest)) := by
  have hcl : (iI (r : Int)).toNatClampNeg = r := iI_cl (by omega)
  refine W.aald (v := .ref (oR ω r)) (ty := .array .int) hexec hb hG.2.2.1 ((hG.1.1.2 1 _ rfl).1 12 (fun j => .ref (oR ω j))) rfl (fun q => by cases q) ?_ ?_ rfl rfl hdg kk
  · show ¬ (_ ∨ (arrV _ _ _).slots.size ≤ _)
    rw [arrV_size]
    exact iI_in (n := 12) hr (by decide)
  · show (arrV _ _ _).slots[_]? = _
    rw [hcl, arrV_read _ _ hr]
    rfl
theorem gx_ild (hexec : p.tables.exec = Jvm.exec) (hb : c.code = cc) (hG : GX ω k q z M wk s H) {r i : Nat} (hr : r < 12) (hi : i < 16) (hdg : decode cc pc = .ok (.iaload, 1))
    (kk : W p l e R s m args below meth c H locs cells slots Q (F0 m (pc + 1) ls (.int (iI (M r i)) :: rest))) : W p l e R s m args below meth c H locs cells slots Q (F0 m pc ls (.int (iI i) :: .ref (oR ω r) :: rest)) := by
  have hcl : (iI (i : Int)).toNatClampNeg = i := iI_cl (by omega)
  refine W.iald (v := .int (iI (M r i))) hexec hb (hG.2.2.2.2 r hr) ((hG.1.1.2 0 _ rfl).1 16 (fun j => .int (iI (M r j)))) (fun q => by cases q) ?_ ?_ rfl rfl hdg kk
  · show ¬ (_ ∨ (arrV _ _ _).slots.size ≤ _)
    rw [arrV_size]
    exact iI_in (n := 16) hi (by decide)
  · show (arrV _ _ _).slots[_]? = _
    rw [hcl, arrV_read _ _ hi]
theorem gx_new {H1 : Heap} {a : Nat} (hG : GX ω k q z M wk s H) (ha : Ax ω a) (hz : H1.size = H.size) (oq : ∀ q, q ≠ a → H1[q]? = H[q]?) : BX ω s H1 := hG.1.kept (fun b _ hb => oq b (fun h => hb (h ▸ ha)))
theorem gx_ist (hexec : p.tables.exec = Jvm.exec) (hb : c.code = cc) (hG : GX ω k q z M wk s H) {H0 : Heap} (hS : va_S (Ax ω) H0 H locs) {r i : Nat} (hr : r < 12) (hi : i < 16) {v : Int} (hdg : decode cc pc = .ok (.iastore, 1))
    (kk : ∀ (H1 : Heap) (locs1 : List Loc), GX ω k q z (upR M r (upI (M r) i v)) wk s H1 → va_S (Ax ω) H0 H1 locs1 → W p l e R s m args below meth c H1 locs1 cells slots Q (F0 m (pc + 1) ls rest)) : W p l e R s m args below meth c H locs cells slots Q (F0 m pc ls (.int (iI v) :: .int (iI i) :: .ref (oR ω r) :: rest)) := by
  have hcl : (iI (i : Int)).toNatClampNeg = i := iI_cl (by omega)
  have hax : Ax ω (oR ω r) := Or.inr (Or.inr (Or.inr ⟨r, hr, rfl⟩))
  refine W.iast hexec hb (hG.2.2.2.2 r hr) ((hG.1.1.2 0 _ rfl).1 16 (fun j => .int (iI (M r j)))) (fun q => by cases q) ?_ rfl rfl hdg fun H1 e1 z1 oq => ?_
  · show ¬ (_ ∨ (arrV _ _ _).slots.size ≤ _)
    rw [arrV_size]
    exact iI_in (n := 16) hi (by decide)
  · obtain ⟨d1, d2, d3⟩ := hG.1.2.2
    obtain ⟨n1, n2, n3⟩ := d2 r hr
    refine kk H1 _ ⟨gx_new hG hax z1 oq, hG.2.1.kept (fun a b hab => ?_), ?_, ?_, fun t ht => ?_⟩ (hS.put z1 oq hax)
    · cases a with
      | zero => cases hab; exact oq _ (Ne.symm n1)
      | succ a => cases hab
    · rw [oq _ (Ne.symm n2)]; exact hG.2.2.1
    · rw [oq _ (Ne.symm n3)]; exact hG.2.2.2.1
    · by_cases htr : t = r
      · subst htr
        rw [e1, hcl, vp_cell_i, arrV_store, vp_cell_i]
        congr 2
        funext j
        unfold updV upR upI
        rw [if_pos rfl]
        split <;> rfl
      · rw [oq _ (fun h => htr (d3 t r ht hr h)), hG.2.2.2.2 t ht]
        unfold upR
        rw [if_neg htr]
theorem gx_get (hexec : p.tables.exec = Jvm.exec) (hb : c.code = cc) (hts : ∀ w ∈ wsU, w.before args s = true) (hown : s.vm.findClass "NoiseRing" = some m.cls) (hG : GX ω k q z M wk s H) (i : Nat) (hi : i < 5) {v : Value} (hv : ([.ref (og ω), .ref (ow ω), .int (iI k), .int (iI q), .int (iI z)] : List Value)[i]? = some v) {index : Nat} (hlink : Cond.fieldLink "NoiseRing" index "NoiseRing" (TX0 i).2.1 (TX0 i).2.2.1 ∈ wsU) (hdg : decode cc pc = .ok (.getfield index, 3))
    (kk : W p l e R s m args below meth c H locs cells slots Q (F0 m (pc + 3) ls (v :: rest))) : W p l e R s m args below meth c H locs cells slots Q (F0 m pc ls (.ref (ox ω) :: rest)) := by
  have hsame : ∀ x, s.fieldFound? (TX0 i).1 (TX0 i).2.1 (TX0 i).2.2.1 = some x → s.fieldFound? "NoiseRing" (TX0 i).2.1 (TX0 i).2.2.1 = some x := by
    have h0 : (TX0 i).1 = "NoiseRing" := by
      rcases (show i = 0 ∨ i = 1 ∨ i = 2 ∨ i = 3 ∨ i = 4 by omega) with rfl | rfl | rfl | rfl | rfl <;> rfl
    intro x hx
    rw [h0] at hx
    exact hx
  exact va_get (D := ω.1) (C := RX0) (T := TX0) (N := 5) hexec hb hts inX0 hown hG.1.1 hG.2.1 0 rfl rfl i hi (hts _ hlink) hsame hv hdg kk
end GXR
