/-! Writing a field: what else lies in the heap stays. The model's world. -/
section OBP
variable {p : Program} {l : Launch} {e : Env} {R : Room} {s : State} {m : MethodId} {args : Array Value} {below : List Frame} {meth : Method} {c : Code} {H : Heap} {locs : List Loc} {cells slots : Nat} {Q : State → Prop}
variable {cc : ByteArray} {pc : Nat} {ls : Array Slot} {rest : List Value} {D : va_G} {cl : List vw_C} {a : Nat} {tys : List (ClassId × FieldType)}
theorem ob_one {e0 : Nat × va_E} (h : va_at D cl e0 H) : va_P D cl [e0] H := fun k q hk => by
  cases k with
  | zero => cases hk; exact h
  | succ k => cases hk
theorem ob_put (hexec : p.tables.exec = Jvm.exec) (hb : c.code = cc) {own C : String} {T : u_T} {N ci index : Nat} (hts : ∀ w ∈ wsU, w.before args s = true) (hin : ∀ w ∈ u_ws C T N, w ∈ wsU) (ty0 : Nat → FieldType) (hty : ∀ k, k < N → parseFieldDescriptor (T k).2.2.1 = some (ty0 k)) (hnm : ∀ a, a < N → ∀ b, b < N → a ≠ b → (T a).2.1 ≠ (T b).2.1) (hown : s.vm.findClass own = some m.cls) (hK : va_K D cl tys s) {fs : List Value} (hP : va_P D cl [(a, .inr (ci, fs))] H) (hc : cl[ci]? = some (C, T, N)) (k : Nat) (hk : k < N)
    (hlink : Cond.fieldLink own index (T k).1 (T k).2.1 (T k).2.2.1 ∈ wsU) (hfin : (T k).2.2.2 = false) {ty : FieldType} {v : Value} (hd : parseFieldDescriptor (T k).2.2.1 = some ty) (hn : narrow ty v = v) (hfit : fits ty v = true) (hl : k < fs.length) (hdg : decode cc pc = .ok (.putfield index, 3))
    (kk : ∀ (H1 : Heap) (sl : Nat), va_P D cl [(a, .inr (ci, fs.set k v))] H1 → H1.size = H.size → (∀ q, q ≠ a → H1[q]? = H[q]?) → W p l e R s m args below meth c H1 (locs ++ [⟨a, sl⟩]) cells slots Q (F0 m (pc + 3) ls rest)) : W p l e R s m args below meth c H locs cells slots Q (F0 m pc ls (v :: .ref a :: rest)) := by
  have hap := va_apart (own := own) hts hin ty0 hty hnm hK hc
  obtain ⟨r, h1, cell, q1, q2, q3, q4⟩ := hP 0 _ rfl
  have hr : r = (C, T, N) := Option.some.inj (h1.symm.trans hc)
  subst hr
  obtain ⟨hS, hfc, kC, hkC, hkind⟩ := hK.1 ci _ hc
  obtain ⟨cf, kf, fi, f, hi, hsl⟩ := hS k hk
  have hlay := hts _ (hin _ (u_in_lay hk))
  unfold u_lay at hlay
  rw [if_neg (by rw [hfin]; decide)] at hlay
  have hst := (u_facts hfc hkC (u_lays hts hin hk) hi).1
  have h6 := u_store hfc hkC hkind hlay hi hd hn hfit
  refine W.putK hexec hb (f := f) ⟨hown, hts _ hlink, ⟨_, _, _, hi⟩, hst⟩ (by rw [q2]; exact h6) q1 q3 (by rw [hsl]; exact k2_hasslot (q4 k hk)) rfl rfl hdg fun H' e1 e2 e3 => ?_
  rw [hsl] at e1 ⊢
  exact kk H' _ (ob_one ⟨_, hc, t_OB.to (V := updV (vp_V fs) k v) ⟨_, e1, q2, q3, t_set q4 hap hk v⟩ (fun j _ => vp_updV_set hl v j)⟩) e2 e3
theorem ob_putF (hexec : p.tables.exec = Jvm.exec) (hb : c.code = cc) {own C : String} {T : u_T} {N ci index : Nat} (hts : ∀ w ∈ wsU, w.before args s = true) (hin : ∀ w ∈ u_ws C T N, w ∈ wsU) (ty0 : Nat → FieldType) (hty : ∀ k, k < N → parseFieldDescriptor (T k).2.2.1 = some (ty0 k)) (hnm : ∀ a, a < N → ∀ b, b < N → a ≠ b → (T a).2.1 ≠ (T b).2.1) (hown : s.vm.findClass own = some m.cls) (hK : va_K D cl tys s) {fs : List Value} (hP : va_P D cl [(a, .inr (ci, fs))] H) (hc : cl[ci]? = some (C, T, N)) (k : Nat) (hk : k < N)
    (hlink : Cond.fieldLink own index (T k).1 (T k).2.1 (T k).2.2.1 ∈ wsU) (hfin : (T k).2.2.2 = true) (hin2 : meth.name = "<init>") (hdecl : (T k).1 = own) {ty : FieldType} {v : Value} (hd : parseFieldDescriptor (T k).2.2.1 = some ty) (hn : narrow ty v = v) (hfit : fits ty v = true) (hl : k < fs.length) (hdg : decode cc pc = .ok (.putfield index, 3))
    (kk : ∀ (H1 : Heap) (sl : Nat), va_P D cl [(a, .inr (ci, fs.set k v))] H1 → H1.size = H.size → (∀ q, q ≠ a → H1[q]? = H[q]?) → W p l e R s m args below meth c H1 (locs ++ [⟨a, sl⟩]) cells slots Q (F0 m (pc + 3) ls rest)) : W p l e R s m args below meth c H locs cells slots Q (F0 m pc ls (v :: .ref a :: rest)) := by
  have hap := va_apart (own := own) hts hin ty0 hty hnm hK hc
  obtain ⟨r, h1, cell, q1, q2, q3, q4⟩ := hP 0 _ rfl
  have hr : r = (C, T, N) := Option.some.inj (h1.symm.trans hc)
  subst hr
  obtain ⟨hS, hfc, kC, hkC, hkind⟩ := hK.1 ci _ hc
  obtain ⟨cf, kf, fi, f, hi, hsl⟩ := hS k hk
  have hlay := hts _ (hin _ (u_in_lay hk))
  unfold u_lay at hlay
  rw [if_pos hfin] at hlay
  have hst := (u_facts hfc hkC (u_lays hts hin hk) hi).1
  have hcf : m.cls = cf := by
    obtain ⟨_, _, c', _, _, _, -, -, hf', -, -, -, hown2, -⟩ := Cond.laysFinal_spec hlay
    have e1 : c' = cf := by have := hi.symm.trans hf'; simp at this; exact this.1.symm
    rw [hdecl] at hown2
    rw [← e1]; exact Option.some.inj (hown.symm.trans hown2)
  have h6 := u_fits hfc hkC hkind (Or.inr hlay) hi hd hn hfit
  refine W.putFinK hexec hb hown (hts _ hlink) hi hst hcf hin2 (by rw [q2]; exact h6) q1 q3 (by rw [hsl]; exact k2_hasslot (q4 k hk)) rfl rfl hdg fun H' e1 e2 e3 => ?_
  rw [hsl] at e1 ⊢
  exact kk H' _ (ob_one ⟨_, hc, t_OB.to (V := updV (vp_V fs) k v) ⟨_, e1, q2, q3, t_set q4 hap hk v⟩ (fun j _ => vp_updV_set hl v j)⟩) e2 e3
end OBP
section GXP
variable {p : Program} {l : Launch} {e : Env} {R : Room} {s : State} {m : MethodId} {args : Array Value} {below : List Frame} {meth : Method} {c : Code} {H : Heap} {locs : List Loc} {cells slots : Nat} {Q : State → Prop}
variable {cc : ByteArray} {pc : Nat} {ls : Array Slot} {rest : List Value} {ω : WX} {k q z : Int} {M : Nat → Nat → Int} {wk : Nat → Int} {H0 : Heap}
theorem gx_obj {H1 : Heap} {k' q' z' : Int} (hG : GX ω k q z M wk s H) (hP : va_P ω.1 vwCl [(ox ω, .inr (0, [.ref (og ω), .ref (ow ω), .int (iI k'), .int (iI q'), .int (iI z')]))] H1) (hz : H1.size = H.size) (oq : ∀ q, q ≠ ox ω → H1[q]? = H[q]?) : GX ω k' q' z' M wk s H1 := by
  obtain ⟨⟨d1, d2, d3⟩, d4, d5⟩ := hG.1.2.2
  refine ⟨gx_new hG (Or.inl rfl) hz oq, hP, ?_, ?_, fun r hr => ?_⟩
  · rw [oq _ (Ne.symm d1)]; exact hG.2.2.1
  · rw [oq _ (Ne.symm d2)]; exact hG.2.2.2.1
  · rw [oq _ (d4 r hr).1]; exact hG.2.2.2.2 r hr
theorem gx_put2 (hexec : p.tables.exec = Jvm.exec) (hb : c.code = cc) (hts : ∀ w ∈ wsU, w.before args s = true) (hown : s.vm.findClass "NoiseRing" = some m.cls) (hG : GX ω k q z M wk s H) (hS : va_S (Ax ω) H0 H locs) {v : Int} {index : Nat} (hlink : Cond.fieldLink "NoiseRing" index "NoiseRing" "kind" "I" ∈ wsU) (hdg : decode cc pc = .ok (.putfield index, 3))
    (kk : ∀ (H1 : Heap) (locs1 : List Loc), GX ω v q z M wk s H1 → va_S (Ax ω) H0 H1 locs1 → W p l e R s m args below meth c H1 locs1 cells slots Q (F0 m (pc + 3) ls rest)) : W p l e R s m args below meth c H locs cells slots Q (F0 m pc ls (.int (iI v) :: .ref (ox ω) :: rest)) :=
  ob_put (D := ω.1) (C := RX0) (T := TX0) (N := 5) (ci := 0) (ty := .int) hexec hb hts inX0 tyX0 tyX0_ok nmX0 hown hG.1.1 hG.2.1 rfl 2 (by decide) hlink rfl (by decide +kernel) rfl rfl (Nat.le_of_ble_eq_true rfl) hdg (fun H1 sl hP hz oq => kk H1 _ (gx_obj hG hP hz oq) (hS.put hz oq (Or.inl rfl)))
theorem gx_put3 (hexec : p.tables.exec = Jvm.exec) (hb : c.code = cc) (hts : ∀ w ∈ wsU, w.before args s = true) (hown : s.vm.findClass "NoiseRing" = some m.cls) (hG : GX ω k q z M wk s H) (hS : va_S (Ax ω) H0 H locs) {v : Int} {index : Nat} (hlink : Cond.fieldLink "NoiseRing" index "NoiseRing" "q" "I" ∈ wsU) (hdg : decode cc pc = .ok (.putfield index, 3))
    (kk : ∀ (H1 : Heap) (locs1 : List Loc), GX ω k v z M wk s H1 → va_S (Ax ω) H0 H1 locs1 → W p l e R s m args below meth c H1 locs1 cells slots Q (F0 m (pc + 3) ls rest)) : W p l e R s m args below meth c H locs cells slots Q (F0 m pc ls (.int (iI v) :: .ref (ox ω) :: rest)) :=
  ob_put (D := ω.1) (C := RX0) (T := TX0) (N := 5) (ci := 0) (ty := .int) hexec hb hts inX0 tyX0 tyX0_ok nmX0 hown hG.1.1 hG.2.1 rfl 3 (by decide) hlink rfl (by decide +kernel) rfl rfl (Nat.le_of_ble_eq_true rfl) hdg (fun H1 sl hP hz oq => kk H1 _ (gx_obj hG hP hz oq) (hS.put hz oq (Or.inl rfl)))
theorem gx_put4 (hexec : p.tables.exec = Jvm.exec) (hb : c.code = cc) (hts : ∀ w ∈ wsU, w.before args s = true) (hown : s.vm.findClass "NoiseRing" = some m.cls) (hG : GX ω k q z M wk s H) (hS : va_S (Ax ω) H0 H locs) {v : Int} {index : Nat} (hlink : Cond.fieldLink "NoiseRing" index "NoiseRing" "z" "I" ∈ wsU) (hdg : decode cc pc = .ok (.putfield index, 3))
    (kk : ∀ (H1 : Heap) (locs1 : List Loc), GX ω k q v M wk s H1 → va_S (Ax ω) H0 H1 locs1 → W p l e R s m args below meth c H1 locs1 cells slots Q (F0 m (pc + 3) ls rest)) : W p l e R s m args below meth c H locs cells slots Q (F0 m pc ls (.int (iI v) :: .ref (ox ω) :: rest)) :=
  ob_put (D := ω.1) (C := RX0) (T := TX0) (N := 5) (ci := 0) (ty := .int) hexec hb hts inX0 tyX0 tyX0_ok nmX0 hown hG.1.1 hG.2.1 rfl 4 (by decide) hlink rfl (by decide +kernel) rfl rfl (Nat.le_of_ble_eq_true rfl) hdg (fun H1 sl hP hz oq => kk H1 _ (gx_obj hG hP hz oq) (hS.put hz oq (Or.inl rfl)))
/-- the work row is written -/
theorem gx_wst (hexec : p.tables.exec = Jvm.exec) (hb : c.code = cc) (hG : GX ω k q z M wk s H) (hS : va_S (Ax ω) H0 H locs) {i : Nat} (hi : i < 16) {v : Int} (hdg : decode cc pc = .ok (.iastore, 1))
    (kk : ∀ (H1 : Heap) (locs1 : List Loc), GX ω k q z M (upI wk i v) s H1 → va_S (Ax ω) H0 H1 locs1 → W p l e R s m args below meth c H1 locs1 cells slots Q (F0 m (pc + 1) ls rest)) : W p l e R s m args below meth c H locs cells slots Q (F0 m pc ls (.int (iI v) :: .int (iI i) :: .ref (ow ω) :: rest)) := by
  have hcl : (iI (i : Int)).toNatClampNeg = i := iI_cl (by omega)
  have hax : Ax ω (ow ω) := Or.inr (Or.inr (Or.inl rfl))
  refine W.iast hexec hb hG.2.2.2.1 ((hG.1.1.2 0 _ rfl).1 16 (fun j => .int (iI (wk j)))) (fun q => by cases q) ?_ rfl rfl hdg fun H1 e1 z1 oq => ?_
  · show ¬ (_ ∨ (arrV _ _ _).slots.size ≤ _)
    rw [arrV_size]
    exact iI_in (n := 16) hi (by decide)
  · obtain ⟨⟨d1, d2, d3⟩, d4, d5⟩ := hG.1.2.2
    refine kk H1 _ ⟨gx_new hG hax z1 oq, ob_one ((hG.2.1 0 _ rfl).kept (oq _ d2)), ?_, ?_, fun t ht => ?_⟩ (hS.put z1 oq hax)
    · rw [oq _ d3]; exact hG.2.2.1
    · rw [e1, hcl, vp_cell_i, arrV_store, vp_cell_i]
      congr 2
      funext j
      unfold updV upI
      split <;> rfl
    · rw [oq _ (d4 t ht).2.2]; exact hG.2.2.2.2 t ht
end GXP
/-! the model -/
abbrev WM : Type := va_G × ClassId × (Nat × Nat × Nat)
def nI_ (ω : WM) : ClassId := ω.2.1
def mo (ω : WM) : Nat := ω.2.2.1
def mg (ω : WM) : Nat := ω.2.2.2.1
def md (ω : WM) : Nat := ω.2.2.2.2
def Am (ω : WM) : Nat → Prop := fun a => a = mo ω ∨ a = mg ω ∨ a = md ω
def GM (ω : WM) (th k q : Int) (M : Nat → Nat → Int) (f : Nat → Int) (U : State) (H : Heap) : Prop :=
  (va_K ω.1 vwCl [(nI_ ω, .int)] U ∧ mo ω ≠ mg ω ∧ mo ω ≠ md ω ∧ mg ω ≠ md ω) ∧ va_P ω.1 vwCl [(mo ω, .inr (1, [.int (iI th), .int (iI k), .int (iI q), .ref (mg ω), .ref (md ω)]))] H ∧ H[mg ω]? = some (vp_cell (nI_ ω) (192, .inl (fun j => iI (M (j / 16) (j % 16))))) ∧ H[md ω]? = some (vp_cell (nI_ ω) (16, .inl (fun i => iI (f i))))
theorem GM.moved {ω : WM} {th k q : Int} {M : Nat → Nat → Int} {f : Nat → Int} {u U : State} {H : Heap} (h : u.vm.Alike U.vm) (g : GM ω th k q M f u H) : GM ω th k q M f U H := ⟨⟨va_K.moved h g.1.1, g.1.2⟩, g.2⟩
section GMR
variable {p : Program} {l : Launch} {e : Env} {R : Room} {s : State} {m : MethodId} {args : Array Value} {below : List Frame} {meth : Method} {c : Code} {H : Heap} {locs : List Loc} {cells slots : Nat} {Q : State → Prop}
variable {cc : ByteArray} {pc : Nat} {ls : Array Slot} {rest : List Value} {ω : WM} {th k q : Int} {M : Nat → Nat → Int} {f : Nat → Int} {H0 : Heap}
theorem gm_blind (av : List Value) : FrameBlind (va_Pc av (fun U => GM ω th k q M f U U.heap)) := fun a U g mk h => ⟨h.1, GM.moved (u := U) (U := U.calling g mk a) (Vm.Alike.refl U.vm) h.2⟩
theorem gm_S (hG : GM ω th k q M f s H) {As : List Value} : PreS s H (va_Pc As (fun U => GM ω th k q M f U U.heap)) As := ⟨gm_blind _, fun U hU hW => ⟨rfl, by have h := hG.moved hW.alike; rw [← hU] at h; exact h⟩⟩
theorem gm_recv (hG : GM ω th k q M f s H) : ∃ cell : Cell, H[mo ω]? = some cell ∧ cell.vm.isStatics = false ∧ s.vm.findClass RX1 = some cell.cls := va_recv (D := ω.1) (q := (RX1, TX1, 5)) (q0 := 0) (ci := 1) hG.1.1 hG.2.1 rfl rfl
theorem gm_V (hG : GM ω th k q M f s H) {As : List Value} : PreV s H RX1 (mo ω) (va_Pc (.ref (mo ω) :: As) (fun U => GM ω th k q M f U U.heap)) As := ⟨gm_blind _, gm_recv hG, fun U hU hW => ⟨rfl, by have h := hG.moved hW.alike; rw [← hU] at h; exact h⟩⟩
theorem gm_get (hexec : p.tables.exec = Jvm.exec) (hb : c.code = cc) (hts : ∀ w ∈ wsU, w.before args s = true) (hown : s.vm.findClass "NoiseRingModel" = some m.cls) (hG : GM ω th k q M f s H) (i : Nat) (hi : i < 5) {v : Value} (hv : ([.int (iI th), .int (iI k), .int (iI q), .ref (mg ω), .ref (md ω)] : List Value)[i]? = some v) {index : Nat} (hlink : Cond.fieldLink "NoiseRingModel" index "NoiseRingModel" (TX1 i).2.1 (TX1 i).2.2.1 ∈ wsU) (hdg : decode cc pc = .ok (.getfield index, 3))
    (kk : W p l e R s m args below meth c H locs cells slots Q (F0 m (pc + 3) ls (v :: rest))) : W p l e R s m args below meth c H locs cells slots Q (F0 m pc ls (.ref (mo ω) :: rest)) := by
  have hsame : ∀ x, s.fieldFound? (TX1 i).1 (TX1 i).2.1 (TX1 i).2.2.1 = some x → s.fieldFound? "NoiseRingModel" (TX1 i).2.1 (TX1 i).2.2.1 = some x := by
    have h0 : (TX1 i).1 = "NoiseRingModel" := by
      rcases (show i = 0 ∨ i = 1 ∨ i = 2 ∨ i = 3 ∨ i = 4 by omega) with rfl | rfl | rfl | rfl | rfl <;> rfl
    intro x hx
    rw [h0] at hx
    exact hx
  exact va_get (D := ω.1) (C := RX1) (T := TX1) (N := 5) hexec hb hts inX1 hown hG.1.1 hG.2.1 0 rfl rfl i hi (hts _ hlink) hsame hv hdg kk
theorem gm_rld (hexec : p.tables.exec = Jvm.exec) (hb : c.code = cc) (hG : GM ω th k q M f s H) {r i : Nat} (hr : r < 12) (hi : i < 16) (hdg : decode cc pc = .ok (.iaload, 1))
    (kk : W p l e R s m args below meth c H locs cells slots Q (F0 m (pc + 1) ls (.int (iI (M r i)) :: rest))) : W p l e R s m args below meth c H locs cells slots Q (F0 m pc ls (.int (iI ((16 * r + i : Nat) : Int)) :: .ref (mg ω) :: rest)) := by
  have hcl : (iI ((16 * r + i : Nat) : Int)).toNatClampNeg = 16 * r + i := iI_cl (by omega)
  refine W.iald (v := .int (iI (M r i))) hexec hb hG.2.2.1 ((hG.1.1.2 0 _ rfl).1 192 (fun j => .int (iI (M (j / 16) (j % 16))))) (fun q => by cases q) ?_ ?_ rfl rfl hdg kk
  · rw [vp_cell_i, arrV_size]
    exact iI_in (n := 192) (by omega) (by decide)
  · rw [vp_cell_i, hcl, arrV_read _ _ (show 16 * r + i < 192 by omega), show (16 * r + i) / 16 = r by omega, show (16 * r + i) % 16 = i by omega]
theorem gm_mld (hexec : p.tables.exec = Jvm.exec) (hb : c.code = cc) (hG : GM ω th k q M f s H) {i : Nat} (hi : i < 16) (hdg : decode cc pc = .ok (.iaload, 1))
    (kk : W p l e R s m args below meth c H locs cells slots Q (F0 m (pc + 1) ls (.int (iI (f i)) :: rest))) : W p l e R s m args below meth c H locs cells slots Q (F0 m pc ls (.int (iI i) :: .ref (md ω) :: rest)) := by
  have hcl : (iI (i : Int)).toNatClampNeg = i := iI_cl (by omega)
  refine W.iald (v := .int (iI (f i))) hexec hb hG.2.2.2 ((hG.1.1.2 0 _ rfl).1 16 (fun j => .int (iI (f j)))) (fun q => by cases q) ?_ ?_ rfl rfl hdg kk
  · rw [vp_cell_i, arrV_size]
    exact iI_in (n := 16) hi (by decide)
  · rw [vp_cell_i, hcl, arrV_read _ _ hi]
theorem gm_rst (hexec : p.tables.exec = Jvm.exec) (hb : c.code = cc) (hG : GM ω th k q M f s H) (hS : va_S (Am ω) H0 H locs) {r i : Nat} (hr : r < 12) (hi : i < 16) {v : Int} (hdg : decode cc pc = .ok (.iastore, 1))
    (kk : ∀ (H1 : Heap) (locs1 : List Loc), GM ω th k q (upR M r (upI (M r) i v)) f s H1 → va_S (Am ω) H0 H1 locs1 → W p l e R s m args below meth c H1 locs1 cells slots Q (F0 m (pc + 1) ls rest)) : W p l e R s m args below meth c H locs cells slots Q (F0 m pc ls (.int (iI v) :: .int (iI ((16 * r + i : Nat) : Int)) :: .ref (mg ω) :: rest)) := by
  have hcl : (iI ((16 * r + i : Nat) : Int)).toNatClampNeg = 16 * r + i := iI_cl (by omega)
  have hax : Am ω (mg ω) := Or.inr (Or.inl rfl)
  refine W.iast hexec hb hG.2.2.1 ((hG.1.1.2 0 _ rfl).1 192 (fun j => .int (iI (M (j / 16) (j % 16))))) (fun q => by cases q) ?_ rfl rfl hdg fun H1 e1 z1 oq => ?_
  · rw [vp_cell_i, arrV_size]
    exact iI_in (n := 192) (by omega) (by decide)
  · obtain ⟨d0, d1, d2, d3⟩ := hG.1
    refine kk H1 _ ⟨hG.1, ob_one ((hG.2.1 0 _ rfl).kept (oq _ d1)), ?_, ?_⟩ (hS.put z1 oq hax)
    · rw [e1, hcl, vp_cell_i, arrV_store, vp_cell_i]
      congr 2
      funext j
      unfold updV upR upI
      by_cases hj : j = 16 * r + i
      · rw [if_pos hj, hj, show (16 * r + i) / 16 = r by omega, show (16 * r + i) % 16 = i by omega, if_pos rfl, if_pos rfl]
      · rw [if_neg hj]
        by_cases hq : j / 16 = r
        · rw [if_pos hq, if_neg (by omega)]
          show Value.int (iI (M (j / 16) (j % 16))) = _
          rw [hq]
        · rw [if_neg hq]
    · rw [oq _ (Ne.symm d3)]; exact hG.2.2.2
theorem gm_mst (hexec : p.tables.exec = Jvm.exec) (hb : c.code = cc) (hG : GM ω th k q M f s H) (hS : va_S (Am ω) H0 H locs) {i : Nat} (hi : i < 16) {v : Int} (hdg : decode cc pc = .ok (.iastore, 1))
    (kk : ∀ (H1 : Heap) (locs1 : List Loc), GM ω th k q M (upI f i v) s H1 → va_S (Am ω) H0 H1 locs1 → W p l e R s m args below meth c H1 locs1 cells slots Q (F0 m (pc + 1) ls rest)) : W p l e R s m args below meth c H locs cells slots Q (F0 m pc ls (.int (iI v) :: .int (iI i) :: .ref (md ω) :: rest)) := by
  have hcl : (iI (i : Int)).toNatClampNeg = i := iI_cl (by omega)
  have hax : Am ω (md ω) := Or.inr (Or.inr rfl)
  refine W.iast hexec hb hG.2.2.2 ((hG.1.1.2 0 _ rfl).1 16 (fun j => .int (iI (f j)))) (fun q => by cases q) ?_ rfl rfl hdg fun H1 e1 z1 oq => ?_
  · rw [vp_cell_i, arrV_size]
    exact iI_in (n := 16) hi (by decide)
  · obtain ⟨d0, d1, d2, d3⟩ := hG.1
    refine kk H1 _ ⟨hG.1, ob_one ((hG.2.1 0 _ rfl).kept (oq _ d2)), ?_, ?_⟩ (hS.put z1 oq hax)
    · rw [oq _ d3]; exact hG.2.2.1
    · rw [e1, hcl, vp_cell_i, arrV_store, vp_cell_i]
      congr 2
      funext j
      unfold updV upI
      split <;> rfl
theorem gm_obj {H1 : Heap} {t' k' q' : Int} (hG : GM ω th k q M f s H) (hP : va_P ω.1 vwCl [(mo ω, .inr (1, [.int (iI t'), .int (iI k'), .int (iI q'), .ref (mg ω), .ref (md ω)]))] H1) (oq : ∀ q, q ≠ mo ω → H1[q]? = H[q]?) : GM ω t' k' q' M f s H1 := by
  obtain ⟨d0, d1, d2, d3⟩ := hG.1
  refine ⟨hG.1, hP, ?_, ?_⟩
  · rw [oq _ (Ne.symm d1)]; exact hG.2.2.1
  · rw [oq _ (Ne.symm d2)]; exact hG.2.2.2
theorem gm_put0 (hexec : p.tables.exec = Jvm.exec) (hb : c.code = cc) (hts : ∀ w ∈ wsU, w.before args s = true) (hown : s.vm.findClass "NoiseRingModel" = some m.cls) (hG : GM ω th k q M f s H) (hS : va_S (Am ω) H0 H locs) {v : Int} {index : Nat} (hlink : Cond.fieldLink "NoiseRingModel" index "NoiseRingModel" "thrown" "I" ∈ wsU) (hdg : decode cc pc = .ok (.putfield index, 3))
    (kk : ∀ (H1 : Heap) (locs1 : List Loc), GM ω v k q M f s H1 → va_S (Am ω) H0 H1 locs1 → W p l e R s m args below meth c H1 locs1 cells slots Q (F0 m (pc + 3) ls rest)) : W p l e R s m args below meth c H locs cells slots Q (F0 m pc ls (.int (iI v) :: .ref (mo ω) :: rest)) :=
  ob_put (D := ω.1) (C := RX1) (T := TX1) (N := 5) (ci := 1) (ty := .int) hexec hb hts inX1 tyX1 tyX1_ok nmX1 hown hG.1.1 hG.2.1 rfl 0 (by decide) hlink rfl (by decide +kernel) rfl rfl (Nat.le_of_ble_eq_true rfl) hdg (fun H1 sl hP hz oq => kk H1 _ (gm_obj hG hP oq) (hS.put hz oq (Or.inl rfl)))
theorem gm_put1 (hexec : p.tables.exec = Jvm.exec) (hb : c.code = cc) (hts : ∀ w ∈ wsU, w.before args s = true) (hown : s.vm.findClass "NoiseRingModel" = some m.cls) (hG : GM ω th k q M f s H) (hS : va_S (Am ω) H0 H locs) {v : Int} {index : Nat} (hlink : Cond.fieldLink "NoiseRingModel" index "NoiseRingModel" "kind" "I" ∈ wsU) (hdg : decode cc pc = .ok (.putfield index, 3))
    (kk : ∀ (H1 : Heap) (locs1 : List Loc), GM ω th v q M f s H1 → va_S (Am ω) H0 H1 locs1 → W p l e R s m args below meth c H1 locs1 cells slots Q (F0 m (pc + 3) ls rest)) : W p l e R s m args below meth c H locs cells slots Q (F0 m pc ls (.int (iI v) :: .ref (mo ω) :: rest)) :=
  ob_put (D := ω.1) (C := RX1) (T := TX1) (N := 5) (ci := 1) (ty := .int) hexec hb hts inX1 tyX1 tyX1_ok nmX1 hown hG.1.1 hG.2.1 rfl 1 (by decide) hlink rfl (by decide +kernel) rfl rfl (Nat.le_of_ble_eq_true rfl) hdg (fun H1 sl hP hz oq => kk H1 _ (gm_obj hG hP oq) (hS.put hz oq (Or.inl rfl)))
theorem gm_put2 (hexec : p.tables.exec = Jvm.exec) (hb : c.code = cc) (hts : ∀ w ∈ wsU, w.before args s = true) (hown : s.vm.findClass "NoiseRingModel" = some m.cls) (hG : GM ω th k q M f s H) (hS : va_S (Am ω) H0 H locs) {v : Int} {index : Nat} (hlink : Cond.fieldLink "NoiseRingModel" index "NoiseRingModel" "q" "I" ∈ wsU) (hdg : decode cc pc = .ok (.putfield index, 3))
    (kk : ∀ (H1 : Heap) (locs1 : List Loc), GM ω th k v M f s H1 → va_S (Am ω) H0 H1 locs1 → W p l e R s m args below meth c H1 locs1 cells slots Q (F0 m (pc + 3) ls rest)) : W p l e R s m args below meth c H locs cells slots Q (F0 m pc ls (.int (iI v) :: .ref (mo ω) :: rest)) :=
  ob_put (D := ω.1) (C := RX1) (T := TX1) (N := 5) (ci := 1) (ty := .int) hexec hb hts inX1 tyX1 tyX1_ok nmX1 hown hG.1.1 hG.2.1 rfl 2 (by decide) hlink rfl (by decide +kernel) rfl rfl (Nat.le_of_ble_eq_true rfl) hdg (fun H1 sl hP hz oq => kk H1 _ (gm_obj hG hP oq) (hS.put hz oq (Or.inl rfl)))
end GMR
