section
-- ===== PART A: goes FIRST, ahead of the names: the tables' words, and 'selects' of the private methods out of them =====
/-- a private method of a class that the tables say can be made, by its rows of tables_1 -/
def lw_okq (q : MethodName × Nat) : Prop := (q.1.cls ≠ "java/lang/invoke/MethodHandle" ∧ q.1.cls ≠ "java/lang/invoke/VarHandle") ∧ Cond.instantiable q.1.cls q.2 ∈ tables_1 ∧ Cond.privateMethod q.1 ∈ tables_1 ∧ Cond.instanceMethod q.1 ∈ tables_1
theorem lw_p0 : lw_okq (⟨"NoiseRing", "takeKind", "(I)V"⟩, 5) := ⟨⟨by decide +kernel, by decide +kernel⟩, List.mem_of_getElem? (i := 11) (by decide +kernel), List.mem_of_getElem? (i := 21) (by decide +kernel), List.mem_of_getElem? (i := 22) (by decide +kernel)⟩
theorem lw_p1 : lw_okq (⟨"NoiseRing", "power", "(II)I"⟩, 5) := ⟨⟨by decide +kernel, by decide +kernel⟩, List.mem_of_getElem? (i := 11) (by decide +kernel), List.mem_of_getElem? (i := 29) (by decide +kernel), List.mem_of_getElem? (i := 30) (by decide +kernel)⟩
theorem lw_p2 : lw_okq (⟨"NoiseRing", "emptyRegisters", "()I"⟩, 5) := ⟨⟨by decide +kernel, by decide +kernel⟩, List.mem_of_getElem? (i := 11) (by decide +kernel), List.mem_of_getElem? (i := 54) (by decide +kernel), List.mem_of_getElem? (i := 55) (by decide +kernel)⟩
theorem lw_p3 : lw_okq (⟨"java/lang/Throwable", "fillInStackTrace", "(I)Ljava/lang/Throwable;"⟩, 6) := ⟨⟨by decide +kernel, by decide +kernel⟩, List.mem_of_getElem? (i := 109) (by decide +kernel), List.mem_of_getElem? (i := 107) (by decide +kernel), List.mem_of_getElem? (i := 108) (by decide +kernel)⟩
theorem lw_p4 : lw_okq (⟨"NoiseRing", "joined", "(I[I[II)I"⟩, 5) := ⟨⟨by decide +kernel, by decide +kernel⟩, List.mem_of_getElem? (i := 11) (by decide +kernel), List.mem_of_getElem? (i := 187) (by decide +kernel), List.mem_of_getElem? (i := 188) (by decide +kernel)⟩
theorem lw_p5 : lw_okq (⟨"NoiseRing", "productAt", "([I[II)I"⟩, 5) := ⟨⟨by decide +kernel, by decide +kernel⟩, List.mem_of_getElem? (i := 11) (by decide +kernel), List.mem_of_getElem? (i := 191) (by decide +kernel), List.mem_of_getElem? (i := 192) (by decide +kernel)⟩
theorem lw_p6 : lw_okq (⟨"NoiseRing", "greatestSize", "([I)I"⟩, 5) := ⟨⟨by decide +kernel, by decide +kernel⟩, List.mem_of_getElem? (i := 11) (by decide +kernel), List.mem_of_getElem? (i := 201) (by decide +kernel), List.mem_of_getElem? (i := 202) (by decide +kernel)⟩
theorem lw_p7 : lw_okq (⟨"NoiseRing", "centredSize", "(I)I"⟩, 5) := ⟨⟨by decide +kernel, by decide +kernel⟩, List.mem_of_getElem? (i := 11) (by decide +kernel), List.mem_of_getElem? (i := 205) (by decide +kernel), List.mem_of_getElem? (i := 206) (by decide +kernel)⟩
theorem lw_p8 : lw_okq (⟨"NoiseRing", "rounded", "(III)I"⟩, 5) := ⟨⟨by decide +kernel, by decide +kernel⟩, List.mem_of_getElem? (i := 11) (by decide +kernel), List.mem_of_getElem? (i := 224) (by decide +kernel), List.mem_of_getElem? (i := 225) (by decide +kernel)⟩
theorem lw_p9 : lw_okq (⟨"NoiseRing", "fewerBits", "(II)I"⟩, 5) := ⟨⟨by decide +kernel, by decide +kernel⟩, List.mem_of_getElem? (i := 11) (by decide +kernel), List.mem_of_getElem? (i := 228) (by decide +kernel), List.mem_of_getElem? (i := 229) (by decide +kernel)⟩
theorem lw_p10 : lw_okq (⟨"NoiseRing", "moreBits", "(II)I"⟩, 5) := ⟨⟨by decide +kernel, by decide +kernel⟩, List.mem_of_getElem? (i := 11) (by decide +kernel), List.mem_of_getElem? (i := 236) (by decide +kernel), List.mem_of_getElem? (i := 237) (by decide +kernel)⟩
theorem lw_p11 : lw_okq (⟨"NoiseRing", "isAlpha", "(I)Z"⟩, 5) := ⟨⟨by decide +kernel, by decide +kernel⟩, List.mem_of_getElem? (i := 11) (by decide +kernel), List.mem_of_getElem? (i := 250) (by decide +kernel), List.mem_of_getElem? (i := 251) (by decide +kernel)⟩
theorem lw_p12 : lw_okq (⟨"NoiseRing", "partOf", "(II)I"⟩, 5) := ⟨⟨by decide +kernel, by decide +kernel⟩, List.mem_of_getElem? (i := 11) (by decide +kernel), List.mem_of_getElem? (i := 254) (by decide +kernel), List.mem_of_getElem? (i := 255) (by decide +kernel)⟩
theorem lw_p13 : lw_okq (⟨"NoiseRing", "restOf", "(II)I"⟩, 5) := ⟨⟨by decide +kernel, by decide +kernel⟩, List.mem_of_getElem? (i := 11) (by decide +kernel), List.mem_of_getElem? (i := 261) (by decide +kernel), List.mem_of_getElem? (i := 262) (by decide +kernel)⟩
theorem lw_p14 : lw_okq (⟨"NoiseRing", "movedPart", "(II)I"⟩, 5) := ⟨⟨by decide +kernel, by decide +kernel⟩, List.mem_of_getElem? (i := 11) (by decide +kernel), List.mem_of_getElem? (i := 279) (by decide +kernel), List.mem_of_getElem? (i := 280) (by decide +kernel)⟩
theorem lw_p15 : lw_okq (⟨"NoiseRing", "valueAt", "([IIII)I"⟩, 5) := ⟨⟨by decide +kernel, by decide +kernel⟩, List.mem_of_getElem? (i := 11) (by decide +kernel), List.mem_of_getElem? (i := 314) (by decide +kernel), List.mem_of_getElem? (i := 315) (by decide +kernel)⟩
def lw_privs_1 : List (MethodName × Nat) := [(⟨"NoiseRing", "takeKind", "(I)V"⟩, 5), (⟨"NoiseRing", "power", "(II)I"⟩, 5), (⟨"NoiseRing", "emptyRegisters", "()I"⟩, 5), (⟨"java/lang/Throwable", "fillInStackTrace", "(I)Ljava/lang/Throwable;"⟩, 6), (⟨"NoiseRing", "joined", "(I[I[II)I"⟩, 5), (⟨"NoiseRing", "productAt", "([I[II)I"⟩, 5), (⟨"NoiseRing", "greatestSize", "([I)I"⟩, 5), (⟨"NoiseRing", "centredSize", "(I)I"⟩, 5), (⟨"NoiseRing", "rounded", "(III)I"⟩, 5), (⟨"NoiseRing", "fewerBits", "(II)I"⟩, 5), (⟨"NoiseRing", "moreBits", "(II)I"⟩, 5), (⟨"NoiseRing", "isAlpha", "(I)Z"⟩, 5), (⟨"NoiseRing", "partOf", "(II)I"⟩, 5), (⟨"NoiseRing", "restOf", "(II)I"⟩, 5), (⟨"NoiseRing", "movedPart", "(II)I"⟩, 5), (⟨"NoiseRing", "valueAt", "([IIII)I"⟩, 5)]
theorem lw_r1 : ∀ q ∈ lw_privs_1, lw_okq q := List.forall_mem_cons.mpr ⟨lw_p0, List.forall_mem_cons.mpr ⟨lw_p1, List.forall_mem_cons.mpr ⟨lw_p2, List.forall_mem_cons.mpr ⟨lw_p3, List.forall_mem_cons.mpr ⟨lw_p4, List.forall_mem_cons.mpr ⟨lw_p5, List.forall_mem_cons.mpr ⟨lw_p6, List.forall_mem_cons.mpr ⟨lw_p7, List.forall_mem_cons.mpr ⟨lw_p8, List.forall_mem_cons.mpr ⟨lw_p9, List.forall_mem_cons.mpr ⟨lw_p10, List.forall_mem_cons.mpr ⟨lw_p11, List.forall_mem_cons.mpr ⟨lw_p12, List.forall_mem_cons.mpr ⟨lw_p13, List.forall_mem_cons.mpr ⟨lw_p14, List.forall_mem_cons.mpr ⟨lw_p15, fun _ h => absurd h List.not_mem_nil⟩⟩⟩⟩⟩⟩⟩⟩⟩⟩⟩⟩⟩⟩⟩⟩
theorem lw_p16 : lw_okq (⟨"NoiseRingModel", "at", "(II)I"⟩, 5) := ⟨⟨by decide +kernel, by decide +kernel⟩, List.mem_of_getElem? (i := 327) (by decide +kernel), List.mem_of_getElem? (i := 365) (by decide +kernel), List.mem_of_getElem? (i := 366) (by decide +kernel)⟩
theorem lw_p17 : lw_okq (⟨"NoiseRingModel", "of", "(J)I"⟩, 5) := ⟨⟨by decide +kernel, by decide +kernel⟩, List.mem_of_getElem? (i := 327) (by decide +kernel), List.mem_of_getElem? (i := 369) (by decide +kernel), List.mem_of_getElem? (i := 370) (by decide +kernel)⟩
theorem lw_p18 : lw_okq (⟨"NoiseRingModel", "put", "(I)I"⟩, 5) := ⟨⟨by decide +kernel, by decide +kernel⟩, List.mem_of_getElem? (i := 327) (by decide +kernel), List.mem_of_getElem? (i := 382) (by decide +kernel), List.mem_of_getElem? (i := 383) (by decide +kernel)⟩
theorem lw_p19 : lw_okq (⟨"NoiseRingModel", "most", "([I)I"⟩, 5) := ⟨⟨by decide +kernel, by decide +kernel⟩, List.mem_of_getElem? (i := 327) (by decide +kernel), List.mem_of_getElem? (i := 386) (by decide +kernel), List.mem_of_getElem? (i := 387) (by decide +kernel)⟩
theorem lw_p20 : lw_okq (⟨"NoiseRingModel", "size0", "(I)I"⟩, 5) := ⟨⟨by decide +kernel, by decide +kernel⟩, List.mem_of_getElem? (i := 327) (by decide +kernel), List.mem_of_getElem? (i := 390) (by decide +kernel), List.mem_of_getElem? (i := 391) (by decide +kernel)⟩
theorem lw_p21 : lw_okq (⟨"NoiseRingModel", "isAlpha", "(I)Z"⟩, 5) := ⟨⟨by decide +kernel, by decide +kernel⟩, List.mem_of_getElem? (i := 327) (by decide +kernel), List.mem_of_getElem? (i := 407) (by decide +kernel), List.mem_of_getElem? (i := 408) (by decide +kernel)⟩
theorem lw_p22 : lw_okq (⟨"NoiseRingModel", "partOf", "(II)I"⟩, 5) := ⟨⟨by decide +kernel, by decide +kernel⟩, List.mem_of_getElem? (i := 327) (by decide +kernel), List.mem_of_getElem? (i := 411) (by decide +kernel), List.mem_of_getElem? (i := 412) (by decide +kernel)⟩
theorem lw_p23 : lw_okq (⟨"NoiseRingModel", "restOf", "(II)I"⟩, 5) := ⟨⟨by decide +kernel, by decide +kernel⟩, List.mem_of_getElem? (i := 327) (by decide +kernel), List.mem_of_getElem? (i := 415) (by decide +kernel), List.mem_of_getElem? (i := 416) (by decide +kernel)⟩
theorem lw_p24 : lw_okq (⟨"NoiseRingModel", "valueOf", "(II)I"⟩, 5) := ⟨⟨by decide +kernel, by decide +kernel⟩, List.mem_of_getElem? (i := 327) (by decide +kernel), List.mem_of_getElem? (i := 447) (by decide +kernel), List.mem_of_getElem? (i := 448) (by decide +kernel)⟩
theorem lw_p25 : lw_okq (⟨"NoiseRingModel", "root", "()I"⟩, 5) := ⟨⟨by decide +kernel, by decide +kernel⟩, List.mem_of_getElem? (i := 327) (by decide +kernel), List.mem_of_getElem? (i := 451) (by decide +kernel), List.mem_of_getElem? (i := 452) (by decide +kernel)⟩
theorem lw_p26 : lw_okq (⟨"NoiseRingModel", "power", "(II)I"⟩, 5) := ⟨⟨by decide +kernel, by decide +kernel⟩, List.mem_of_getElem? (i := 327) (by decide +kernel), List.mem_of_getElem? (i := 455) (by decide +kernel), List.mem_of_getElem? (i := 456) (by decide +kernel)⟩
theorem lw_p27 : lw_okq (⟨"NoiseRingModel", "along", "(IIIJ)I"⟩, 5) := ⟨⟨by decide +kernel, by decide +kernel⟩, List.mem_of_getElem? (i := 327) (by decide +kernel), List.mem_of_getElem? (i := 459) (by decide +kernel), List.mem_of_getElem? (i := 460) (by decide +kernel)⟩
def lw_privs_2 : List (MethodName × Nat) := [(⟨"NoiseRingModel", "at", "(II)I"⟩, 5), (⟨"NoiseRingModel", "of", "(J)I"⟩, 5), (⟨"NoiseRingModel", "put", "(I)I"⟩, 5), (⟨"NoiseRingModel", "most", "([I)I"⟩, 5), (⟨"NoiseRingModel", "size0", "(I)I"⟩, 5), (⟨"NoiseRingModel", "isAlpha", "(I)Z"⟩, 5), (⟨"NoiseRingModel", "partOf", "(II)I"⟩, 5), (⟨"NoiseRingModel", "restOf", "(II)I"⟩, 5), (⟨"NoiseRingModel", "valueOf", "(II)I"⟩, 5), (⟨"NoiseRingModel", "root", "()I"⟩, 5), (⟨"NoiseRingModel", "power", "(II)I"⟩, 5), (⟨"NoiseRingModel", "along", "(IIIJ)I"⟩, 5)]
theorem lw_r2 : ∀ q ∈ lw_privs_2, lw_okq q := List.forall_mem_cons.mpr ⟨lw_p16, List.forall_mem_cons.mpr ⟨lw_p17, List.forall_mem_cons.mpr ⟨lw_p18, List.forall_mem_cons.mpr ⟨lw_p19, List.forall_mem_cons.mpr ⟨lw_p20, List.forall_mem_cons.mpr ⟨lw_p21, List.forall_mem_cons.mpr ⟨lw_p22, List.forall_mem_cons.mpr ⟨lw_p23, List.forall_mem_cons.mpr ⟨lw_p24, List.forall_mem_cons.mpr ⟨lw_p25, List.forall_mem_cons.mpr ⟨lw_p26, List.forall_mem_cons.mpr ⟨lw_p27, fun _ h => absurd h List.not_mem_nil⟩⟩⟩⟩⟩⟩⟩⟩⟩⟩⟩⟩
def lw_privs : List (MethodName × Nat) := lw_privs_1 ++ (lw_privs_2)
def lw_tbl : List Cond := k2_sels lw_privs ++ tables_1
theorem lw_privs_ok : ∀ q ∈ lw_privs, lw_okq q := by
  show ∀ q ∈ lw_privs_1 ++ (lw_privs_2), lw_okq q
  exact List.forall_mem_append.mpr ⟨lw_r1, lw_r2⟩
end
section
/-! ===== BEGIN words of one list among another's, by their places ===== -/
theorem goodIn_r {big : List Cond} (ws : List Cond) (ps : List Nat) (hp : ws = ps.filterMap (fun i => big[i]?)) (h : ws.all goodWord = true) : GoodIn big ws := by
  intro w hw
  have h1 := List.all_eq_true.mp h w hw
  rw [hp] at hw
  obtain ⟨i, -, hi⟩ := List.mem_filterMap.mp hw
  have hm : w ∈ big := by first | exact List.mem_of_getElem? hi | exact List.getElem?_mem hi
  exact ⟨hm, good_of_word h1⟩
theorem goodIn_app {big a b : List Cond} (ha : GoodIn big a) (hb : GoodIn big b) : GoodIn big (a ++ b) := fun w h => (List.mem_append.mp h).elim (ha w) (hb w)
theorem goodIn_ca {big a b : List Cond} {c : Cond} (ha : GoodIn big (c :: a)) (hb : GoodIn big b) : GoodIn big (c :: (a ++ b)) := fun w h => (List.mem_cons.mp h).elim (fun e => ha w (List.mem_cons.mpr (Or.inl e))) (fun h => (List.mem_append.mp h).elim (fun h => ha w (List.mem_cons.mpr (Or.inr h))) (hb w))
theorem goodIn_sub {big ws : List Cond} (hm : ∀ w ∈ ws, w ∈ big) (h : ws.all goodWord = true) : GoodIn big ws := fun w hw => ⟨hm w hw, good_of_word (List.all_eq_true.mp h w hw)⟩
/-! ===== END ===== -/

/-! ===== BEGIN new T[n][m]: the outer array a place, the inner ones among the pooled ===== -/
/-- f, but v at every address of l -/
def vr_up {α : Type} (f : Nat → α) (l : List Nat) (v : α) : Nat → α := fun a => if a ∈ l then v else f a
theorem vr_up_in {α : Type} {f : Nat → α} {l : List Nat} {v : α} {a : Nat} (h : a ∈ l) : vr_up f l v a = v := if_pos h
theorem vr_up_ne {α : Type} {f : Nat → α} {l : List Nat} {v : α} {a : Nat} (h : a ∉ l) : vr_up f l v a = f a := if_neg h
theorem vr_rows {L l : List Nat} {f : Nat → va_E} {e : va_E} (h : ∀ a, a ∈ l → a ∉ L) : va_pl L f ++ l.map (fun a => (a, e)) = va_pl (L ++ l) (vr_up f l e) := by
  unfold va_pl
  rw [List.map_append]
  congr 1
  · apply List.map_congr_left
    intro a ha
    rw [vr_up_ne (fun q => h a q ha)]
  · apply List.map_congr_left
    intro a ha
    rw [vr_up_in ha]
theorem vr_lay {X rows : va_W} {x : Nat × va_E} {pl : va_W} {D : va_G} {cl : List vw_C} {H : Heap} (hP : va_P D cl (((X ++ pl) ++ [x]) ++ rows) H) : va_P D cl ((X ++ [x]) ++ (pl ++ rows)) H := by
  rw [List.append_assoc (X ++ pl)] at hP
  have h := va_P.swap hP
  rw [← List.append_assoc X] at h
  have h2 := va_P.swap h
  rw [List.append_assoc (X ++ [x])] at h2
  exact h2
theorem vr_layD {X rows : va_W} {x : Nat × va_E} {pl : va_W} {A : Nat → Prop} (hD : va_D A (((X ++ pl) ++ [x]) ++ rows)) : va_D A ((X ++ [x]) ++ (pl ++ rows)) := by
  rw [List.append_assoc (X ++ pl)] at hD
  have h := va_D.swap hD
  rw [← List.append_assoc X] at h
  have h2 := va_D.swap h
  rw [List.append_assoc (X ++ [x])] at h2
  exact h2
theorem vr_outer (c : ClassId) (N h0 : Nat) : ∀ i : Nat, Jvm.Free.Multi.outerC c N h0 i = arrV c N (fun j => va_rf (if j < i then some (h0 + 1 + j) else none))
  | 0 => by
    show ({ cls := c, slots := Array.replicate N .null, vm := .none } : Cell) = _
    rw [arrV_new]
    refine congrArg (arrV c N) (funext fun j => ?_)
    simp [va_rf]
  | i + 1 => by
    show (Jvm.Free.Multi.outerC c N h0 i).setSlot i (.ref (h0 + 1 + i)) = _
    rw [vr_outer c N h0 i, arrV_store]
    refine congrArg (arrV c N) (funext fun j => ?_)
    by_cases e : j = i
    · subst e
      simp [updV, va_rf]
    · by_cases h : j < i
      · simp [updV, e, h, Nat.lt_succ_of_lt h]
      · simp [updV, e, h, show ¬ j < i + 1 by omega]
section VGM
variable {p : Program} {l : Launch} {e : Env} {R : Room} {s : State} {m : MethodId} {args : Array Value} {below : List Frame} {meth : Method} {c : Code} {H : Heap} {locs : List Loc} {cells slots : Nat} {Q : State → Prop}
variable {cc : ByteArray} {pc : Nat} {ls : Array Slot} {rest : List Value} {D : va_G} {cl : List vw_C} {A : Nat → Prop} {a : Nat} {tys : List (ClassId × FieldType)} {ws : va_W} {H0 : Heap}
def va_AOA (ty : FieldType) (U : State) : Prop := (Cond.arrayOver (.array ty)).before #[] U = true
theorem va_AOA.use {ty : FieldType} {A : Array Value} {U : State} (h : va_AOA ty U) : (Cond.arrayOver (.array ty)).before A U = true := h
theorem va_mna {X : va_W} {L : List Nat} {f : Nat → va_E} {cc : ByteArray} (hexec : p.tables.exec = Jvm.exec) (hb : c.code = cc) {own : String} {index : Nat} {ty : FieldType} {cy : ClassId} (hown : s.vm.findClass own = some m.cls) (hclink : (Cond.classLink own index ("[" ++ (FieldType.array ty).toString)).before args s = true) (hover : va_AOA ty s) (harr : (Cond.arrayClass ty).before args s = true) (hcy : s.vm.findClass (FieldType.array ty).toString = some cy)
    (hK : va_K D cl tys s) (hP : va_P D cl (X ++ va_pl L f) H) (hD : va_D A (X ++ va_pl L f)) (hS : va_S A H0 H locs) (hA : ∀ q, H0.size ≤ q → A q) {n k : Int32} {N' K' : Nat} {z : vp_A} (hn : ¬ n < 0) (hk : ¬ k < 0) (hN : n.toNatClampNeg = N') (hM : k.toNatClampNeg = K')
    (hb1 : N' * 4 ≤ 536870912) (hb2 : K' * componentBytes ty ≤ 536870912) (hb3 : K' ≤ 536870912) (hdf : fits ty (defaultValue ty) = true) (hdd : (defaultValue ty).isDefault = true) (hcells : cells + (1 + N') ≤ R.cells) (hslots : slots + (N' + N' * K') ≤ R.slots) (hz : ∀ c : ClassId, Jvm.Free.Multi.innerC c K' (defaultValue ty) = vp_cell c z) (hdg : decode cc pc = .ok (.multianewarray index 2, 4))
    (kk : ∀ (q : Nat) (r : Nat → Nat) (cA : ClassId) (H1 : Heap), (∀ i j : Nat, i < N' → j < N' → r i = r j → i = j) → (∀ i : Nat, i < N' → r i ∉ L) → va_K D cl (tys ++ [(cA, .array ty)]) s →
      va_P D cl ((X ++ [(q, .inl (cA, N', .inr (.inr (.inr (.inr (fun i => if i < N' then some (r i) else none))))))]) ++ va_pl (L ++ (List.range N').map r) (vr_up f ((List.range N').map r) (.inl (cy, z)))) H1 → va_D A ((X ++ [(q, .inl (cA, N', .inr (.inr (.inr (.inr (fun i => if i < N' then some (r i) else none))))))]) ++ va_pl (L ++ (List.range N').map r) (vr_up f ((List.range N').map r) (.inl (cy, z)))) → va_S A H0 H1 locs →
      W p l e R s m args below meth c H1 locs (cells + 1 + N') (slots + N' + N' * K') Q (F0 m (pc + 4) ls (.ref q :: rest))) : W p l e R s m args below meth c H locs cells slots Q (F0 m pc ls (.int k :: .int n :: rest)) := by
  subst hN
  subst hM
  intro T hT Xs
  obtain ⟨vm₁, cA, comp, -, fA, fC, hO, -, X', step⟩ := Xs.multianewarray2F hexec hown hclink (va_AOA.use hover) harr (g := F0 m pc ls (.int k :: .int n :: rest)) rfl (by rw [hb]; exact hdg) rfl hn hk hb1 hb2 hb3 hdf hdd hcells hslots
  have ec : some cy = some comp := hcy.symm.trans fC
  cases ec
  generalize hF : Jvm.Free.Multi.fill (T.setVm vm₁) cA cy n.toNatClampNeg k.toNatClampNeg (defaultValue ty) n.toNatClampNeg = F at X' step
  have hTh : (T.setVm vm₁).heap = H := hT
  obtain ⟨f1, f2, -, -⟩ := Jvm.Free.Multi.fill_facts (T.setVm vm₁) cA cy n.toNatClampNeg k.toNatClampNeg (defaultValue ty) n.toNatClampNeg
  rw [hF, hTh] at f1 f2
  have hold : ∀ x : Nat, x < H.size → F.heap[x]? = H[x]? := fun x hx => by
    have := Jvm.Free.Multi.fill_old (T.setVm vm₁) cA cy n.toNatClampNeg k.toNatClampNeg (defaultValue ty) (a := x) (by rw [hTh]; exact hx) n.toNatClampNeg
    rw [hF, hTh] at this
    exact this
  have hrow : ∀ j : Nat, j < n.toNatClampNeg → F.heap[H.size + 1 + j]? = some (vp_cell cy z) := fun j hj => by
    have := Jvm.Free.Multi.fill_inner (T.setVm vm₁) cA cy n.toNatClampNeg k.toNatClampNeg (defaultValue ty) n.toNatClampNeg j hj
    rw [hF, hTh, hz] at this
    exact this
  have hout : Jvm.Free.Multi.outerC cA n.toNatClampNeg H.size n.toNatClampNeg = vp_cell cA (n.toNatClampNeg, .inr (.inr (.inr (.inr (fun i => if i < n.toNatClampNeg then some (H.size + 1 + i) else none))))) := by
    rw [vp_cell_q]
    exact vr_outer cA n.toNatClampNeg H.size n.toNatClampNeg
  rw [hout] at f2
  have hlt : ∀ a, a ∈ L → a < H.size := fun a ha => by
    obtain ⟨k9, hk9⟩ := va_pl_get (X := X) (f := f) ha
    exact (hP k9 _ hk9).lt
  have hnl : ∀ i : Nat, i < n.toNatClampNeg → H.size + 1 + i ∉ L := fun i _ h => by
    have := hlt _ h
    omega
  have hnm : ∀ a, a ∈ (List.range n.toNatClampNeg).map (fun i => H.size + 1 + i) → a ∉ L := fun a ha h => by
    obtain ⟨i, -, rfl⟩ := List.mem_map.mp ha
    have := hlt _ h
    omega
  have hP0 : va_P D cl (X ++ va_pl L f) F.heap := hP.kept (fun k9 x hx => hold x.1 ((hP k9 x hx).lt))
  have hP1 : va_P D cl ((X ++ va_pl L f) ++ [(H.size, .inl (cA, n.toNatClampNeg, .inr (.inr (.inr (.inr (fun i => if i < n.toNatClampNeg then some (H.size + 1 + i) else none))))))]) F.heap := hP0.app (fun k9 x hx => by
    have h0 : k9 < 1 := (List.getElem?_eq_some_iff.mp hx).1
    rw [show k9 = 0 by omega] at hx
    cases hx
    exact f2)
  have hP2 : va_P D cl (((X ++ va_pl L f) ++ [(H.size, .inl (cA, n.toNatClampNeg, .inr (.inr (.inr (.inr (fun i => if i < n.toNatClampNeg then some (H.size + 1 + i) else none))))))]) ++ ((List.range n.toNatClampNeg).map (fun i => H.size + 1 + i)).map (fun a => (a, .inl (cy, z)))) F.heap := hP1.app (fun k9 x hx => by
    obtain ⟨a, ha, rfl⟩ := List.mem_map.mp (List.mem_of_getElem? hx)
    obtain ⟨i, hi, rfl⟩ := List.mem_map.mp ha
    exact hrow i (List.mem_range.mp hi))
  have hD2 : va_D A (((X ++ va_pl L f) ++ [(H.size, .inl (cA, n.toNatClampNeg, .inr (.inr (.inr (.inr (fun i => if i < n.toNatClampNeg then some (H.size + 1 + i) else none))))))]) ++ ((List.range n.toNatClampNeg).map (fun i => H.size + 1 + i)).map (fun a => (a, .inl (cy, z)))) := by
    have hD1 := hD.push (e := .inl (cA, n.toNatClampNeg, .inr (.inr (.inr (.inr (fun i => if i < n.toNatClampNeg then some (H.size + 1 + i) else none)))))) hP rfl (hA _ hS.1)
    generalize hW1 : (X ++ va_pl L f) ++ [(H.size, .inl (cA, n.toNatClampNeg, .inr (.inr (.inr (.inr (fun i => if i < n.toNatClampNeg then some (H.size + 1 + i) else none))))))] = W1 at hD1 hP1 ⊢
    have hle : ∀ (k9 : Nat) (x : Nat × va_E), W1[k9]? = some x → x.1 ≤ H.size := fun k9 x hx => by
      rw [← hW1] at hx
      by_cases hl : k9 < (X ++ va_pl L f).length
      · rw [List.getElem?_append_left hl] at hx
        exact Nat.le_of_lt ((hP k9 x hx).lt)
      · rw [List.getElem?_append_right (by omega)] at hx
        have h0 : k9 - (X ++ va_pl L f).length < 1 := (List.getElem?_eq_some_iff.mp hx).1
        rw [show k9 - (X ++ va_pl L f).length = 0 by omega] at hx
        cases hx
        exact Nat.le_refl _
    have hr : ∀ (k9 : Nat) (x : Nat × va_E), (((List.range n.toNatClampNeg).map (fun i => H.size + 1 + i)).map (fun a => ((a, .inl (cy, z)) : Nat × va_E)))[k9]? = some x → x.1 = H.size + 1 + k9 := fun k9 x hx => by
      rw [List.getElem?_map, List.getElem?_map] at hx
      by_cases h9 : k9 < n.toNatClampNeg
      · rw [List.getElem?_range h9] at hx
        cases hx
        rfl
      · have hn0 : (List.range n.toNatClampNeg)[k9]? = none := List.getElem?_eq_none (by rw [List.length_range]; omega)
        rw [hn0] at hx
        cases hx
    refine ⟨fun i j x y hi hj hxy => ?_, fun k9 x hx => ?_⟩
    · by_cases h1 : i < W1.length <;> by_cases h2 : j < W1.length
      · rw [List.getElem?_append_left h1] at hi
        rw [List.getElem?_append_left h2] at hj
        exact hD1.1 i j x y hi hj hxy
      · rw [List.getElem?_append_left h1] at hi
        rw [List.getElem?_append_right (by omega)] at hj
        have := hle _ _ hi
        have := hr _ _ hj
        omega
      · rw [List.getElem?_append_right (by omega)] at hi
        rw [List.getElem?_append_left h2] at hj
        have := hle _ _ hj
        have := hr _ _ hi
        omega
      · rw [List.getElem?_append_right (by omega)] at hi hj
        have := hr _ _ hi
        have := hr _ _ hj
        omega
    · by_cases h1 : k9 < W1.length
      · rw [List.getElem?_append_left h1] at hx
        exact hD1.2 k9 x hx
      · rw [List.getElem?_append_right (by omega)] at hx
        have := hr _ _ hx
        exact hA _ (by have := hS.1; omega)
  have hAr : ArrOfT s cA (.array ty) := fun N9 z9 => by
    obtain ⟨-, k9, hk9, cm9, hkk9⟩ := (hO 0 0 0).1
    exact ⟨(fun q hq => by cases hq), k9, hk9, cm9, hkk9⟩
  have hK2 : va_K D cl (tys ++ [(cA, .array ty)]) s := ⟨hK.1, fun k9 x hx => by
    by_cases hl : k9 < tys.length
    · rw [List.getElem?_append_left hl] at hx
      exact hK.2 k9 x hx
    · rw [List.getElem?_append_right (by omega)] at hx
      have h0 : k9 - tys.length < 1 := (List.getElem?_eq_some_iff.mp hx).1
      rw [show k9 - tys.length = 0 by omega] at hx
      cases hx
      exact ⟨hAr, fA⟩⟩
  obtain ⟨t, a1, b1⟩ := kk H.size (fun i => H.size + 1 + i) cA F.heap (fun i j _ _ h => by have h9 : H.size + 1 + i = H.size + 1 + j := h; omega) hnl hK2 (by rw [← vr_rows hnm]; exact vr_lay hP2) (by rw [← vr_rows hnm]; exact vr_layD hD2) ⟨by rw [f1]; have := hS.1; omega, fun x h1 h2 => (hold x (Nat.lt_of_lt_of_le h1 hS.1)).trans (hS.2.1 x h1 h2), hS.2.2⟩ F rfl X'
  refine ⟨t, step t ?_, b1⟩
  have e : T.heap.size = H.size := by rw [hT]
  rw [e]
  exact a1
end VGM
/-! ===== END ===== -/

/-! ===== BEGIN exceptions that leave a method, and their catching by the caller (launches without stack traces) ===== -/
section VXA
/-! The laws vx_back, vx_callV, vx_callS, vx_callSW, vx_throw0, vx_throwS follow proofs of the library, with one case more: JvmDerived/Free/Laws.lean (Back.of_free), Shelf42/LK1.lean (callV, callS), Shelf/KitTraced.lean (throwNew0V, throwNewS). -/
/-- where a method has thrown q: the class by its name, the cell, what was written, the world -/
def vx_T (XC : String → State → State → Prop) (st : State) (q : Addr) (t : State) (mc ms : Nat) (free : Addr → Prop) : Prop :=
  ∃ (E : String) (ce : Cell) (L : List Loc), XC E st t ∧ t.heap[q]? = some ce ∧ ce.vm = .none ∧ st.vm.findClass E = some ce.cls ∧ st.WarmedH t.vm ∧ st.sameButNew ({ t with vm := st.vm } : State) L mc ms ∧ ∀ z ∈ L, free z.base
def vx_Q (Qc : Array Value → State → Outcome → State → Prop) (XC : String → State → State → Prop) (mc ms : Nat) (free : Addr → Prop) : Array Value → State → Outcome → State → Prop := fun a st o t =>
  (Qc a st o t ∧ ∃ L, FrameEnd st o t L mc ms ∧ ∀ q ∈ L, free q.base) ∨ ∃ q, o = .threw q ∧ vx_T XC st q t mc ms free
/-- a callee that returns or throws -/
def vx_Met (l : Launch) (y : MethodName) (ws : List Cond) (rm : Room) (Pc : Array Value → State → Prop) (Qc : Array Value → State → Outcome → State → Prop) (XC : String → State → State → Prop) (mc ms : Nat) (free : Addr → Prop) : Prop :=
  MetFree l y (headSpec ws rm) Pc (fun _ _ _ _ _ => True) (vx_Q Qc XC mc ms free)
def vx_Post (XC : String → State → State → Prop) (mc ms : Nat) (free : Addr → Prop) : Pt → Array Value → Addr → Pt → Prop := fun A a q B =>
  ∃ (g : JFrame) (mk : MethodId) (t : State) (L : List Loc) (E : String) (ce : Cell), B.U.heap = t.heap ∧ B.U.vm = t.vm ∧ XC E (A.U.calling g mk a) t ∧ t.heap[q]? = some ce ∧ ce.vm = .none ∧ A.U.vm.findClass E = some ce.cls ∧ B.locs = A.locs ++ L ∧ (∀ z ∈ L, free z.base) ∧ B.cells = A.cells + mc ∧ B.slots = A.slots + ms
def vx_Back (l : Launch) (R : Room) (p : Program) (e : Env) (below : List Frame) (s : State) (sargs : Array Value) (y : MethodName) (len W9 : Nat)
    (Pre : Pt → Array Value → Prop) (Post : Pt → Array Value → Option Value → Pt → Prop) (PostX : Pt → Array Value → Addr → Pt → Prop) : Prop :=
  ∀ (m : MethodId) (meth : Method) (c : Code) (A : Pt) (g : JFrame) (ig : Instr) (mk : MethodId) (a : Array Value),
    Stand p l e R s m sargs below meth c A.U A.locs A.cells A.slots → g.method = m → g.locals.size = c.maxLocals → decode c.code g.pc = .ok (ig, len) →
    2 * g.monitorRoom + (g.stack.map fun v => v.category).sum ≤ W9 → A.U.methodNamed? y = some mk → Pre A a →
    (∃ (v : Option Value) (B : Pt), Stand p l e R s m sargs below meth c B.U B.locs B.cells B.slots ∧ Post A a v B ∧
      Steps p.tables e below (doInvoke e (A.U.setTop g) [] mk a).1 (B.U.setTop { g with pc := g.pc + len, stack := v.toList ++ g.stack })) ∨
    (∃ (q : Addr) (B : Pt), Stand p l e R s m sargs below meth c B.U B.locs B.cells B.slots ∧ PostX A a q B ∧
      Steps p.tables e below (doInvoke e (A.U.setTop g) [] mk a).1 ((B.U.setTop g).pushFrame (.throwing q)))
section Payer
variable {l : Launch} {R : Room} {p : Program} {e : Env} {below : List Frame} {s : State} {sargs : Array Value} {y : MethodName} {len W9 : Nat}
theorem vx_back {ws : List Cond} {rm : Room} {Pc : Array Value → State → Prop} {Qc : Array Value → State → Outcome → State → Prop} {XC : String → State → State → Prop} {mc ms : Nat} {free : Addr → Prop} {bytes : ByteArray} {maxL : Nat} {ret : Option FieldType}
    (hM : vx_Met l y ws rm Pc Qc XC mc ms free) (hblind : FrameBlind Pc) (hrc : rm.cells = mc) (hrs : rm.slots = ms)
    (hframes : rm.frames + 1 ≤ R.frames) (hlocals : W9 + (maxL + 11) + rm.locals ≤ R.locals)
    (hws : ∀ w ∈ ws, ∀ a' U, s.WarmedH U.vm → w.before a' U = true) (hcode : Cond.code y bytes maxL ret ∈ ws) (hinit : ∀ a' U, s.WarmedH U.vm → (Cond.initialized y.cls).before a' U = true) :
    vx_Back l R p e below s sargs y len W9 (PreOf R mc ms Pc) (PostOf Qc mc ms free) (vx_Post XC mc ms free) := by
  intro m meth c A g ig mk a X hg hsize hdg hW hn hp
  have h1 : (headSpec ws rm).pre.before a A.U = true := atoms_intro fun w hw => hws w hw _ _ X.warmed
  have h2 : (Cond.code y bytes maxL ret).before a A.U = true := hws _ hcode _ _ X.warmed
  have h3 : (Cond.initialized y.cls).before a A.U = true := hinit _ _ X.warmed
  have h4 : A.cells + (headSpec ws rm).room.cells ≤ R.cells := by rw [show (headSpec ws rm).room.cells = mc from hrc]; exact hp.1
  have h5 : A.slots + (headSpec ws rm).room.slots ≤ R.slots := by rw [show (headSpec ws rm).room.slots = ms from hrs]; exact hp.2.1
  have hPc : Pc a (A.U.calling g mk a) := hblind _ _ _ _ hp.2.2
  obtain ⟨U, Ls, c0, s0⟩ := A
  dsimp only [Pt.U, Pt.locs, Pt.cells, Pt.slots] at h1 h2 h3 h4 h5 X hn hPc ⊢
  obtain ⟨methY, cY, hmY, hcY, -, hlY, -, -, -, -⟩ := Cond.code_spec hn h2
  obtain ⟨kY, hkY, -⟩ := className_of_methodNamed hn
  have hinitY : kY.init = .initialized := Cond.initialized_spec (findClass_of_methodNamed hn) hkY h3
  have h : At U g.method c below := by rw [hg]; exact X.here
  have hlocals9 : W9 + (maxL + 11) + (headSpec ws rm).room.locals ≤ R.locals := hlocals
  have happ : (headSpec ws rm).appliesLoose y e.platform (U.calling g mk a) = true :=
    Spec.appliesLoose_calling (g := g) h hdg hn hkY hinitY
      (X.room_calling (g := g) (R' := (headSpec ws rm).room) hsize hmY hcY hframes (by rw [hlY]; omega) h4 h5) h1
  obtain ⟨mid, hmid⟩ := h.above
  have hfr : (U.setTop g).frames = (.java g :: mid) ++ below := by rw [State.frames_setTop' g h.top, hmid]; rfl
  obtain ⟨o, s₂, hsteps, -, hend, hq⟩ := Steps.callFree hM p X.admits X.cas X.clock (acts := []) hfr happ hPc trivial
  have hq' : vx_Q Qc XC mc ms free a (U.calling g mk a) o s₂ := hq
  rw [State.frames_setTop' g h.top] at hend
  obtain ⟨g₀, hg0⟩ := Option.isSome_iff_exists.mp h.top
  obtain ⟨r, hr⟩ := State.topJava?_eq_some.mp hg0
  have hr' : (({ U with heap := s₂.heap, slotsUsed := s₂.slotsUsed } : State).setVm s₂.vm).frames = .java g₀ :: r := hr
  rcases hq' with ⟨hqc, L, hfe, hL⟩ | ⟨q, rfl, E, ce, L, hx, hce, hcv, hcl, hW₂, hsm, hL⟩
  · obtain ⟨⟨v, rfl⟩, hW₂, e2, q2, q3, q4, q5, q6⟩ := id hfe
    have e3 : s₂ = ({ (U.calling g mk a).setFrames s₂.frames with heap := s₂.heap, slotsUsed := s₂.slotsUsed } : State).setVm s₂.vm := by
      have : s₂ = ({ s₂ with vm := (U.calling g mk a).vm } : State).setVm s₂.vm := rfl
      rw [e2] at this
      exact this
    obtain ⟨c₂, i₂, len₂, hc₂, hd₂, hf₂⟩ := hend
    have hW' : U.WarmedH s₂.vm := hW₂
    have hcc : c₂ = c := by
      have h1 : s₂.code? g.method = U.code? g.method := by
        rw [State.code?_eq, State.code?_eq, hW'.alike.method?]
      exact Option.some.inj (hc₂.symm.trans (h1.trans h.code))
    subst hcc
    have hlen : len₂ = len := by rw [hdg] at hd₂; cases hd₂; rfl
    subst hlen
    have hs₂ : s₂ = (({ U with heap := s₂.heap, slotsUsed := s₂.slotsUsed } : State).setVm s₂.vm).setTop { g with pc := g.pc + len₂, stack := v.toList ++ g.stack } := by
      refine e3.trans ?_
      rw [hf₂, State.calling_eq h.top, State.setFrames_setFrames, State.setTop_of_frames _ hr', hr]
      rfl
    have hsame : U.sameButNew ({ U with heap := s₂.heap, slotsUsed := s₂.slotsUsed } : State) L mc ms := by
      refine ⟨?_, q2, q3, q4, q5, q6⟩
      obtain ⟨t, ht, -⟩ := State.frames_cons hr
      show ({ U with heap := s₂.heap, slotsUsed := s₂.slotsUsed } : State) = { U.setFrames U.frames with heap := s₂.heap, slotsUsed := s₂.slotsUsed }
      rw [State.setFrames_self ht]
    subst hg
    refine Or.inl ⟨v, ⟨(({ U with heap := s₂.heap, slotsUsed := s₂.slotsUsed } : State).setVm s₂.vm), Ls ++ L, c0 + mc, s0 + ms⟩,
      ⟨X.admits, X.cas, X.clock, X.frames, X.room, X.hears, X.method, X.code, (X.here.setHeapUsed s₂.heap s₂.slotsUsed).setVm hW'.alike, X.tail, State.WarmedH.trans X.warmed hW', X.limits, X.bytes, X.same.trans (hsame.setVm s.vm)⟩,
      ⟨g, mk, s₂, L, rfl, rfl, hqc, rfl, hL, rfl, rfl⟩, ?_⟩
    show Steps p.tables e below _ ((({ U with heap := s₂.heap, slotsUsed := s₂.slotsUsed } : State).setVm s₂.vm).setTop { g with pc := g.pc + len₂, stack := v.toList ++ g.stack })
    rw [← hs₂]
    exact hsteps
  · obtain ⟨e2, q2, q3, q4, q5, q6⟩ := id hsm
    have e3 : s₂ = ({ (U.calling g mk a).setFrames s₂.frames with heap := s₂.heap, slotsUsed := s₂.slotsUsed } : State).setVm s₂.vm := by
      have : s₂ = ({ s₂ with vm := (U.calling g mk a).vm } : State).setVm s₂.vm := rfl
      rw [e2] at this
      exact this
    have hf₂ : s₂.frames = .throwing q :: .java g :: U.frames.tail := hend
    have hW' : U.WarmedH s₂.vm := hW₂
    have hs₂ : s₂ = ((({ U with heap := s₂.heap, slotsUsed := s₂.slotsUsed } : State).setVm s₂.vm).setTop g).pushFrame (.throwing q) := by
      refine e3.trans ?_
      rw [hf₂, State.calling_eq h.top, State.setFrames_setFrames, State.pushFrame, State.frames_setTop _ hr', State.setTop_of_frames _ hr', State.setFrames_setFrames, hr]
      rfl
    have hsame : U.sameButNew ({ U with heap := s₂.heap, slotsUsed := s₂.slotsUsed } : State) L mc ms := by
      refine ⟨?_, q2, q3, q4, q5, q6⟩
      obtain ⟨t, ht, -⟩ := State.frames_cons hr
      show ({ U with heap := s₂.heap, slotsUsed := s₂.slotsUsed } : State) = { U.setFrames U.frames with heap := s₂.heap, slotsUsed := s₂.slotsUsed }
      rw [State.setFrames_self ht]
    subst hg
    refine Or.inr ⟨q, ⟨(({ U with heap := s₂.heap, slotsUsed := s₂.slotsUsed } : State).setVm s₂.vm), Ls ++ L, c0 + mc, s0 + ms⟩,
      ⟨X.admits, X.cas, X.clock, X.frames, X.room, X.hears, X.method, X.code, (X.here.setHeapUsed s₂.heap s₂.slotsUsed).setVm hW'.alike, X.tail, State.WarmedH.trans X.warmed hW', X.limits, X.bytes, X.same.trans (hsame.setVm s.vm)⟩,
      ⟨g, mk, s₂, L, E, ce, rfl, rfl, hx, hce, hcv, hcl, rfl, hL, rfl, rfl⟩, ?_⟩
    show Steps p.tables e below _ (((({ U with heap := s₂.heap, slotsUsed := s₂.slotsUsed } : State).setVm s₂.vm).setTop g).pushFrame (.throwing q))
    rw [← hs₂]
    exact hsteps
end Payer
section Calls
variable {p : Program} {l : Launch} {e : Env} {R : Room} {s : State} {m : MethodId} {args : Array Value} {below : List Frame} {meth : Method} {c : Code} {T : State} {locs : List Loc} {cells slots : Nat}
theorem vx_callV (X : Stand p l e R s m args below meth c T locs cells slots) (hexec : p.tables.exec = Jvm.exec) {own C : String} {index : Nat} {y : MethodName} {bytes : ByteArray} {maxL : Nat} {ret : Option FieldType}
    (hown : s.vm.findClass own = some m.cls) (hlink : (Cond.methodLink own index y).before args s = true) (hinst : (Cond.instanceMethod y).before args s = true) (hsel : (Cond.selects C y y).before args s = true)
    (hcode : (Cond.code y bytes maxL ret).before args s = true) (hy : y.cls ≠ "java/lang/invoke/MethodHandle" ∧ y.cls ≠ "java/lang/invoke/VarHandle")
    {W9 : Nat} {Pre : Pt → Array Value → Prop} {Post : Pt → Array Value → Option Value → Pt → Prop} {PostX : Pt → Array Value → Addr → Pt → Prop} (hK : vx_Back l R p e below s args y 3 W9 Pre Post PostX)
    {b : Addr} {cellB : Cell} (hcell : T.heap[b]? = some cellB) (hobj : cellB.vm.isStatics = false) (hcls : s.vm.findClass C = some cellB.cls)
    {g : JFrame} (hg : g.method = m) (hsize : g.locals.size = c.maxLocals) {argsL rest : List Value} (hlen : ∀ sig, parseMethodDescriptor y.desc = some sig → argsL.length = sig.parameters.length)
    (hstack : g.stack = argsL.reverse ++ .ref b :: rest) (hW : 2 * g.monitorRoom + (rest.map fun v => v.category).sum ≤ W9) (hdg : decode c.code g.pc = .ok (.invokevirtual index, 3))
    (hpre : ∀ vm₁, s.WarmedH vm₁ → Pre ⟨T.setVm vm₁, locs, cells, slots⟩ (Value.ref b :: argsL).toArray) :
    (∃ (v : Option Value) (vm₁ : Vm) (B : Pt), s.WarmedH vm₁ ∧ Stand p l e R s m args below meth c B.U B.locs B.cells B.slots ∧ Post ⟨T.setVm vm₁, locs, cells, slots⟩ (Value.ref b :: argsL).toArray v B ∧
      ∀ target, Steps p.tables e below (B.U.setTop { g with pc := g.pc + 3, stack := v.toList ++ rest }) target → Steps p.tables e below (T.setTop g) target) ∨
    (∃ (q : Addr) (vm₁ : Vm) (B : Pt), s.WarmedH vm₁ ∧ Stand p l e R s m args below meth c B.U B.locs B.cells B.slots ∧ PostX ⟨T.setVm vm₁, locs, cells, slots⟩ (Value.ref b :: argsL).toArray q B ∧
      Steps p.tables e below (T.setTop g) ((B.U.setTop { g with stack := rest }).pushFrame (.throwing q))) := by
  obtain ⟨mk, methM, hnamed, hmethM, hstM, habM⟩ := Cond.instanceMethod_spec hinst
  obtain ⟨methM', cM, hmethM', -, -, -, -, -, -, hsigM⟩ := Cond.code_spec hnamed hcode
  cases hmethM.symm.trans hmethM'
  obtain ⟨c2, r2, m2, q1, q2, q3, q4, kP, hkP, hkPi⟩ := Cond.selects_spec hsel
  cases hcls.symm.trans q1
  cases (State.methodFound?_of_named hnamed hy).symm.trans q2
  cases hnamed.symm.trans q3
  have hselP : selectMethod e.platform s.vm cellB.cls mk = .method mk := by rw [Launch.admits_selectMethod X.admits]; exact q4
  obtain ⟨vm₁, X₁, hstep₁⟩ := X.invokevirtual hexec hown hlink hnamed hmethM hstM hkP hkPi hy (a := b) (cell := cellB) hcell
    (fun z h => by rw [h] at hobj; cases hobj) hselP hmethM habM hkP hkPi (g := g) hg (argsL := argsL) (rest := rest) (hlen _ hsigM) hstack hdg
  rcases hK m meth c ⟨T.setVm vm₁, locs, cells, slots⟩ { g with stack := rest } (.invokevirtual index) mk (Value.ref b :: argsL).toArray X₁ hg hsize hdg hW (X₁.named hnamed) (hpre vm₁ X₁.warmed) with ⟨v, B, X', hpost, hsteps⟩ | ⟨q, B, X', hpost, hsteps⟩
  · exact Or.inl ⟨v, vm₁, B, X₁.warmed, X', hpost, fun target h => hstep₁ _ fun acts => by rw [doInvoke_state]; exact hsteps.trans h⟩
  · exact Or.inr ⟨q, vm₁, B, X₁.warmed, X', hpost, hstep₁ _ fun acts => by rw [doInvoke_state]; exact hsteps⟩
theorem vx_callS (X : Stand p l e R s m args below meth c T locs cells slots) (hexec : p.tables.exec = Jvm.exec) {own : String} {index : Nat} {y : MethodName} {bytes : ByteArray} {maxL : Nat} {ret : Option FieldType}
    (hown : s.vm.findClass own = some m.cls) (hlink : (Cond.methodLink own index y).before args s = true) (hstat : (Cond.static y).before args s = true) (hinit : (Cond.initialized y.cls).before args s = true)
    (hcode : (Cond.code y bytes maxL ret).before args s = true) (hy : y.cls ≠ "java/lang/invoke/MethodHandle" ∧ y.cls ≠ "java/lang/invoke/VarHandle")
    {W9 : Nat} {Pre : Pt → Array Value → Prop} {Post : Pt → Array Value → Option Value → Pt → Prop} {PostX : Pt → Array Value → Addr → Pt → Prop} (hK : vx_Back l R p e below s args y 3 W9 Pre Post PostX)
    {g : JFrame} (hg : g.method = m) (hsize : g.locals.size = c.maxLocals) {argsL rest : List Value} (hlen : ∀ sig, parseMethodDescriptor y.desc = some sig → argsL.length = sig.parameters.length)
    (hstack : g.stack = argsL.reverse ++ rest) (hW : 2 * g.monitorRoom + (rest.map fun v => v.category).sum ≤ W9) (hdg : decode c.code g.pc = .ok (.invokestatic index, 3))
    (hpre : ∀ vm₁, s.WarmedH vm₁ → Pre ⟨T.setVm vm₁, locs, cells, slots⟩ argsL.toArray) :
    (∃ (v : Option Value) (vm₁ : Vm) (B : Pt), s.WarmedH vm₁ ∧ Stand p l e R s m args below meth c B.U B.locs B.cells B.slots ∧ Post ⟨T.setVm vm₁, locs, cells, slots⟩ argsL.toArray v B ∧
      ∀ target, Steps p.tables e below (B.U.setTop { g with pc := g.pc + 3, stack := v.toList ++ rest }) target → Steps p.tables e below (T.setTop g) target) ∨
    (∃ (q : Addr) (vm₁ : Vm) (B : Pt), s.WarmedH vm₁ ∧ Stand p l e R s m args below meth c B.U B.locs B.cells B.slots ∧ PostX ⟨T.setVm vm₁, locs, cells, slots⟩ argsL.toArray q B ∧
      Steps p.tables e below (T.setTop g) ((B.U.setTop { g with stack := rest }).pushFrame (.throwing q))) := by
  obtain ⟨mk, hnamed⟩ := Cond.code_named hcode
  obtain ⟨methM, cM, hmethM, -, -, -, -, -, -, hsigM⟩ := Cond.code_spec hnamed hcode
  have hstatic : methM.isStatic = true := Cond.static_spec hnamed hmethM hstat
  obtain ⟨kP, hkP, -⟩ := className_of_methodNamed hnamed
  have hinitP : kP.init = .initialized := Cond.initialized_spec (findClass_of_methodNamed hnamed) hkP hinit
  obtain ⟨vm₁, X₁, hstep₁⟩ := X.invokestatic hexec hown hlink hnamed hmethM hstatic hkP hinitP hy (g := g) hg (argsL := argsL) (rest := rest) (hlen _ hsigM) hstack hdg
  rcases hK m meth c ⟨T.setVm vm₁, locs, cells, slots⟩ { g with stack := rest } (.invokestatic index) mk argsL.toArray X₁ hg hsize hdg hW (X₁.named hnamed) (hpre vm₁ X₁.warmed) with ⟨v, B, X', hpost, hsteps⟩ | ⟨q, B, X', hpost, hsteps⟩
  · exact Or.inl ⟨v, vm₁, B, X₁.warmed, X', hpost, fun target h => hstep₁ _ fun acts => by rw [doInvoke_state]; exact hsteps.trans h⟩
  · exact Or.inr ⟨q, vm₁, B, X₁.warmed, X', hpost, hstep₁ _ fun acts => by rw [doInvoke_state]; exact hsteps⟩
end Calls
theorem vx_cls {s : State} {T : State} {vm₁ : Vm} {E : String} {k : ClassId} (hW : s.WarmedH vm₁) (h : (T.setVm vm₁).vm.findClass E = some k) : s.vm.findClass E = some k := by
  have h1 : vm₁.findClass E = some k := h
  rw [hW.alike.findClass] at h1
  exact h1
/-- the method's frame g, with q thrown over it -/
def vx_W (p : Program) (l : Launch) (e : Env) (R : Room) (s : State) (m : MethodId) (args : Array Value) (below : List Frame) (meth : Method) (c : Code) (H : Heap) (locs : List Loc) (cells slots : Nat) (Q : State → Prop) (g : JFrame) (q : Addr) : Prop :=
  ∀ T : State, T.heap = H → Stand p l e R s m args below meth c T locs cells slots → ∃ t, Steps p.tables e below ((T.setTop g).pushFrame (.throwing q)) t ∧ Q t
def vx_Run (p : Program) (l : Launch) (e : Env) (R : Room) (s : State) (m : MethodId) (args : Array Value) (below : List Frame) (meth : Method) (c : Code) (H : Heap) (locs : List Loc) (cells slots mc ms : Nat) (g : JFrame) (rest : List Value) (Qa : State → Outcome → State → Prop) (XC : String → State → State → Prop) (free : Addr → Prop) : Prop :=
  ∀ T : State, T.heap = H → Stand p l e R s m args below meth c T locs cells slots →
    (∃ (v : Option Value) (st₀ t T' : State) (L : List Loc), st₀.heap = H ∧ Stand p l e R s m args below meth c T' (locs ++ L) (cells + mc) (slots + ms) ∧ (∀ q ∈ L, free q.base) ∧ T'.heap = t.heap ∧ T'.vm = t.vm ∧ Qa st₀ (.returned v) t ∧
      Goes p e below T g T' { g with pc := g.pc + 3, stack := v.toList ++ rest }) ∨
    (∃ (q : Addr) (st₀ t T' : State) (L : List Loc) (E : String) (ce : Cell), st₀.heap = H ∧ Stand p l e R s m args below meth c T' (locs ++ L) (cells + mc) (slots + ms) ∧ (∀ z ∈ L, free z.base) ∧ T'.heap = t.heap ∧ T'.vm = t.vm ∧ XC E st₀ t ∧ t.heap[q]? = some ce ∧ ce.vm = .none ∧ s.vm.findClass E = some ce.cls ∧
      Steps p.tables e below (T.setTop g) ((T'.setTop { g with stack := rest }).pushFrame (.throwing q)))
def vx_X {S : Type} (px : S → Prop) (B : String → S → State → Prop) (A : Nat → Prop) : String → State → State → Prop := fun E st t => ∃ u : S, px u ∧ B E u t ∧ va_F A st t
section Runs
variable {p : Program} {l : Launch} {e : Env} {R : Room} {s : State} {m : MethodId} {args : Array Value} {below : List Frame} {meth : Method} {c : Code} {H : Heap} {locs : List Loc} {cells slots : Nat}
variable {y : MethodName} {bytes cc : ByteArray} {maxL nL mc ms n index : Nat} {ret : Option FieldType} {ws : List Cond} {rm : Room} {Pc : Array Value → State → Prop} {Qc : Array Value → State → Outcome → State → Prop} {XC : String → State → State → Prop} {free : Addr → Prop} {Ts : List Cond} {own C : String} {b : Addr} {As rest : List Value} {g : JFrame}
theorem vx_callBack (cb : CallB R s args own index y bytes maxL ret ws rm mc ms n) (hM : vx_Met l y ws rm Pc Qc XC mc ms free) (hbl : FrameBlind Pc) : vx_Back l R p e below s args y 3 8 (PreOf R mc ms Pc) (PostOf Qc mc ms free) (vx_Post XC mc ms free) := by
  obtain ⟨hrc, hrs, hfr, hlo, hws, hcw, -, hini, -⟩ := cb
  exact vx_back (bytes := bytes) (maxL := maxL) (ret := ret) hM hbl hrc hrs hfr hlo hws hcw (fun a' U hW => word_at hW (Or.inl (by first | rfl | simp [Cond.onTables, Cond.keeps, Cond.steady])) hini)
theorem vx_runV (S : CallFix p m c cc nL s args Ts own) (hM : vx_Met l y ws rm Pc Qc XC mc ms free) (cw : CallW R s args own C index y bytes maxL ret ws rm mc ms n) (hp : PreV s H C b Pc As)
    (hg : g.method = m) (hn : As.length = n) (hsize : g.locals.size = nL) (hstack : g.stack = As.reverse ++ .ref b :: rest) (hW : 2 * g.monitorRoom + (rest.map fun v => v.category).sum ≤ 8) (hdg : decode cc g.pc = .ok (.invokevirtual index, 3)) (hf : cells + mc ≤ R.cells ∧ slots + ms ≤ R.slots) :
    vx_Run p l e R s m args below meth c H locs cells slots mc ms g rest (Qc (Value.ref b :: As).toArray) XC free := by
  have hK : vx_Back l R p e below s args y 3 8 (PreOf R mc ms Pc) (PostOf Qc mc ms free) (vx_Post XC mc ms free) := vx_callBack cw.1 hM hp.1
  obtain ⟨⟨-, -, -, -, -, -, hcode, -, hy, hlen, hl⟩, hin, hse⟩ := cw
  obtain ⟨hx, hb, hml, ho, -⟩ := S
  obtain ⟨-, ⟨cellB, hcB, hoB, hclB⟩, hPc⟩ := hp
  intro T hT X
  rcases vx_callV X hx (C := C) (bytes := bytes) (maxL := maxL) (ret := ret) ho hl hin hse hcode hy hK (by rw [hT]; exact hcB) hoB hclB hg (hsize.trans hml.symm) (argsL := As) (rest := rest) (fun sig h => hn.trans (hlen sig h)) hstack hW (by rw [hb]; exact hdg)
    (fun vm₁ hW₁ => ⟨hf.1, hf.2, hPc (T.setVm vm₁) hT hW₁⟩) with ⟨v, vm₁, ⟨U', l2, c2, s2⟩, hW₁, X', ⟨g', mk, t, L, e1, e2, hq, h1, hL, h2, h3⟩, st⟩ | ⟨q, vm₁, ⟨U', l2, c2, s2⟩, hW₁, X', ⟨g', mk, t, L, E, ce, e1, e2, hq, hce, hcv, hcl, h1, hL, h2, h3⟩, st⟩
  · dsimp only [Pt.U, Pt.locs, Pt.cells, Pt.slots] at X' e1 e2 h1 h2 h3 st
    subst h1; subst h2; subst h3
    exact Or.inl ⟨v, (T.setVm vm₁).calling g' mk (Value.ref b :: As).toArray, t, U', L, hT, X', hL, e1, e2, hq, st⟩
  · dsimp only [Pt.U, Pt.locs, Pt.cells, Pt.slots] at X' e1 e2 h1 h2 h3 st hcl
    subst h1; subst h2; subst h3
    exact Or.inr ⟨q, (T.setVm vm₁).calling g' mk (Value.ref b :: As).toArray, t, U', L, E, ce, hT, X', hL, e1, e2, hq, hce, hcv, vx_cls hW₁ hcl, st⟩
theorem vx_runS (S : CallFix p m c cc nL s args Ts own) (hM : vx_Met l y ws rm Pc Qc XC mc ms free) (cw : CallB R s args own index y bytes maxL ret ws rm mc ms n ∧ (Cond.static y).before args s = true) (hp : PreS s H Pc As)
    (hg : g.method = m) (hn : As.length = n) (hsize : g.locals.size = nL) (hstack : g.stack = As.reverse ++ rest) (hW : 2 * g.monitorRoom + (rest.map fun v => v.category).sum ≤ 8) (hdg : decode cc g.pc = .ok (.invokestatic index, 3)) (hf : cells + mc ≤ R.cells ∧ slots + ms ≤ R.slots) :
    vx_Run p l e R s m args below meth c H locs cells slots mc ms g rest (Qc As.toArray) XC free := by
  have hK : vx_Back l R p e below s args y 3 8 (PreOf R mc ms Pc) (PostOf Qc mc ms free) (vx_Post XC mc ms free) := vx_callBack cw.1 hM hp.1
  obtain ⟨⟨-, -, -, -, -, -, hcode, hini, hy, hlen, hl⟩, hstt⟩ := cw
  obtain ⟨hx, hb, hml, ho, -⟩ := S
  intro T hT X
  rcases vx_callS X hx (bytes := bytes) (maxL := maxL) (ret := ret) ho hl hstt hini hcode hy hK hg (hsize.trans hml.symm) (argsL := As) (rest := rest) (fun sig h => hn.trans (hlen sig h)) hstack hW (by rw [hb]; exact hdg)
    (fun vm₁ hW₁ => ⟨hf.1, hf.2, hp.2 (T.setVm vm₁) hT hW₁⟩) with ⟨v, vm₁, ⟨U', l2, c2, s2⟩, hW₁, X', ⟨g', mk, t, L, e1, e2, hq, h1, hL, h2, h3⟩, st⟩ | ⟨q, vm₁, ⟨U', l2, c2, s2⟩, hW₁, X', ⟨g', mk, t, L, E, ce, e1, e2, hq, hce, hcv, hcl, h1, hL, h2, h3⟩, st⟩
  · dsimp only [Pt.U, Pt.locs, Pt.cells, Pt.slots] at X' e1 e2 h1 h2 h3 st
    subst h1; subst h2; subst h3
    exact Or.inl ⟨v, (T.setVm vm₁).calling g' mk As.toArray, t, U', L, hT, X', hL, e1, e2, hq, st⟩
  · dsimp only [Pt.U, Pt.locs, Pt.cells, Pt.slots] at X' e1 e2 h1 h2 h3 st hcl
    subst h1; subst h2; subst h3
    exact Or.inr ⟨q, (T.setVm vm₁).calling g' mk As.toArray, t, U', L, E, ce, hT, X', hL, e1, e2, hq, hce, hcv, vx_cls hW₁ hcl, st⟩
end Runs
section Rows
variable {p : Program} {l : Launch} {e : Env} {R : Room} {s : State} {m : MethodId} {args : Array Value} {below : List Frame} {meth : Method} {c : Code} {H : Heap} {locs : List Loc} {cells slots : Nat} {Q : State → Prop}
variable {mc ms : Nat} {free : Addr → Prop} {A0 A1 : Nat → Prop} {H0 : Heap} {a : Array Value} {pc : Nat} {ls : Array Slot} {st0 rest : List Value}
theorem vx_keep {st₀ t T' : State} {L : List Loc} (h0 : st₀.heap = H) (e1 : T'.heap = t.heap) (hS : va_S A0 H0 H locs) (hA : ∀ q, q < H.size → A1 q → A0 q) (hf : ∀ q, free q → A0 q) (hL : ∀ q ∈ L, free q.base) (hF : va_F A1 st₀ t) :
    H.size ≤ T'.heap.size ∧ (∀ q : Nat, q < H.size → ¬ A1 q → T'.heap[q]? = H[q]?) ∧ va_S A0 H0 T'.heap (locs ++ L) := by
  obtain ⟨hz, hk⟩ := hF
  rw [h0] at hz hk
  exact ⟨by rw [e1]; exact hz, fun q h1 h2 => by rw [e1]; exact hk q h1 h2,
    ⟨Nat.le_trans hS.1 (by rw [e1]; exact hz), fun q h1 h2 => by rw [e1, hk q (Nat.lt_of_lt_of_le h1 hS.1) (fun z => h2 (hA q (Nat.lt_of_lt_of_le h1 hS.1) z))]; exact hS.2.1 q h1 h2, fun q hq => by
      rcases List.mem_append.mp hq with h | h
      · exact hS.2.2 q h
      · exact hf _ (hL q h)⟩⟩
theorem vx_calli {S SX : Type} {post : Int32 → S → Prop} {px : SX → Prop} {B : S → State → Prop} {BX : String → SX → State → Prop} {AX : Nat → Prop} (hr : vx_Run p l e R s m args below meth c H locs cells slots mc ms (F0 m pc ls st0) rest (va_Qi post B A1 a) (vx_X px BX AX) free) (hS : va_S A0 H0 H locs) (hA : ∀ q, q < H.size → A1 q → A0 q) (hf : ∀ q, free q → A0 q) (hAX : ∀ q, q < H.size → AX q → A0 q)
    (kx : ∀ (E : String) (ce : Cell) (q9 : Addr) (u : SX) (t : State) (H1 : Heap) (locs1 : List Loc), t.heap = H1 → s.vm.Alike t.vm → px u → BX E u t → H.size ≤ H1.size → (∀ q : Nat, q < H.size → ¬ AX q → H1[q]? = H[q]?) → va_S A0 H0 H1 locs1 → H1[q9]? = some ce → ce.vm = .none → s.vm.findClass E = some ce.cls → vx_W p l e R s m args below meth c H1 locs1 (cells + mc) (slots + ms) Q (F0 m pc ls rest) q9)
    (kk : ∀ (r : Int32) (u : S) (t : State) (H1 : Heap) (locs1 : List Loc), t.heap = H1 → s.vm.Alike t.vm → post r u → B u t → H.size ≤ H1.size → (∀ q : Nat, q < H.size → ¬ A1 q → H1[q]? = H[q]?) → va_S A0 H0 H1 locs1 → W p l e R s m args below meth c H1 locs1 (cells + mc) (slots + ms) Q (F0 m (pc + 3) ls (.int r :: rest))) : W p l e R s m args below meth c H locs cells slots Q (F0 m pc ls st0) := by
  intro T hT X
  rcases hr T hT X with ⟨v, st₀, t, T', L, h0, X', hL, e1, e2, ⟨⟨r, u, hv, hp, hb⟩, hF⟩, st⟩ | ⟨q, st₀, t, T', L, E, ce, h0, X', hL, e1, e2, ⟨u, hp, hb, hF⟩, hce, hcv, hcl, st⟩
  · cases hv
    obtain ⟨k1, k2, k3⟩ := vx_keep h0 e1 hS hA hf hL hF
    obtain ⟨t2, a1, b1⟩ := kk r u t T'.heap (locs ++ L) e1.symm (by rw [← e2]; exact X'.warmed.alike) hp hb k1 k2 k3 T' rfl X'
    exact ⟨t2, st t2 a1, b1⟩
  · obtain ⟨k1, k2, k3⟩ := vx_keep h0 e1 hS hAX hf hL hF
    obtain ⟨t2, a1, b1⟩ := kx E ce q u t T'.heap (locs ++ L) e1.symm (by rw [← e2]; exact X'.warmed.alike) hp hb k1 k2 k3 (by rw [e1]; exact hce) hcv hcl T' rfl X'
    exact ⟨t2, st.trans a1, b1⟩
theorem vx_calll {S SX : Type} {post : Int64 → S → Prop} {px : SX → Prop} {B : S → State → Prop} {BX : String → SX → State → Prop} {AX : Nat → Prop} (hr : vx_Run p l e R s m args below meth c H locs cells slots mc ms (F0 m pc ls st0) rest (va_Ql post B A1 a) (vx_X px BX AX) free) (hS : va_S A0 H0 H locs) (hA : ∀ q, q < H.size → A1 q → A0 q) (hf : ∀ q, free q → A0 q) (hAX : ∀ q, q < H.size → AX q → A0 q)
    (kx : ∀ (E : String) (ce : Cell) (q9 : Addr) (u : SX) (t : State) (H1 : Heap) (locs1 : List Loc), t.heap = H1 → s.vm.Alike t.vm → px u → BX E u t → H.size ≤ H1.size → (∀ q : Nat, q < H.size → ¬ AX q → H1[q]? = H[q]?) → va_S A0 H0 H1 locs1 → H1[q9]? = some ce → ce.vm = .none → s.vm.findClass E = some ce.cls → vx_W p l e R s m args below meth c H1 locs1 (cells + mc) (slots + ms) Q (F0 m pc ls rest) q9)
    (kk : ∀ (r : Int64) (u : S) (t : State) (H1 : Heap) (locs1 : List Loc), t.heap = H1 → s.vm.Alike t.vm → post r u → B u t → H.size ≤ H1.size → (∀ q : Nat, q < H.size → ¬ A1 q → H1[q]? = H[q]?) → va_S A0 H0 H1 locs1 → W p l e R s m args below meth c H1 locs1 (cells + mc) (slots + ms) Q (F0 m (pc + 3) ls (.long r :: rest))) : W p l e R s m args below meth c H locs cells slots Q (F0 m pc ls st0) := by
  intro T hT X
  rcases hr T hT X with ⟨v, st₀, t, T', L, h0, X', hL, e1, e2, ⟨⟨r, u, hv, hp, hb⟩, hF⟩, st⟩ | ⟨q, st₀, t, T', L, E, ce, h0, X', hL, e1, e2, ⟨u, hp, hb, hF⟩, hce, hcv, hcl, st⟩
  · cases hv
    obtain ⟨k1, k2, k3⟩ := vx_keep h0 e1 hS hA hf hL hF
    obtain ⟨t2, a1, b1⟩ := kk r u t T'.heap (locs ++ L) e1.symm (by rw [← e2]; exact X'.warmed.alike) hp hb k1 k2 k3 T' rfl X'
    exact ⟨t2, st t2 a1, b1⟩
  · obtain ⟨k1, k2, k3⟩ := vx_keep h0 e1 hS hAX hf hL hF
    obtain ⟨t2, a1, b1⟩ := kx E ce q u t T'.heap (locs ++ L) e1.symm (by rw [← e2]; exact X'.warmed.alike) hp hb k1 k2 k3 (by rw [e1]; exact hce) hcv hcl T' rfl X'
    exact ⟨t2, st.trans a1, b1⟩
theorem vx_callf {S SX : Type} {post : UInt32 → S → Prop} {px : SX → Prop} {B : S → State → Prop} {BX : String → SX → State → Prop} {AX : Nat → Prop} (hr : vx_Run p l e R s m args below meth c H locs cells slots mc ms (F0 m pc ls st0) rest (va_Qf post B A1 a) (vx_X px BX AX) free) (hS : va_S A0 H0 H locs) (hA : ∀ q, q < H.size → A1 q → A0 q) (hf : ∀ q, free q → A0 q) (hAX : ∀ q, q < H.size → AX q → A0 q)
    (kx : ∀ (E : String) (ce : Cell) (q9 : Addr) (u : SX) (t : State) (H1 : Heap) (locs1 : List Loc), t.heap = H1 → s.vm.Alike t.vm → px u → BX E u t → H.size ≤ H1.size → (∀ q : Nat, q < H.size → ¬ AX q → H1[q]? = H[q]?) → va_S A0 H0 H1 locs1 → H1[q9]? = some ce → ce.vm = .none → s.vm.findClass E = some ce.cls → vx_W p l e R s m args below meth c H1 locs1 (cells + mc) (slots + ms) Q (F0 m pc ls rest) q9)
    (kk : ∀ (r : UInt32) (u : S) (t : State) (H1 : Heap) (locs1 : List Loc), t.heap = H1 → s.vm.Alike t.vm → post r u → B u t → H.size ≤ H1.size → (∀ q : Nat, q < H.size → ¬ A1 q → H1[q]? = H[q]?) → va_S A0 H0 H1 locs1 → W p l e R s m args below meth c H1 locs1 (cells + mc) (slots + ms) Q (F0 m (pc + 3) ls (.float r :: rest))) : W p l e R s m args below meth c H locs cells slots Q (F0 m pc ls st0) := by
  intro T hT X
  rcases hr T hT X with ⟨v, st₀, t, T', L, h0, X', hL, e1, e2, ⟨⟨r, u, hv, hp, hb⟩, hF⟩, st⟩ | ⟨q, st₀, t, T', L, E, ce, h0, X', hL, e1, e2, ⟨u, hp, hb, hF⟩, hce, hcv, hcl, st⟩
  · cases hv
    obtain ⟨k1, k2, k3⟩ := vx_keep h0 e1 hS hA hf hL hF
    obtain ⟨t2, a1, b1⟩ := kk r u t T'.heap (locs ++ L) e1.symm (by rw [← e2]; exact X'.warmed.alike) hp hb k1 k2 k3 T' rfl X'
    exact ⟨t2, st t2 a1, b1⟩
  · obtain ⟨k1, k2, k3⟩ := vx_keep h0 e1 hS hAX hf hL hF
    obtain ⟨t2, a1, b1⟩ := kx E ce q u t T'.heap (locs ++ L) e1.symm (by rw [← e2]; exact X'.warmed.alike) hp hb k1 k2 k3 (by rw [e1]; exact hce) hcv hcl T' rfl X'
    exact ⟨t2, st.trans a1, b1⟩
theorem vx_calld {S SX : Type} {post : UInt64 → S → Prop} {px : SX → Prop} {B : S → State → Prop} {BX : String → SX → State → Prop} {AX : Nat → Prop} (hr : vx_Run p l e R s m args below meth c H locs cells slots mc ms (F0 m pc ls st0) rest (va_Qd post B A1 a) (vx_X px BX AX) free) (hS : va_S A0 H0 H locs) (hA : ∀ q, q < H.size → A1 q → A0 q) (hf : ∀ q, free q → A0 q) (hAX : ∀ q, q < H.size → AX q → A0 q)
    (kx : ∀ (E : String) (ce : Cell) (q9 : Addr) (u : SX) (t : State) (H1 : Heap) (locs1 : List Loc), t.heap = H1 → s.vm.Alike t.vm → px u → BX E u t → H.size ≤ H1.size → (∀ q : Nat, q < H.size → ¬ AX q → H1[q]? = H[q]?) → va_S A0 H0 H1 locs1 → H1[q9]? = some ce → ce.vm = .none → s.vm.findClass E = some ce.cls → vx_W p l e R s m args below meth c H1 locs1 (cells + mc) (slots + ms) Q (F0 m pc ls rest) q9)
    (kk : ∀ (r : UInt64) (u : S) (t : State) (H1 : Heap) (locs1 : List Loc), t.heap = H1 → s.vm.Alike t.vm → post r u → B u t → H.size ≤ H1.size → (∀ q : Nat, q < H.size → ¬ A1 q → H1[q]? = H[q]?) → va_S A0 H0 H1 locs1 → W p l e R s m args below meth c H1 locs1 (cells + mc) (slots + ms) Q (F0 m (pc + 3) ls (.double r :: rest))) : W p l e R s m args below meth c H locs cells slots Q (F0 m pc ls st0) := by
  intro T hT X
  rcases hr T hT X with ⟨v, st₀, t, T', L, h0, X', hL, e1, e2, ⟨⟨r, u, hv, hp, hb⟩, hF⟩, st⟩ | ⟨q, st₀, t, T', L, E, ce, h0, X', hL, e1, e2, ⟨u, hp, hb, hF⟩, hce, hcv, hcl, st⟩
  · cases hv
    obtain ⟨k1, k2, k3⟩ := vx_keep h0 e1 hS hA hf hL hF
    obtain ⟨t2, a1, b1⟩ := kk r u t T'.heap (locs ++ L) e1.symm (by rw [← e2]; exact X'.warmed.alike) hp hb k1 k2 k3 T' rfl X'
    exact ⟨t2, st t2 a1, b1⟩
  · obtain ⟨k1, k2, k3⟩ := vx_keep h0 e1 hS hAX hf hL hF
    obtain ⟨t2, a1, b1⟩ := kx E ce q u t T'.heap (locs ++ L) e1.symm (by rw [← e2]; exact X'.warmed.alike) hp hb k1 k2 k3 (by rw [e1]; exact hce) hcv hcl T' rfl X'
    exact ⟨t2, st.trans a1, b1⟩
theorem vx_callv {S SX : Type} {post : S → Prop} {px : SX → Prop} {B : S → State → Prop} {BX : String → SX → State → Prop} {AX : Nat → Prop} (hr : vx_Run p l e R s m args below meth c H locs cells slots mc ms (F0 m pc ls st0) rest (va_Qv post B A1 a) (vx_X px BX AX) free) (hS : va_S A0 H0 H locs) (hA : ∀ q, q < H.size → A1 q → A0 q) (hf : ∀ q, free q → A0 q) (hAX : ∀ q, q < H.size → AX q → A0 q)
    (kx : ∀ (E : String) (ce : Cell) (q9 : Addr) (u : SX) (t : State) (H1 : Heap) (locs1 : List Loc), t.heap = H1 → s.vm.Alike t.vm → px u → BX E u t → H.size ≤ H1.size → (∀ q : Nat, q < H.size → ¬ AX q → H1[q]? = H[q]?) → va_S A0 H0 H1 locs1 → H1[q9]? = some ce → ce.vm = .none → s.vm.findClass E = some ce.cls → vx_W p l e R s m args below meth c H1 locs1 (cells + mc) (slots + ms) Q (F0 m pc ls rest) q9)
    (kk : ∀ (u : S) (t : State) (H1 : Heap) (locs1 : List Loc), t.heap = H1 → s.vm.Alike t.vm → post u → B u t → H.size ≤ H1.size → (∀ q : Nat, q < H.size → ¬ A1 q → H1[q]? = H[q]?) → va_S A0 H0 H1 locs1 → W p l e R s m args below meth c H1 locs1 (cells + mc) (slots + ms) Q (F0 m (pc + 3) ls (rest))) : W p l e R s m args below meth c H locs cells slots Q (F0 m pc ls st0) := by
  intro T hT X
  rcases hr T hT X with ⟨v, st₀, t, T', L, h0, X', hL, e1, e2, ⟨⟨u, hv, hp, hb⟩, hF⟩, st⟩ | ⟨q, st₀, t, T', L, E, ce, h0, X', hL, e1, e2, ⟨u, hp, hb, hF⟩, hce, hcv, hcl, st⟩
  · cases hv
    obtain ⟨k1, k2, k3⟩ := vx_keep h0 e1 hS hA hf hL hF
    obtain ⟨t2, a1, b1⟩ := kk u t T'.heap (locs ++ L) e1.symm (by rw [← e2]; exact X'.warmed.alike) hp hb k1 k2 k3 T' rfl X'
    exact ⟨t2, st t2 a1, b1⟩
  · obtain ⟨k1, k2, k3⟩ := vx_keep h0 e1 hS hAX hf hL hF
    obtain ⟨t2, a1, b1⟩ := kx E ce q u t T'.heap (locs ++ L) e1.symm (by rw [← e2]; exact X'.warmed.alike) hp hb k1 k2 k3 (by rw [e1]; exact hce) hcv hcl T' rfl X'
    exact ⟨t2, st.trans a1, b1⟩
/-- caught by the row x of this method's table; the rows ahead don't take it -/
theorem vx_catch {own name : String} {E : String} {ce : Cell} {q : Addr} (hown : s.vm.findClass own = some m.cls) (pre : List ExceptionTableEntry) (x : ExceptionTableEntry) (suf : List ExceptionTableEntry) (hsplit : c.exceptionTable.toList = pre ++ x :: suf)
    (hpass : ∀ z ∈ pre, covers z pc = false ∨ (z.catchType ≠ 0 ∧ ∃ nm : String, (Cond.classLink own z.catchType nm).before args s = true ∧ va_Nc E nm s)) (hx : covers x pc = true) (h0 : x.catchType ≠ 0)
    (hlink : (Cond.classLink own x.catchType name).before args s = true) (hcast : (Cond.castable E name).before args s = true) (hcell : H[q]? = some ce) (hv : ce.vm = .none) (hcl : s.vm.findClass E = some ce.cls)
    (kk : W p l e R s m args below meth c H locs cells slots Q (F0 m x.handlerPc ls [.ref q])) : vx_W p l e R s m args below meth c H locs cells slots Q (F0 m pc ls rest) q := by
  intro T hT X
  have hpl : e.platform.magicAccessors = ({} : Platform).magicAccessors := by rw [X.admits.platform]
  obtain ⟨c3, c4, hc3, hc4, hasg⟩ := Cond.castable_spec hcast
  cases Option.some.inj (hc3.symm.trans hcl)
  obtain ⟨c5, hc5, hcl5⟩ := Cond.classLink_spec hown hlink e.platform hpl
  cases Option.some.inj (hc4.symm.trans hc5)
  obtain ⟨vm', X', st⟩ := X.thenCaughtThrough q (g := F0 m pc ls rest) rfl (Steps.refl _) (by rw [hT]; exact hcell) (by rw [hv]; rfl) (by obtain ⟨k9, h9, -⟩ := Vm.findClass_spec hcl; exact ⟨k9, h9⟩) pre x suf hsplit
    (fun z hz => by
      rcases hpass z hz with h | ⟨hz0, nm, hl1, hn1⟩
      · exact Or.inl h
      · obtain ⟨c6, hc6, hcl6⟩ := Cond.classLink_spec hown hl1 e.platform hpl
        obtain ⟨a8, b8, h1, h2, h3⟩ := hn1
        cases Option.some.inj (h1.symm.trans hcl)
        cases Option.some.inj (h2.symm.trans hc6)
        exact Or.inr ⟨hz0, _, hcl6, h3⟩) hx (Or.inr ⟨h0, c4, hcl5, hasg⟩)
  obtain ⟨t, a1, b1⟩ := kk (T.setVm vm') hT X'
  exact ⟨t, st.trans a1, b1⟩
end Rows
section Ends
variable {p : Program} {l : Launch} {e : Env} {R : Room} {s : State} {m : MethodId} {args : Array Value} {below : List Frame} {meth : Method} {c : Code} {H : Heap} {locs : List Loc} {cells slots : Nat} {Q : State → Prop}
variable {mc ms : Nat} {free : Addr → Prop} {A0 A1 : Nat → Prop} {H0 : Heap} {a : Array Value} {ls : Array Slot} {st0 rest : List Value}
variable {Qc : Array Value → State → Outcome → State → Prop} {XC : String → State → State → Prop}
/-- what a body that may throw owes at its end -/
def vx_MQ (below : List Frame) (Qc : Array Value → State → Outcome → State → Prop) (XC : String → State → State → Prop) (a : Array Value) (s : State) (mc ms : Nat) (free : Addr → Prop) : State → Prop := fun t =>
  ∃ o, t.status = .running ∧ Ended t below o ∧ vx_Q Qc XC mc ms free a s o t
theorem vx_ret {g : JFrame} {mc ms : Nat} (k : W p l e R s m args below meth c H locs cells slots (MQ below Qc args s mc ms free) g) : W p l e R s m args below meth c H locs cells slots (vx_MQ below Qc XC args s mc ms free) g := by
  intro T hT X
  obtain ⟨t, a1, o, b1, b2, b3, b4⟩ := k T hT X
  exact ⟨t, a1, o, b1, b2, Or.inl ⟨b3, b4⟩⟩
/-- not caught here: it goes on to the caller -/
theorem vx_widen {g : JFrame} {q : Addr} {k n : Nat} (h1 : cells ≤ k) (h2 : slots ≤ n) (kk : vx_W p l e R s m args below meth c H locs k n Q g q) : vx_W p l e R s m args below meth c H locs cells slots Q g q := fun T hT X => kk T hT (stand_widen X h1 h2)
theorem vx_out {pc : Nat} {E : String} {ce : Cell} {q : Addr} {mc ms : Nat} (hout : ∀ x ∈ c.exceptionTable.toList, covers x pc = false) (hlocks : meth.locks = false) (hcell : H[q]? = some ce) (hv : ce.vm = .none) (hcl : s.vm.findClass E = some ce.cls)
    (hx : ∀ t : State, t.heap = H → s.vm.Alike t.vm → XC E s t) (hf : ∀ z ∈ locs, free z.base) (hc : cells ≤ mc) (hs : slots ≤ ms) :
    vx_W p l e R s m args below meth c H locs cells slots (vx_MQ below Qc XC args s mc ms free) (F0 m pc ls rest) q := by
  intro T hT X
  obtain ⟨st1, hrun, hend, hW, hsm⟩ := X.leaveThrown q (g := F0 m pc ls rest) rfl rfl rfl hout hlocks
  have hcell9 : (T.setFrames (.throwing q :: below)).heap[q]? = some ce := by
    show T.heap[q]? = some ce
    rw [hT]; exact hcell
  exact ⟨_, st1, .threw q, hrun, hend, Or.inr ⟨q, rfl, E, ce, locs, hx _ hT hW.alike, hcell9, hv, hcl, hW, hsm.mono hc hs, hf⟩⟩
theorem vx_frame {U : State} {k n : Nat} (h : s.sameButNew ({ U with vm := s.vm } : State) locs k n) : s.heap.size ≤ U.heap.size ∧ ∀ q : Nat, q < s.heap.size → (∀ z ∈ locs, z.base ≠ q) → U.heap[q]? = s.heap[q]? := by
  obtain ⟨-, h2, -, -, -, h6⟩ := h
  refine ⟨h2, fun q hq hz => ?_⟩
  obtain ⟨c9, e1, e2, e3, e4⟩ := h6 q _ (Array.getElem?_eq_getElem hq)
  have hs : c9.slots = (s.heap[q]).slots := Array.ext_getElem? fun i => e4 i fun hm => hz _ hm rfl
  have h9 : c9 = s.heap[q] := by
    rw [hs] at e2
    exact e2
  have e5 : U.heap[q]? = some c9 := e1
  rw [e5, h9, Array.getElem?_eq_getElem hq]
/-- the words of a throw but the four that speak of the heap -/
def vx_no (w : Cond) : Bool := decide (w ≠ .isRef (.static Bundle.tN "UNASSIGNED_STACK" Bundle.steD)) && decide (w ≠ .isRef (.static Bundle.tN "SUPPRESSED_SENTINEL" Bundle.listD)) && decide (w ≠ .laysStatic Bundle.tN "UNASSIGNED_STACK" Bundle.steD) && decide (w ≠ .laysStatic Bundle.tN "SUPPRESSED_SENTINEL" Bundle.listD)
def vx_at0 (own : String) (ic : Nat) (X : String) (names : List String) : List Cond := (Bundle.ownAtoms0 own ic X names).filter vx_no
def vx_atS (own : String) (ic : Nat) (X : String) (names : List String) : List Cond := (Bundle.ownAtoms own ic X names).filter vx_no
/-- a word that the tables alone decide, or a good one -/
def vx_ot (w : Cond) : Bool := w.onTables || goodWord w
theorem vx_ot_at {args a' : Array Value} {s U : State} {w : Cond} (hW : s.WarmedH U.vm) (hvm : s.vm = U.vm) (hg : vx_ot w = true) (h : w.before args s = true) : w.before a' U = true := by
  simp only [vx_ot, Bool.or_eq_true] at hg
  rcases hg with hg | hg
  · exact va_tabs hg hvm h
  · exact word_at hW (good_of_word hg) h
/-- a list's words: the good ones out of the method's own list, the others by premises of their own -/
theorem vx_hat {args : Array Value} {s : State} {L B : List Cond} (h1 : ∀ w ∈ L.filter goodWord, w.before args s = true) (h2 : ∀ w ∈ L.filter (fun w => !goodWord w), w ∈ B) (h3 : ∀ w ∈ B, w.before args s = true) : ∀ w ∈ L, w.before args s = true := by
  intro w hw
  by_cases g : goodWord w = true
  · exact h1 w (List.mem_filter.mpr ⟨hw, g⟩)
  · refine h3 w (h2 w (List.mem_filter.mpr ⟨hw, ?_⟩))
    show (!goodWord w) = true
    cases hgw : goodWord w
    · rfl
    · exact absurd hgw g
theorem vx_c {args : Array Value} {s : State} {w : Cond} {B : List Cond} (h : w.before args s = true) (t : ∀ w ∈ B, w.before args s = true) : ∀ w' ∈ w :: B, w'.before args s = true := fun w' h' => (List.mem_cons.mp h').elim (fun e => by rw [e]; exact h) (t w')
theorem vx_n {args : Array Value} {s : State} : ∀ w ∈ ([] : List Cond), w.before args s = true := fun _ h => nomatch h
theorem vx_own {args : Array Value} {s : State} {L : List Cond} (h1 : ∀ w ∈ L.filter vx_no, w.before args s = true)
    (hU : (Cond.isRef (.static Bundle.tN "UNASSIGNED_STACK" Bundle.steD)).before args s = true) (hN : (Cond.isRef (.static Bundle.tN "SUPPRESSED_SENTINEL" Bundle.listD)).before args s = true)
    (lU : (Cond.laysStatic Bundle.tN "UNASSIGNED_STACK" Bundle.steD).before args s = true) (lN : (Cond.laysStatic Bundle.tN "SUPPRESSED_SENTINEL" Bundle.listD).before args s = true) : ∀ w ∈ L, w.before args s = true := by
  intro w hw
  by_cases e1 : w = .isRef (.static Bundle.tN "UNASSIGNED_STACK" Bundle.steD)
  · rw [e1]; exact hU
  · by_cases e2 : w = .isRef (.static Bundle.tN "SUPPRESSED_SENTINEL" Bundle.listD)
    · rw [e2]; exact hN
    · by_cases e3 : w = .laysStatic Bundle.tN "UNASSIGNED_STACK" Bundle.steD
      · rw [e3]; exact lU
      · by_cases e4 : w = .laysStatic Bundle.tN "SUPPRESSED_SENTINEL" Bundle.listD
        · rw [e4]; exact lN
        · exact h1 w (List.mem_filter.mpr ⟨hw, by unfold vx_no; rw [decide_eq_true e1, decide_eq_true e2, decide_eq_true e3, decide_eq_true e4]; rfl⟩)
/-- where a static field lies, its class's statics cell in H -/
def vx_L (C n d : String) (A : Nat → Prop) (U : State) (H : Heap) : Prop := ∃ (c : ClassId) (k : Class) (i : Nat) (f : Field) (a : Nat) (cell : Cell), U.vm.findClass C = some c ∧ U.fieldFound? C n d = some (c, k, i, f) ∧ f.isStatic = true ∧ k.statics = some a ∧ H[a]? = some cell ∧ cell.vm.isStatics = true ∧ cell.cls = c ∧ f.slot < cell.slots.size ∧ k.staticTypes[f.slot]? = some f.type ∧ ¬ A a
theorem vx_L.moved {C n d : String} {A : Nat → Prop} {u U : State} {H : Heap} (hvm : u.vm.Alike U.vm) (h : vx_L C n d A u H) : vx_L C n d A U H := by
  obtain ⟨c, k, i, f, a, cell, h1, h2, h3, h4, h5, h6, h7, h8, h9, h10⟩ := h
  obtain ⟨k', hi', he⟩ := State.fieldFound?_setVm hvm h2
  exact ⟨c, k', i, f, a, cell, by rw [hvm.findClass]; exact h1, hi', h3, by rw [he]; exact h4, h5, h6, h7, h8, by rw [he]; exact h9, h10⟩
theorem vx_L.kept {C n d : String} {A : Nat → Prop} {U : State} {H H1 : Heap} (h : vx_L C n d A U H) (hq : ∀ a : Nat, a < H.size → ¬ A a → H1[a]? = H[a]?) : vx_L C n d A U H1 := by
  obtain ⟨c, k, i, f, a, cell, h1, h2, h3, h4, h5, h6, h7, h8, h9, h10⟩ := h
  exact ⟨c, k, i, f, a, cell, h1, h2, h3, h4, by rw [hq a (Array.getElem?_eq_some_iff.mp h5).1 h10]; exact h5, h6, h7, h8, h9, h10⟩
theorem vx_L.narrow {C n d : String} {A B : Nat → Prop} {U : State} {H : Heap} (h : vx_L C n d A U H) (hAB : ∀ q, B q → A q) : vx_L C n d B U H := by
  obtain ⟨c, k, i, f, a, cell, h1, h2, h3, h4, h5, h6, h7, h8, h9, h10⟩ := h
  exact ⟨c, k, i, f, a, cell, h1, h2, h3, h4, h5, h6, h7, h8, h9, fun z => h10 (hAB _ z)⟩
theorem vx_L.word {C n d : String} {A : Nat → Prop} {s : State} {args : Array Value} (h : vx_L C n d A s s.heap) : (Cond.laysStatic C n d).before args s = true := by
  obtain ⟨c, k, i, f, a, cell, h1, h2, h3, h4, h5, h6, h7, h8, h9, -⟩ := h
  show (Cond.laysStatic C n d).holds args s none s [] = true
  exact Cond.laysStatic_of h1 h2 h3 h4 h5 h6 h7 h8 h9
/-- .. and what it holds: null or some reference -/
def vx_Zq (C n d : String) (A : Nat → Prop) (U : State) (H : Heap) : Prop := va_Zq C n d A U H ∧ vx_L C n d A U H
theorem vx_Zq.moved {C n d : String} {A : Nat → Prop} {u U : State} {H : Heap} (hvm : u.vm.Alike U.vm) (h : vx_Zq C n d A u H) : vx_Zq C n d A U H := ⟨va_Zq.moved hvm h.1, vx_L.moved hvm h.2⟩
theorem vx_Zq.kept {C n d : String} {A : Nat → Prop} {U : State} {H H1 : Heap} (h : vx_Zq C n d A U H) (hq : ∀ a : Nat, a < H.size → ¬ A a → H1[a]? = H[a]?) : vx_Zq C n d A U H1 := ⟨va_Zq.kept h.1 hq, vx_L.kept h.2 hq⟩
theorem vx_Zq.narrow {C n d : String} {A B : Nat → Prop} {U : State} {H : Heap} (h : vx_Zq C n d A U H) (hAB : ∀ q, B q → A q) : vx_Zq C n d B U H := ⟨va_Zq.narrow h.1 hAB, vx_L.narrow h.2 hAB⟩
theorem vx_Zqof {args : Array Value} {s : State} {C n d : String} {A : Nat → Prop} (hl : (Cond.laysStatic C n d).before args s = true) (hini : (Cond.initialized C).before args s = true) (h : (Cond.isRef (.static C n d)).before args s = true) (hA : ∀ a : Nat, a < s.heap.size → ¬ A a) : vx_Zq C n d A s s.heap := by
  refine ⟨va_Zqof hl hini h hA, ?_⟩
  obtain ⟨c, k, i, f, a, cell, h1, h2, h3, h4, h5, h6, h7, h8, h9⟩ := Cond.laysStatic_spec hl
  exact ⟨c, k, i, f, a, cell, h1, h2, h3, h4, h5, h6, h7, h8, h9, hA a (Array.getElem?_eq_some_iff.mp h5).1⟩
theorem vx_isRef {C n d : String} {v : Value} {A : Nat → Prop} {s : State} {args : Array Value} (h : va_Z C n d v A s s.heap) (hv : v.isRef = true) : (Cond.isRef (.static C n d)).before args s = true := by
  obtain ⟨cf, kf, fi, f, a, cell, h1, h2, h3, h4, h5, h6, h7, -⟩ := h
  have he : (Term.static C n d).eval args s none [] s = some v := by
    simp [Term.eval, State.fieldNamed?, h1, h2, h4, h5, h6, h7]
  simp only [Cond.before, Cond.holds, Cond.value, he]
  cases v <;> simp_all [Value.isRef]
theorem vx_isRefq {C n d : String} {A : Nat → Prop} {s : State} {args : Array Value} (h : va_Zq C n d A s s.heap) : (Cond.isRef (.static C n d)).before args s = true := by
  rcases h with h | ⟨t, h⟩
  · exact vx_isRef h rfl
  · exact vx_isRef h rfl
/-- the same frame, seen from here: as if the method were called anew in this heap -/
theorem vx_rebase {T : State} (X : Stand p l e R s m args below meth c T locs cells slots) {R' : Room} (hf : R'.frames ≤ R.frames) (hl : R'.locals ≤ R.locals) (hc : cells + R'.cells ≤ R.cells) (hs : slots + R'.slots ≤ R.slots) :
    Stand p l e R' ((T.setVm s.vm).setFrames (.invoking m args :: below)) m args below meth c T [] 0 0 := by
  have htop : (T.setVm s.vm).topJava?.isSome := X.here.top
  have hF : ((T.setVm s.vm).setFrames (.invoking m args :: below)).frames = .invoking m args :: below := State.frames_setFrames _ (State.cur_lt_of_top htop)
  obtain ⟨g₀, hg0⟩ := Option.isSome_iff_exists.mp htop
  obtain ⟨r, hr⟩ := State.topJava?_eq_some.mp hg0
  have hl9 : e.platform.stackLimits (T.setVm s.vm).me = e.platform.stackLimits s.me := X.limits
  have hb9 : (T.setVm s.vm).me.stackBytes = s.me.stackBytes := X.bytes
  refine ⟨X.admits, X.cas, X.clock, hF, ?_, X.hears, X.method, X.code, X.here, X.tail, X.warmed, ?_, ?_, ?_⟩
  · have h := X.room
    have hU : ((T.setVm s.vm).setFrames (.invoking m args :: below)).localsInUse = s.localsInUse := by
      rw [State.localsInUse_invoking hF (meth := meth) (c := c) X.method X.code, State.localsInUse_invoking X.frames X.method X.code]
    simp only [State.hasRoom, Bool.and_eq_true, decide_eq_true_eq] at h ⊢
    obtain ⟨⟨⟨⟨h1, h2, h3, h4, h5, h6⟩, h7⟩, h8⟩, h9⟩ := h
    rw [X.frames, List.length_cons] at h2 h3
    have q1 := X.heapSize
    have q2 := X.used
    simp only [hF, hU, List.length_cons, State.stackLimits_setFrames, State.stackBytes_setFrames, hl9, hb9]
    refine ⟨⟨⟨⟨by omega, by omega, by omega, by omega, by omega, h6⟩, ?_⟩, ?_⟩, X.book⟩
    · show T.heap.size + R'.cells ≤ e.platform.maxCells
      omega
    · show T.slotsUsed + R'.slots ≤ e.platform.maxSlots
      omega
  · rw [State.stackLimits_setFrames]; rfl
  · rw [State.stackBytes_setFrames]; rfl
  · refine ⟨?_, Nat.le_refl _, Nat.le_refl _, ?_, ?_, fun a c9 h9 => ⟨c9, h9, rfl, rfl, fun _ _ => rfl⟩⟩
    · obtain ⟨t, ht, -⟩ := State.frames_cons hr
      show T.setVm s.vm = { ((T.setVm s.vm).setFrames (.invoking m args :: below)).setFrames (T.setVm s.vm).frames with heap := T.heap, slotsUsed := T.slotsUsed }
      rw [State.setFrames_setFrames, State.setFrames_self ht]
      rfl
    · show T.slotsUsed = T.slotsUsed + ((T.heap.toList.drop T.heap.size).map (·.slots.size)).sum
      rw [List.drop_eq_nil_of_le (Nat.le_of_eq Array.length_toList)]
      rfl
    · show ((T.heap.toList.drop T.heap.size).map (·.slots.size)).sum ≤ 0
      rw [List.drop_eq_nil_of_le (Nat.le_of_eq Array.length_toList)]
      exact Nat.le_refl _
/-- 'throw new E()': new; dup; invokespecial; athrow -/
theorem vx_throw0 {cc : ByteArray} {pc : Nat} (hexec : p.tables.exec = Jvm.exec) (hb : c.code = cc) (hl : l.stackTraces = false) {own cls : String} {names : List String} {ik ic mc ms : Nat} {A : Nat → Prop}
    (hown : s.vm.findClass own = some m.cls) (hcls : Bundle.fit cls = true) (hnames : ∀ n ∈ names, Bundle.fit n = true)
    (hk : (Cond.classLink own ik cls).before args s = true) (hini : (Cond.initialized cls).before args s = true) (hat : ∀ w ∈ vx_at0 own ic cls names, w.before args s = true)
    (hgood : ∀ w ∈ Cond.classLink own ik cls :: Cond.initialized cls :: vx_at0 own ic cls names, vx_ot w = true)
    (hU : vx_Zq Bundle.tN "UNASSIGNED_STACK" Bundle.steD A s s.heap) (hN : vx_Zq Bundle.tN "SUPPRESSED_SENTINEL" Bundle.listD A s s.heap) (hS : va_S A s.heap H locs) (hsize : ls.size = c.maxLocals)
    (d0 : decode cc pc = .ok (.new ik, 3)) (d3 : decode cc (pc + 3) = .ok (.dup, 1)) (d4 : decode cc (pc + 4) = .ok (.invokespecial ic, 3)) (d7 : decode cc (pc + 7) = .ok (.athrow, 1))
    (hout : ∀ x ∈ c.exceptionTable.toList, covers x (pc + 7) = false)
    (hRframes : names.length + 3 < R.frames) (hRlocals : (rest.map fun v => v.category).sum + (13 * (names.length + 1) + 42) ≤ R.locals) (hRcells : cells + 1 ≤ R.cells) (hRslots : slots + 6 ≤ R.slots) (hlocks : meth.locks = false)
    (hx : ∀ t : State, s.vm.Alike t.vm → H.size ≤ t.heap.size → (∀ q : Nat, q < H.size → t.heap[q]? = H[q]?) → XC cls s t)
    (hf : ∀ z ∈ locs, free z.base) (hc : cells + 1 ≤ mc) (hs : slots + 6 ≤ ms) :
    W p l e R s m args below meth c H locs cells slots (vx_MQ below Qc XC args s mc ms free) (F0 m pc ls rest) := by
  intro T hT X
  have htr : e.platform.stackTraces = false := (show e.platform.stackTraces = l.stackTraces by rw [X.admits.platform]).trans hl
  have Y := vx_rebase X (R' := { frames := R.frames, locals := R.locals, cells := 1, slots := 6 }) (Nat.le_refl _) (Nat.le_refl _) hRcells hRslots
  obtain ⟨s', hA⟩ : ∃ z, z = (T.setVm s.vm).setFrames (.invoking m args :: below) := ⟨_, rfl⟩
  rw [← hA] at Y
  have hvm : s'.vm = s.vm := by rw [hA]; rfl
  have hhp : s'.heap = H := by rw [hA]; exact hT
  have hW0 : s.WarmedH s'.vm := by rw [hvm]; exact State.WarmedH.refl s
  have hat' : ∀ w ∈ vx_at0 own ic cls names, w.before args s' = true := fun w hw => vx_ot_at hW0 hvm.symm (hgood w (List.mem_cons_of_mem _ (List.mem_cons_of_mem _ hw))) (hat w hw)
  have hk' : (Cond.classLink own ik cls).before args s' = true := vx_ot_at hW0 hvm.symm (hgood _ List.mem_cons_self) hk
  have hini' : (Cond.initialized cls).before args s' = true := vx_ot_at hW0 hvm.symm (hgood _ (List.mem_cons_of_mem _ List.mem_cons_self)) hini
  have hU' : vx_Zq Bundle.tN "UNASSIGNED_STACK" Bundle.steD A s' s'.heap := by rw [hhp]; exact vx_Zq.moved hW0.alike (hU.kept hS.2.1)
  have hN' : vx_Zq Bundle.tN "SUPPRESSED_SENTINEL" Bundle.listD A s' s'.heap := by rw [hhp]; exact vx_Zq.moved hW0.alike (hN.kept hS.2.1)
  have h : ∀ w ∈ Bundle.ownAtoms0 own ic cls names, w.before args s' = true := vx_own hat' (vx_isRefq hU'.1) (vx_isRefq hN'.1) hU'.2.word hN'.2.word
  have hown' : s'.vm.findClass own = some m.cls := by rw [hvm]; exact hown
  have hins : (Cond.instantiable cls 6).before args s' = true := h _ (by simp [Bundle.ownAtoms0])
  obtain ⟨vm₁, cX, kX, hfX, hkX, -, -, X₁, st1⟩ := Y.newCold hexec (own := own) (C := cls) (index := ik) (n := 6) hown' hk' hins hini'
    (g := F0 m pc ls rest) rfl (by rw [hb]; exact d0) (Nat.le_refl _) (Nat.le_refl _)
  generalize hT1 : (T.setVm vm₁).pushCell { cls := cX, slots := kX.instanceTypes.map defaultValue, vm := .none } = T1 at X₁ st1
  have hcat : (Value.ref T.heap.size).category = 1 := rfl
  have hcellA : T1.heap[T.heap.size]? = some (freshCell cX kX) := by rw [← hT1]; exact State.heap_pushCell_size _ _
  have d3' : decode c.code (pc + 3) = .ok (.dup, 1) := by rw [hb]; exact d3
  obtain ⟨U, hsteps, hrun, hend, hW, hsame, ce, hce, hO⟩ := X₁.ctorThrow0 hexec htr (own := own) (cls := cls) (names := names) (ic := ic) hown' hcls hnames h (fun x hx => nomatch hx) hfX hkX hcellA (by rw [hhp, hT]; exact Nat.le_refl _)
    (g := { method := m, pc := pc + 4, locals := ls, stack := .ref T.heap.size :: .ref T.heap.size :: rest, locked := none }) rfl hsize rfl rfl (rest := rest) rfl
    (by rw [hb]; exact d4) (by rw [hb]; exact d7) hout hRframes (by simp only [List.map_cons, List.sum_cons, hcat]; omega) hlocks
  obtain ⟨f1, f2⟩ := vx_frame hsame
  rw [hhp] at f1 f2
  have hWs : s.WarmedH U.vm := State.WarmedH.trans hW0 hW
  have hcl : s.vm.findClass cls = some ce.cls := by
    have h9 := hO.cls
    rw [hvm] at h9
    exact h9
  have hall : s.sameButNew ({ U with vm := s.vm } : State) locs mc ms := by
    subst hA
    obtain ⟨e1, e2⟩ := hsame
    rw [State.setFrames_setFrames] at e1
    have h2 : (T.setVm s.vm).sameButNew ({ U with vm := s.vm } : State) [] (0 + 1) (0 + 6) := ⟨e1, e2⟩
    have h3 := X.same.trans h2
    rw [List.append_nil] at h3
    exact h3.mono hc hs
  refine ⟨U, ?_, .threw T.heap.size, hrun, hend, Or.inr ⟨T.heap.size, rfl, cls, ce, locs, hx U hWs.alike f1 (fun q hq => f2 q hq (fun z hz => nomatch hz)), hce, hO.vm, hcl, hWs, hall, hf⟩⟩
  refine st1 _ ?_
  show Steps p.tables e below (T1.setTop { method := m, pc := pc + 3, locals := ls, stack := .ref T.heap.size :: rest, locked := none }) _
  jvm_step X₁.here [X₁.here.top, hexec, d3', Value.category]
  exact hsteps
/-- 'throw new E("text")': new; dup; ldc; invokespecial; athrow -/
theorem vx_throwS {cc : ByteArray} {pc : Nat} (hexec : p.tables.exec = Jvm.exec) (hb : c.code = cc) (hl : l.stackTraces = false) {own cls text : String} {names : List String} {ik is ic mc ms sa : Nat} {A : Nat → Prop}
    (hown : s.vm.findClass own = some m.cls) (hcls : Bundle.fit cls = true) (hnames : ∀ n ∈ names, Bundle.fit n = true)
    (hk : (Cond.classLink own ik cls).before args s = true) (hini : (Cond.initialized cls).before args s = true) (hstr : vk_R own is text sa s) (hat : ∀ w ∈ vx_atS own ic cls names, w.before args s = true)
    (hgood : ∀ w ∈ Cond.classLink own ik cls :: Cond.initialized cls :: vx_atS own ic cls names, vx_ot w = true)
    (hU : vx_Zq Bundle.tN "UNASSIGNED_STACK" Bundle.steD A s s.heap) (hN : vx_Zq Bundle.tN "SUPPRESSED_SENTINEL" Bundle.listD A s s.heap) (hS : va_S A s.heap H locs) (hsize : ls.size = c.maxLocals)
    (d0 : decode cc pc = .ok (.new ik, 3)) (d3 : decode cc (pc + 3) = .ok (.dup, 1)) (d4 : decode cc (pc + 4) = .ok (.ldc is, 2)) (d6 : decode cc (pc + 6) = .ok (.invokespecial ic, 3)) (d9 : decode cc (pc + 9) = .ok (.athrow, 1))
    (hout : ∀ x ∈ c.exceptionTable.toList, covers x (pc + 9) = false)
    (hRframes : names.length + 3 < R.frames) (hRlocals : (rest.map fun v => v.category).sum + (13 * (names.length + 1) + 43) ≤ R.locals) (hRcells : cells + 1 ≤ R.cells) (hRslots : slots + 6 ≤ R.slots) (hlocks : meth.locks = false)
    (hx : ∀ t : State, s.vm.Alike t.vm → H.size ≤ t.heap.size → (∀ q : Nat, q < H.size → t.heap[q]? = H[q]?) → XC cls s t)
    (hf : ∀ z ∈ locs, free z.base) (hc : cells + 1 ≤ mc) (hs : slots + 6 ≤ ms) :
    W p l e R s m args below meth c H locs cells slots (vx_MQ below Qc XC args s mc ms free) (F0 m pc ls rest) := by
  intro T hT X
  have htr : e.platform.stackTraces = false := (show e.platform.stackTraces = l.stackTraces by rw [X.admits.platform]).trans hl
  have Y := vx_rebase X (R' := { frames := R.frames, locals := R.locals, cells := 1, slots := 6 }) (Nat.le_refl _) (Nat.le_refl _) hRcells hRslots
  obtain ⟨s', hA⟩ : ∃ z, z = (T.setVm s.vm).setFrames (.invoking m args :: below) := ⟨_, rfl⟩
  rw [← hA] at Y
  have hvm : s'.vm = s.vm := by rw [hA]; rfl
  have hhp : s'.heap = H := by rw [hA]; exact hT
  have hW0 : s.WarmedH s'.vm := by rw [hvm]; exact State.WarmedH.refl s
  have hat' : ∀ w ∈ vx_atS own ic cls names, w.before args s' = true := fun w hw => vx_ot_at hW0 hvm.symm (hgood w (List.mem_cons_of_mem _ (List.mem_cons_of_mem _ hw))) (hat w hw)
  have hk' : (Cond.classLink own ik cls).before args s' = true := vx_ot_at hW0 hvm.symm (hgood _ List.mem_cons_self) hk
  have hini' : (Cond.initialized cls).before args s' = true := vx_ot_at hW0 hvm.symm (hgood _ (List.mem_cons_of_mem _ List.mem_cons_self)) hini
  have hU' : vx_Zq Bundle.tN "UNASSIGNED_STACK" Bundle.steD A s' s'.heap := by rw [hhp]; exact vx_Zq.moved hW0.alike (hU.kept hS.2.1)
  have hN' : vx_Zq Bundle.tN "SUPPRESSED_SENTINEL" Bundle.listD A s' s'.heap := by rw [hhp]; exact vx_Zq.moved hW0.alike (hN.kept hS.2.1)
  have h : ∀ w ∈ Bundle.ownAtoms own ic cls names, w.before args s' = true := vx_own hat' (vx_isRefq hU'.1) (vx_isRefq hN'.1) hU'.2.word hN'.2.word
  have hown' : s'.vm.findClass own = some m.cls := by rw [hvm]; exact hown
  have hins : (Cond.instantiable cls 6).before args s' = true := h _ (by simp [Bundle.ownAtoms])
  obtain ⟨vm₁, cX, kX, hfX, hkX, -, -, X₁, st1⟩ := Y.newCold hexec (own := own) (C := cls) (index := ik) (n := 6) hown' hk' hins hini'
    (g := F0 m pc ls rest) rfl (by rw [hb]; exact d0) (Nat.le_refl _) (Nat.le_refl _)
  generalize hT1 : (T.setVm vm₁).pushCell { cls := cX, slots := kX.instanceTypes.map defaultValue, vm := .none } = T1 at X₁ st1
  have hcat : (Value.ref T.heap.size).category = 1 := rfl
  have hcellA : T1.heap[T.heap.size]? = some (freshCell cX kX) := by rw [← hT1]; exact State.heap_pushCell_size _ _
  have d3' : decode c.code (pc + 3) = .ok (.dup, 1) := by rw [hb]; exact d3
  have d4' : decode c.code (pc + 4) = .ok (.ldc is, 2) := by rw [hb]; exact d4
  have hstr' : vk_R own is text sa s' := vk_R.warm hW0 hstr
  obtain ⟨U, hsteps, hrun, hend, hW, hsame, ce, hce, hO⟩ := X₁.ctorThrowS hexec htr (own := own) (cls := cls) (names := names) (ic := ic) hown' hcls hnames h (fun x hx => nomatch hx) hfX hkX hcellA (by rw [hhp, hT]; exact Nat.le_refl _) (msg := .ref sa) rfl
    (g := { method := m, pc := pc + 6, locals := ls, stack := .ref sa :: .ref T.heap.size :: .ref T.heap.size :: rest, locked := none }) rfl hsize rfl rfl (rest := rest) rfl
    (by rw [hb]; exact d6) (by rw [hb]; exact d9) hout hRframes (by simp only [List.map_cons, List.sum_cons, hcat]; omega) hlocks
  obtain ⟨f1, f2⟩ := vx_frame hsame
  rw [hhp] at f1 f2
  have hWs : s.WarmedH U.vm := State.WarmedH.trans hW0 hW
  have hcl : s.vm.findClass cls = some ce.cls := by
    have h9 := hO.cls
    rw [hvm] at h9
    exact h9
  have hall : s.sameButNew ({ U with vm := s.vm } : State) locs mc ms := by
    subst hA
    obtain ⟨e1, e2⟩ := hsame
    rw [State.setFrames_setFrames] at e1
    have h2 : (T.setVm s.vm).sameButNew ({ U with vm := s.vm } : State) [] (0 + 1) (0 + 6) := ⟨e1, e2⟩
    have h3 := X.same.trans h2
    rw [List.append_nil] at h3
    exact h3.mono hc hs
  refine ⟨U, ?_, .threw T.heap.size, hrun, hend, Or.inr ⟨T.heap.size, rfl, cls, ce, locs, hx U hWs.alike f1 (fun q hq => f2 q hq (fun z hz => nomatch hz)), hce, hO.vm, hcl, hWs, hall, hf⟩⟩
  refine st1 _ ?_
  show Steps p.tables e below (T1.setTop { method := m, pc := pc + 3, locals := ls, stack := .ref T.heap.size :: rest, locked := none }) _
  jvm_step X₁.here [X₁.here.top, hexec, d3', Value.category]
  exact X₁.ldcString hexec (own := own) (text := text) (index := is) (a := sa) hown' hstr'.1 hstr'.2
    (g := { method := m, pc := pc + 4, locals := ls, stack := .ref T.heap.size :: .ref T.heap.size :: rest, locked := none }) rfl d4' _ hsteps
/-- 'throw new E("text")', the text by a wide index -/
theorem vx_throwSW {cc : ByteArray} {pc : Nat} (hexec : p.tables.exec = Jvm.exec) (hb : c.code = cc) (hl : l.stackTraces = false) {own cls text : String} {names : List String} {ik is ic mc ms sa : Nat} {A : Nat → Prop}
    (hown : s.vm.findClass own = some m.cls) (hcls : Bundle.fit cls = true) (hnames : ∀ n ∈ names, Bundle.fit n = true)
    (hk : (Cond.classLink own ik cls).before args s = true) (hini : (Cond.initialized cls).before args s = true) (hstr : vk_R own is text sa s) (hat : ∀ w ∈ vx_atS own ic cls names, w.before args s = true)
    (hgood : ∀ w ∈ Cond.classLink own ik cls :: Cond.initialized cls :: vx_atS own ic cls names, vx_ot w = true)
    (hU : vx_Zq Bundle.tN "UNASSIGNED_STACK" Bundle.steD A s s.heap) (hN : vx_Zq Bundle.tN "SUPPRESSED_SENTINEL" Bundle.listD A s s.heap) (hS : va_S A s.heap H locs) (hsize : ls.size = c.maxLocals)
    (d0 : decode cc pc = .ok (.new ik, 3)) (d3 : decode cc (pc + 3) = .ok (.dup, 1)) (d4 : decode cc (pc + 4) = .ok (.ldc_w is, 3)) (d7 : decode cc (pc + 7) = .ok (.invokespecial ic, 3)) (d10 : decode cc (pc + 10) = .ok (.athrow, 1))
    (hout : ∀ x ∈ c.exceptionTable.toList, covers x (pc + 10) = false)
    (hRframes : names.length + 3 < R.frames) (hRlocals : (rest.map fun v => v.category).sum + (13 * (names.length + 1) + 43) ≤ R.locals) (hRcells : cells + 1 ≤ R.cells) (hRslots : slots + 6 ≤ R.slots) (hlocks : meth.locks = false)
    (hx : ∀ t : State, s.vm.Alike t.vm → H.size ≤ t.heap.size → (∀ q : Nat, q < H.size → t.heap[q]? = H[q]?) → XC cls s t)
    (hf : ∀ z ∈ locs, free z.base) (hc : cells + 1 ≤ mc) (hs : slots + 6 ≤ ms) :
    W p l e R s m args below meth c H locs cells slots (vx_MQ below Qc XC args s mc ms free) (F0 m pc ls rest) := by
  intro T hT X
  have htr : e.platform.stackTraces = false := (show e.platform.stackTraces = l.stackTraces by rw [X.admits.platform]).trans hl
  have Y := vx_rebase X (R' := { frames := R.frames, locals := R.locals, cells := 1, slots := 6 }) (Nat.le_refl _) (Nat.le_refl _) hRcells hRslots
  obtain ⟨s', hA⟩ : ∃ z, z = (T.setVm s.vm).setFrames (.invoking m args :: below) := ⟨_, rfl⟩
  rw [← hA] at Y
  have hvm : s'.vm = s.vm := by rw [hA]; rfl
  have hhp : s'.heap = H := by rw [hA]; exact hT
  have hW0 : s.WarmedH s'.vm := by rw [hvm]; exact State.WarmedH.refl s
  have hat' : ∀ w ∈ vx_atS own ic cls names, w.before args s' = true := fun w hw => vx_ot_at hW0 hvm.symm (hgood w (List.mem_cons_of_mem _ (List.mem_cons_of_mem _ hw))) (hat w hw)
  have hk' : (Cond.classLink own ik cls).before args s' = true := vx_ot_at hW0 hvm.symm (hgood _ List.mem_cons_self) hk
  have hini' : (Cond.initialized cls).before args s' = true := vx_ot_at hW0 hvm.symm (hgood _ (List.mem_cons_of_mem _ List.mem_cons_self)) hini
  have hU' : vx_Zq Bundle.tN "UNASSIGNED_STACK" Bundle.steD A s' s'.heap := by rw [hhp]; exact vx_Zq.moved hW0.alike (hU.kept hS.2.1)
  have hN' : vx_Zq Bundle.tN "SUPPRESSED_SENTINEL" Bundle.listD A s' s'.heap := by rw [hhp]; exact vx_Zq.moved hW0.alike (hN.kept hS.2.1)
  have h : ∀ w ∈ Bundle.ownAtoms own ic cls names, w.before args s' = true := vx_own hat' (vx_isRefq hU'.1) (vx_isRefq hN'.1) hU'.2.word hN'.2.word
  have hown' : s'.vm.findClass own = some m.cls := by rw [hvm]; exact hown
  have hins : (Cond.instantiable cls 6).before args s' = true := h _ (by simp [Bundle.ownAtoms])
  obtain ⟨vm₁, cX, kX, hfX, hkX, -, -, X₁, st1⟩ := Y.newCold hexec (own := own) (C := cls) (index := ik) (n := 6) hown' hk' hins hini'
    (g := F0 m pc ls rest) rfl (by rw [hb]; exact d0) (Nat.le_refl _) (Nat.le_refl _)
  generalize hT1 : (T.setVm vm₁).pushCell { cls := cX, slots := kX.instanceTypes.map defaultValue, vm := .none } = T1 at X₁ st1
  have hcat : (Value.ref T.heap.size).category = 1 := rfl
  have hcellA : T1.heap[T.heap.size]? = some (freshCell cX kX) := by rw [← hT1]; exact State.heap_pushCell_size _ _
  have d3' : decode c.code (pc + 3) = .ok (.dup, 1) := by rw [hb]; exact d3
  have d4' : decode c.code (pc + 4) = .ok (.ldc_w is, 3) := by rw [hb]; exact d4
  have hstr' : vk_R own is text sa s' := vk_R.warm hW0 hstr
  obtain ⟨U, hsteps, hrun, hend, hW, hsame, ce, hce, hO⟩ := X₁.ctorThrowS hexec htr (own := own) (cls := cls) (names := names) (ic := ic) hown' hcls hnames h (fun x hx => nomatch hx) hfX hkX hcellA (by rw [hhp, hT]; exact Nat.le_refl _) (msg := .ref sa) rfl
    (g := { method := m, pc := pc + 7, locals := ls, stack := .ref sa :: .ref T.heap.size :: .ref T.heap.size :: rest, locked := none }) rfl hsize rfl rfl (rest := rest) rfl
    (by rw [hb]; exact d7) (by rw [hb]; exact d10) hout hRframes (by simp only [List.map_cons, List.sum_cons, hcat]; omega) hlocks
  obtain ⟨f1, f2⟩ := vx_frame hsame
  rw [hhp] at f1 f2
  have hWs : s.WarmedH U.vm := State.WarmedH.trans hW0 hW
  have hcl : s.vm.findClass cls = some ce.cls := by
    have h9 := hO.cls
    rw [hvm] at h9
    exact h9
  have hall : s.sameButNew ({ U with vm := s.vm } : State) locs mc ms := by
    subst hA
    obtain ⟨e1, e2⟩ := hsame
    rw [State.setFrames_setFrames] at e1
    have h2 : (T.setVm s.vm).sameButNew ({ U with vm := s.vm } : State) [] (0 + 1) (0 + 6) := ⟨e1, e2⟩
    have h3 := X.same.trans h2
    rw [List.append_nil] at h3
    exact h3.mono hc hs
  refine ⟨U, ?_, .threw T.heap.size, hrun, hend, Or.inr ⟨T.heap.size, rfl, cls, ce, locs, hx U hWs.alike f1 (fun q hq => f2 q hq (fun z hz => nomatch hz)), hce, hO.vm, hcl, hWs, hall, hf⟩⟩
  refine st1 _ ?_
  show Steps p.tables e below (T1.setTop { method := m, pc := pc + 3, locals := ls, stack := .ref T.heap.size :: rest, locked := none }) _
  jvm_step X₁.here [X₁.here.top, hexec, d3', Value.category]
  exact X₁.ldcStringW hexec (own := own) (text := text) (index := is) (a := sa) hown' hstr'.1 hstr'.2
    (g := { method := m, pc := pc + 4, locals := ls, stack := .ref T.heap.size :: .ref T.heap.size :: rest, locked := none }) rfl d4' _ hsteps
end Ends
section Bodies
variable {l : Launch}
theorem vx_ofW {y : MethodName} {ws ws' : List Cond} {rm : Room} {Pc : Array Value → State → Prop} {Qc : Array Value → State → Outcome → State → Prop} {XC : String → State → State → Prop} {mc ms : Nat} {free : Addr → Prop} {cc : ByteArray} {maxL : Nat} {ret : Option FieldType}
    (hy : plainName y.cls = true) (hw : ws = Cond.code y cc maxL ret :: ws')
    (body : ∀ p e s m args below meth c s₁, BodyLoose p l y (headSpec ws rm) cc maxL ret e s m args below meth c s₁ → c.maxLocals = maxL → (∀ x ∈ c.exceptionTable.toList, False) → Pc args s →
      W p l e (headSpec ws rm).room s m args below meth c s.heap [] 0 0 (vx_MQ below Qc XC args s mc ms free) (entryFrame m args maxL)) : vx_Met l y ws rm Pc Qc XC mc ms free := by
  refine MetFree.of_bodyS (code := cc) (maxLocals := maxL) (ret := ret) hy ?_ ?_
  · intro args s m h hn
    obtain ⟨meth, c, h1, h2, h3, h4, h5, h6, -, -⟩ := Cond.code_spec hn (atoms_spec (ws := ws) h _ (by rw [hw]; exact List.mem_cons_self))
    exact ⟨meth, c, h1, h2, h3, h4, h5, h6⟩
  · intro p e s m args below meth c s₁ B hml hP _
    have hh0 : s₁.heap = s.heap := by rw [B.state]; rfl
    have ht : ∀ x ∈ c.exceptionTable.toList, False := by
      obtain ⟨meth9, c9, h1, h2, -, -, -, -, h7, -⟩ := Cond.code_spec B.named (atoms_spec (ws := ws) B.pre _ (by rw [hw]; exact List.mem_cons_self))
      cases Option.some.inj (h1.symm.trans B.method)
      cases Option.some.inj (h2.symm.trans (Stand.of_body B).code)
      intro x hx
      rw [Array.isEmpty_iff.mp h7] at hx
      cases hx
    obtain ⟨t, a1, o, b1, b2, b3⟩ := body p e s m args below meth c s₁ B hml ht hP s₁ hh0 (Stand.of_body B)
    exact ⟨t, o, a1, b1, b2, b3⟩
/-- the table of a body with handlers -/
theorem vx_table {p : Program} {x y : MethodName} {S : Spec} {cc bytes : ByteArray} {maxL maxL' : Nat} {ret ret' : Option FieldType} {e : Env} {s s₁ : State} {m : MethodId} {args : Array Value} {below : List Frame} {meth : Method} {c : Code} {hh : List (Nat × Nat × Nat × Nat)}
    (B : BodyLoose p l y S cc maxL ret e s m args below meth c s₁) (h : (Cond.codeWith y bytes maxL' ret' hh).before args s = true) : c.exceptionTable.toList = tableOf hh := by
  obtain ⟨m9, meth9, c9, hn9, h1, h2, -, -, h6, -⟩ := Cond.codeWith_spec h
  cases Option.some.inj (hn9.symm.trans B.named)
  cases Option.some.inj (h1.symm.trans B.method)
  cases Option.some.inj (h2.symm.trans (Stand.of_body B).code)
  rw [← h6, table_eq]
end Bodies
end VXA
/-! ===== END ===== -/
/-! ===== BEGIN a static call of a method with an exception table ===== -/
section VXS
variable {p : Program} {l : Launch} {e : Env} {R : Room} {s : State} {m : MethodId} {args : Array Value} {below : List Frame} {meth : Method} {c : Code} {T : State} {H : Heap} {locs : List Loc} {cells slots : Nat}
abbrev vx_CSW (R : Room) (s : State) (args : Array Value) (own : String) (index : Nat) (y : MethodName) (bytes : ByteArray) (maxL : Nat) (ret : Option FieldType) (hh : List (Nat × Nat × Nat × Nat)) (ws : List Cond) (rm : Room) (mc ms n : Nat) : Prop :=
  (rm.cells = mc ∧ rm.slots = ms ∧ rm.frames + 1 ≤ R.frames ∧ 8 + (maxL + 11) + rm.locals ≤ R.locals ∧ (∀ w ∈ ws, ∀ (a' : Array Value) (U : State), s.WarmedH U.vm → w.before a' U = true) ∧ Cond.codeWith y bytes maxL ret hh ∈ ws) ∧
  (Cond.codeWith y bytes maxL ret hh).before args s = true ∧ (Cond.initialized y.cls).before args s = true ∧ (y.cls ≠ "java/lang/invoke/MethodHandle" ∧ y.cls ≠ "java/lang/invoke/VarHandle") ∧
  (∀ sig, parseMethodDescriptor y.desc = some sig → n = sig.parameters.length) ∧ (Cond.methodLink own index y).before args s = true ∧ (Cond.static y).before args s = true
theorem vx_cwSW {own : String} {index maxL mc ms : Nat} {y : MethodName} {bytes : ByteArray} {ret : Option FieldType} {hh : List (Nat × Nat × Nat × Nat)} {Ts ws ws' : List Cond} {rm : Room} (n : Nat) (ht : ∀ w ∈ Ts, w.before args s = true) (hT : GoodIn Ts (va_wsS own index y ws)) (hw : ws = Cond.codeWith y bytes maxL ret hh :: ws') (hrc : rm.cells = mc) (hrs : rm.slots = ms)
    (hd : y.cls ≠ "java/lang/invoke/MethodHandle" ∧ y.cls ≠ "java/lang/invoke/VarHandle" ∧ (parseMethodDescriptor y.desc).map (fun d => d.parameters.length) = some n) (hR : rm.frames + 1 ≤ R.frames ∧ 8 + (maxL + 11) + rm.locals ≤ R.locals) :
    vx_CSW R s args own index y bytes maxL ret hh ws rm mc ms n := by
  have ok : ∀ w ∈ va_wsS own index y ws, w.before args s = true := fun w h => ht w (hT w h).1
  have hG : GoodIn Ts ws := fun w h => hT w (by unfold va_wsS; exact List.mem_append_right _ h)
  have hc : Cond.codeWith y bytes maxL ret hh ∈ ws := by rw [hw]; exact List.mem_cons_self
  refine ⟨⟨hrc, hrs, hR.1, hR.2, pay_in ht hG, hc⟩, ht _ (hG _ hc).1, ok _ (by simp [va_wsS]), ⟨hd.1, hd.2.1⟩, fun sig h => ?_, ok _ (by simp [va_wsS]), ok _ (by simp [va_wsS])⟩
  have h2 := hd.2.2
  rw [h] at h2
  exact (Option.some.inj h2).symm
theorem vx_callSW (X : Stand p l e R s m args below meth c T locs cells slots) (hexec : p.tables.exec = Jvm.exec) {own : String} {index : Nat} {y : MethodName} {bytes : ByteArray} {maxL : Nat} {ret : Option FieldType} {hh : List (Nat × Nat × Nat × Nat)}
    (hown : s.vm.findClass own = some m.cls) (hlink : (Cond.methodLink own index y).before args s = true) (hstat : (Cond.static y).before args s = true) (hinit : (Cond.initialized y.cls).before args s = true)
    (hcode : (Cond.codeWith y bytes maxL ret hh).before args s = true) (hy : y.cls ≠ "java/lang/invoke/MethodHandle" ∧ y.cls ≠ "java/lang/invoke/VarHandle")
    {W9 : Nat} {Pre : Pt → Array Value → Prop} {Post : Pt → Array Value → Option Value → Pt → Prop} (hK : Back l R p e below s args y 3 W9 Pre Post)
    {g : JFrame} (hg : g.method = m) (hsize : g.locals.size = c.maxLocals) {argsL rest : List Value} (hlen : ∀ sig, parseMethodDescriptor y.desc = some sig → argsL.length = sig.parameters.length)
    (hstack : g.stack = argsL.reverse ++ rest) (hW : 2 * g.monitorRoom + (rest.map fun v => v.category).sum ≤ W9) (hdg : decode c.code g.pc = .ok (.invokestatic index, 3))
    (hpre : ∀ vm₁, s.WarmedH vm₁ → Pre ⟨T.setVm vm₁, locs, cells, slots⟩ argsL.toArray) :
    ∃ (v : Option Value) (vm₁ : Vm) (B : Pt), s.WarmedH vm₁ ∧ Stand p l e R s m args below meth c B.U B.locs B.cells B.slots ∧ Post ⟨T.setVm vm₁, locs, cells, slots⟩ argsL.toArray v B ∧
      ∀ target, Steps p.tables e below (B.U.setTop { g with pc := g.pc + 3, stack := v.toList ++ rest }) target → Steps p.tables e below (T.setTop g) target := by
  obtain ⟨mk, methM, cM, hnamed, hmethM, -, -, -, -, -, -, hsigM⟩ := Cond.codeWith_spec hcode
  have hstatic : methM.isStatic = true := Cond.static_spec hnamed hmethM hstat
  obtain ⟨kP, hkP, -⟩ := className_of_methodNamed hnamed
  have hinitP : kP.init = .initialized := Cond.initialized_spec (findClass_of_methodNamed hnamed) hkP hinit
  obtain ⟨vm₁, X₁, hstep₁⟩ := X.invokestatic hexec hown hlink hnamed hmethM hstatic hkP hinitP hy (g := g) hg (argsL := argsL) (rest := rest) (hlen _ hsigM) hstack hdg
  obtain ⟨v, B, X', hpost, hsteps⟩ := hK m meth c ⟨T.setVm vm₁, locs, cells, slots⟩ { g with stack := rest } (.invokestatic index) mk argsL.toArray X₁ hg hsize hdg hW (X₁.named hnamed) (hpre vm₁ X₁.warmed)
  exact ⟨v, vm₁, B, X₁.warmed, X', hpost, fun target h => hstep₁ _ fun acts => by rw [doInvoke_state]; exact hsteps.trans h⟩
theorem vx_runSW {y : MethodName} {bytes cc : ByteArray} {maxL nL mc ms n index : Nat} {ret : Option FieldType} {hh : List (Nat × Nat × Nat × Nat)} {ws : List Cond} {rm : Room} {Pc : Array Value → State → Prop} {Qc : Array Value → State → Outcome → State → Prop} {free : Addr → Prop} {Ts : List Cond} {own : String} {As rest : List Value} {g : JFrame}
    (S : CallFix p m c cc nL s args Ts own) (hM : Met l y ws rm Pc Qc mc ms free) (cw : vx_CSW R s args own index y bytes maxL ret hh ws rm mc ms n) (hp : PreS s H Pc As)
    (hg : g.method = m) (hn : As.length = n) (hsize : g.locals.size = nL) (hstack : g.stack = As.reverse ++ rest) (hW : 2 * g.monitorRoom + (rest.map fun v => v.category).sum ≤ 8) (hdg : decode cc g.pc = .ok (.invokestatic index, 3)) (hf : cells + mc ≤ R.cells ∧ slots + ms ≤ R.slots) :
    va_Run p l e R s m args below meth c H locs cells slots mc ms g rest (Qc As.toArray) (free) := by
  obtain ⟨⟨hrc, hrs, hfr, hlo, hws, hcw⟩, hcode, hini, hy, hlen, hl, hstt⟩ := cw
  have hK : Back l R p e below s args y 3 8 (PreOf R mc ms Pc) (PostOf Qc mc ms free) := va_backW (hh := hh) (bytes := bytes) (maxL := maxL) (ret := ret) hM hp.1 hrc hrs hfr hlo hws hcw (fun a' U hW => word_at hW (Or.inl (by first | rfl | simp [Cond.onTables, Cond.keeps, Cond.steady])) hini)
  obtain ⟨hx, hb, hml, ho, -⟩ := S
  intro T hT X
  obtain ⟨v, vm₁, ⟨U', l2, c2, s2⟩, hW₁, X', ⟨g', mk, t, L, e1, e2, hq, h1, hL, h2, h3⟩, st⟩ := vx_callSW X hx (hh := hh) (bytes := bytes) (maxL := maxL) (ret := ret) ho hl hstt hini hcode hy hK hg (hsize.trans hml.symm) (argsL := As) (rest := rest) (fun sig h => hn.trans (hlen sig h)) hstack hW (by rw [hb]; exact hdg)
    (fun vm₁ hW₁ => ⟨hf.1, hf.2, hp.2 (T.setVm vm₁) hT hW₁⟩)
  dsimp only [Pt.U, Pt.locs, Pt.cells, Pt.slots] at X' e1 e2 h1 h2 h3 st
  subst h1; subst h2; subst h3
  exact ⟨v, (T.setVm vm₁).calling g' mk As.toArray, t, U', L, hT, X', hL, e1, e2, hq, st⟩
/-- not caught here, past rows that name other classes: it goes on to the caller -/
theorem vx_outP {p : Program} {l : Launch} {e : Env} {R : Room} {s : State} {m : MethodId} {args : Array Value} {below : List Frame} {meth : Method} {c : Code} {H : Heap} {locs : List Loc} {cells slots : Nat} {free : Addr → Prop} {ls : Array Slot} {rest : List Value} {Qc : Array Value → State → Outcome → State → Prop} {XC : String → State → State → Prop}
    {pc : Nat} {own E : String} {ce : Cell} {q : Addr} {mc ms : Nat} (hown : s.vm.findClass own = some m.cls) (hlocks : meth.locks = false)
    (hpass : ∀ z ∈ c.exceptionTable.toList, covers z pc = false ∨ (z.catchType ≠ 0 ∧ ∃ nm : String, (Cond.classLink own z.catchType nm).before args s = true ∧ va_Nc E nm s)) (hcell : H[q]? = some ce) (hv : ce.vm = .none) (hcl : s.vm.findClass E = some ce.cls)
    (hx : ∀ t : State, t.heap = H → s.vm.Alike t.vm → XC E s t) (hf : ∀ z ∈ locs, free z.base) (hc : cells ≤ mc) (hs : slots ≤ ms) :
    vx_W p l e R s m args below meth c H locs cells slots (vx_MQ below Qc XC args s mc ms free) (F0 m pc ls rest) q := by
  intro T hT X
  have hpl : e.platform.magicAccessors = ({} : Platform).magicAccessors := by rw [X.admits.platform]
  obtain ⟨vm', hW', X', st⟩ := X.outThrough hlocks q (g := F0 m pc ls rest) rfl rfl rfl (cell := ce) (by rw [hT]; exact hcell) (by rw [hv]; rfl)
    (by obtain ⟨k9, h9, -⟩ := Vm.findClass_spec hcl; exact ⟨k9, h9⟩) (fun z hz => by
      rcases hpass z hz with h | ⟨hz0, nm, hl1, hn1⟩
      · exact Or.inl h
      · obtain ⟨c6, hc6, hcl6⟩ := Cond.classLink_spec hown hl1 e.platform hpl
        obtain ⟨a8, b8, h1, h2, h3⟩ := hn1
        cases Option.some.inj (h1.symm.trans hcl)
        cases Option.some.inj (h2.symm.trans hc6)
        exact Or.inr ⟨hz0, _, hcl6, h3⟩)
  obtain ⟨g₀, hfr⟩ := X'.frames_eq
  have hcell9 : ((T.setVm vm').setFrames (.throwing q :: below)).heap[q]? = some ce := by
    show T.heap[q]? = some ce
    rw [hT]; exact hcell
  have hend : Ended ((T.setVm vm').setFrames (.throwing q :: below)) below (.threw q) := State.frames_setFrames _ (State.cur_lt_of_frames hfr)
  refine ⟨(T.setVm vm').setFrames (.throwing q :: below), ?_, .threw q, X'.here.running, hend, Or.inr ⟨q, rfl, E, ce, locs, hx _ hT (X'.ends _).1.alike, hcell9, hv, hcl, (X'.ends _).1, (X'.ends _).2.mono hc hs, hf⟩⟩
  rw [X.pushThrowing_eq]
  exact st
/-- a thing of a world lies in the heap -/
theorem vx_lt {D : va_G} {cl : List vw_C} {ws : va_W} {H1 : Heap} (h : va_P D cl ws H1) {k : Nat} {q : Nat × va_E} (hk : ws[k]? = some q) : q.1 < H1.size := (h k q hk).lt
end VXS
/-! ===== END ===== -/
/-! ===== BEGIN methods with a table of their own: called by a name, returning or throwing ===== -/
section VXH
/-! vx_backW, vx_callVX, vx_callSX, vx_callVW, vx_runVW, vx_runVX, vx_runSX, vx_ofWH follow the same proofs as their sisters above (Free/Laws.lean, Shelf42/LK1.lean); vx_outP calls Shelf42/NT130.lean (outThrough). -/
section
variable {l : Launch} {R : Room} {p : Program} {e : Env} {below : List Frame} {s : State} {sargs : Array Value} {y : MethodName} {len W9 : Nat}
theorem vx_backW {ws : List Cond} {rm : Room} {Pc : Array Value → State → Prop} {Qc : Array Value → State → Outcome → State → Prop} {XC : String → State → State → Prop} {mc ms : Nat} {free : Addr → Prop} {bytes : ByteArray} {maxL : Nat} {ret : Option FieldType} {hh : List (Nat × Nat × Nat × Nat)}
    (hM : vx_Met l y ws rm Pc Qc XC mc ms free) (hblind : FrameBlind Pc) (hrc : rm.cells = mc) (hrs : rm.slots = ms)
    (hframes : rm.frames + 1 ≤ R.frames) (hlocals : W9 + (maxL + 11) + rm.locals ≤ R.locals)
    (hws : ∀ w ∈ ws, ∀ a' U, s.WarmedH U.vm → w.before a' U = true) (hcode : Cond.codeWith y bytes maxL ret hh ∈ ws) (hinit : ∀ a' U, s.WarmedH U.vm → (Cond.initialized y.cls).before a' U = true) :
    vx_Back l R p e below s sargs y len W9 (PreOf R mc ms Pc) (PostOf Qc mc ms free) (vx_Post XC mc ms free) := by
  intro m meth c A g ig mk a X hg hsize hdg hW hn hp
  have h1 : (headSpec ws rm).pre.before a A.U = true := atoms_intro fun w hw => hws w hw _ _ X.warmed
  have h2 : (Cond.codeWith y bytes maxL ret hh).before a A.U = true := hws _ hcode _ _ X.warmed
  have h3 : (Cond.initialized y.cls).before a A.U = true := hinit _ _ X.warmed
  have h4 : A.cells + (headSpec ws rm).room.cells ≤ R.cells := by rw [show (headSpec ws rm).room.cells = mc from hrc]; exact hp.1
  have h5 : A.slots + (headSpec ws rm).room.slots ≤ R.slots := by rw [show (headSpec ws rm).room.slots = ms from hrs]; exact hp.2.1
  have hPc : Pc a (A.U.calling g mk a) := hblind _ _ _ _ hp.2.2
  obtain ⟨U, Ls, c0, s0⟩ := A
  dsimp only [Pt.U, Pt.locs, Pt.cells, Pt.slots] at h1 h2 h3 h4 h5 X hn hPc ⊢
  obtain ⟨m9, methY, cY, hn9, hmY, hcY, -, hlY, -⟩ := Cond.codeWith_spec h2
  cases Option.some.inj (hn9.symm.trans hn)
  obtain ⟨kY, hkY, -⟩ := className_of_methodNamed hn
  have hinitY : kY.init = .initialized := Cond.initialized_spec (findClass_of_methodNamed hn) hkY h3
  have h : At U g.method c below := by rw [hg]; exact X.here
  have hlocals9 : W9 + (maxL + 11) + (headSpec ws rm).room.locals ≤ R.locals := hlocals
  have happ : (headSpec ws rm).appliesLoose y e.platform (U.calling g mk a) = true :=
    Spec.appliesLoose_calling (g := g) h hdg hn hkY hinitY
      (X.room_calling (g := g) (R' := (headSpec ws rm).room) hsize hmY hcY hframes (by rw [hlY]; omega) h4 h5) h1
  obtain ⟨mid, hmid⟩ := h.above
  have hfr : (U.setTop g).frames = (.java g :: mid) ++ below := by rw [State.frames_setTop' g h.top, hmid]; rfl
  obtain ⟨o, s₂, hsteps, -, hend, hq⟩ := Steps.callFree hM p X.admits X.cas X.clock (acts := []) hfr happ hPc trivial
  have hq' : vx_Q Qc XC mc ms free a (U.calling g mk a) o s₂ := hq
  rw [State.frames_setTop' g h.top] at hend
  obtain ⟨g₀, hg0⟩ := Option.isSome_iff_exists.mp h.top
  obtain ⟨r, hr⟩ := State.topJava?_eq_some.mp hg0
  have hr' : (({ U with heap := s₂.heap, slotsUsed := s₂.slotsUsed } : State).setVm s₂.vm).frames = .java g₀ :: r := hr
  rcases hq' with ⟨hqc, L, hfe, hL⟩ | ⟨q, rfl, E, ce, L, hx, hce, hcv, hcl, hW₂, hsm, hL⟩
  · obtain ⟨⟨v, rfl⟩, hW₂, e2, q2, q3, q4, q5, q6⟩ := id hfe
    have e3 : s₂ = ({ (U.calling g mk a).setFrames s₂.frames with heap := s₂.heap, slotsUsed := s₂.slotsUsed } : State).setVm s₂.vm := by
      have : s₂ = ({ s₂ with vm := (U.calling g mk a).vm } : State).setVm s₂.vm := rfl
      rw [e2] at this
      exact this
    obtain ⟨c₂, i₂, len₂, hc₂, hd₂, hf₂⟩ := hend
    have hW' : U.WarmedH s₂.vm := hW₂
    have hcc : c₂ = c := by
      have h1 : s₂.code? g.method = U.code? g.method := by
        rw [State.code?_eq, State.code?_eq, hW'.alike.method?]
      exact Option.some.inj (hc₂.symm.trans (h1.trans h.code))
    subst hcc
    have hlen : len₂ = len := by rw [hdg] at hd₂; cases hd₂; rfl
    subst hlen
    have hs₂ : s₂ = (({ U with heap := s₂.heap, slotsUsed := s₂.slotsUsed } : State).setVm s₂.vm).setTop { g with pc := g.pc + len₂, stack := v.toList ++ g.stack } := by
      refine e3.trans ?_
      rw [hf₂, State.calling_eq h.top, State.setFrames_setFrames, State.setTop_of_frames _ hr', hr]
      rfl
    have hsame : U.sameButNew ({ U with heap := s₂.heap, slotsUsed := s₂.slotsUsed } : State) L mc ms := by
      refine ⟨?_, q2, q3, q4, q5, q6⟩
      obtain ⟨t, ht, -⟩ := State.frames_cons hr
      show ({ U with heap := s₂.heap, slotsUsed := s₂.slotsUsed } : State) = { U.setFrames U.frames with heap := s₂.heap, slotsUsed := s₂.slotsUsed }
      rw [State.setFrames_self ht]
    subst hg
    refine Or.inl ⟨v, ⟨(({ U with heap := s₂.heap, slotsUsed := s₂.slotsUsed } : State).setVm s₂.vm), Ls ++ L, c0 + mc, s0 + ms⟩,
      ⟨X.admits, X.cas, X.clock, X.frames, X.room, X.hears, X.method, X.code, (X.here.setHeapUsed s₂.heap s₂.slotsUsed).setVm hW'.alike, X.tail, State.WarmedH.trans X.warmed hW', X.limits, X.bytes, X.same.trans (hsame.setVm s.vm)⟩,
      ⟨g, mk, s₂, L, rfl, rfl, hqc, rfl, hL, rfl, rfl⟩, ?_⟩
    show Steps p.tables e below _ ((({ U with heap := s₂.heap, slotsUsed := s₂.slotsUsed } : State).setVm s₂.vm).setTop { g with pc := g.pc + len₂, stack := v.toList ++ g.stack })
    rw [← hs₂]
    exact hsteps
  · obtain ⟨e2, q2, q3, q4, q5, q6⟩ := id hsm
    have e3 : s₂ = ({ (U.calling g mk a).setFrames s₂.frames with heap := s₂.heap, slotsUsed := s₂.slotsUsed } : State).setVm s₂.vm := by
      have : s₂ = ({ s₂ with vm := (U.calling g mk a).vm } : State).setVm s₂.vm := rfl
      rw [e2] at this
      exact this
    have hf₂ : s₂.frames = .throwing q :: .java g :: U.frames.tail := hend
    have hW' : U.WarmedH s₂.vm := hW₂
    have hs₂ : s₂ = ((({ U with heap := s₂.heap, slotsUsed := s₂.slotsUsed } : State).setVm s₂.vm).setTop g).pushFrame (.throwing q) := by
      refine e3.trans ?_
      rw [hf₂, State.calling_eq h.top, State.setFrames_setFrames, State.pushFrame, State.frames_setTop _ hr', State.setTop_of_frames _ hr', State.setFrames_setFrames, hr]
      rfl
    have hsame : U.sameButNew ({ U with heap := s₂.heap, slotsUsed := s₂.slotsUsed } : State) L mc ms := by
      refine ⟨?_, q2, q3, q4, q5, q6⟩
      obtain ⟨t, ht, -⟩ := State.frames_cons hr
      show ({ U with heap := s₂.heap, slotsUsed := s₂.slotsUsed } : State) = { U.setFrames U.frames with heap := s₂.heap, slotsUsed := s₂.slotsUsed }
      rw [State.setFrames_self ht]
    subst hg
    refine Or.inr ⟨q, ⟨(({ U with heap := s₂.heap, slotsUsed := s₂.slotsUsed } : State).setVm s₂.vm), Ls ++ L, c0 + mc, s0 + ms⟩,
      ⟨X.admits, X.cas, X.clock, X.frames, X.room, X.hears, X.method, X.code, (X.here.setHeapUsed s₂.heap s₂.slotsUsed).setVm hW'.alike, X.tail, State.WarmedH.trans X.warmed hW', X.limits, X.bytes, X.same.trans (hsame.setVm s.vm)⟩,
      ⟨g, mk, s₂, L, E, ce, rfl, rfl, hx, hce, hcv, hcl, rfl, hL, rfl, rfl⟩, ?_⟩
    show Steps p.tables e below _ (((({ U with heap := s₂.heap, slotsUsed := s₂.slotsUsed } : State).setVm s₂.vm).setTop g).pushFrame (.throwing q))
    rw [← hs₂]
    exact hsteps
end
variable {p : Program} {l : Launch} {e : Env} {R : Room} {s : State} {m : MethodId} {args : Array Value} {below : List Frame} {meth : Method} {c : Code} {T : State} {H : Heap} {locs : List Loc} {cells slots : Nat}
theorem vx_callVX (X : Stand p l e R s m args below meth c T locs cells slots) (hexec : p.tables.exec = Jvm.exec) {own C : String} {index : Nat} {y : MethodName} {bytes : ByteArray} {maxL : Nat} {ret : Option FieldType} {hh : List (Nat × Nat × Nat × Nat)}
    (hown : s.vm.findClass own = some m.cls) (hlink : (Cond.methodLink own index y).before args s = true) (hinst : (Cond.instanceMethod y).before args s = true) (hsel : (Cond.selects C y y).before args s = true)
    (hcode : (Cond.codeWith y bytes maxL ret hh).before args s = true) (hy : y.cls ≠ "java/lang/invoke/MethodHandle" ∧ y.cls ≠ "java/lang/invoke/VarHandle")
    {W9 : Nat} {Pre : Pt → Array Value → Prop} {Post : Pt → Array Value → Option Value → Pt → Prop} {PostX : Pt → Array Value → Addr → Pt → Prop} (hK : vx_Back l R p e below s args y 3 W9 Pre Post PostX)
    {b : Addr} {cellB : Cell} (hcell : T.heap[b]? = some cellB) (hobj : cellB.vm.isStatics = false) (hcls : s.vm.findClass C = some cellB.cls)
    {g : JFrame} (hg : g.method = m) (hsize : g.locals.size = c.maxLocals) {argsL rest : List Value} (hlen : ∀ sig, parseMethodDescriptor y.desc = some sig → argsL.length = sig.parameters.length)
    (hstack : g.stack = argsL.reverse ++ .ref b :: rest) (hW : 2 * g.monitorRoom + (rest.map fun v => v.category).sum ≤ W9) (hdg : decode c.code g.pc = .ok (.invokevirtual index, 3))
    (hpre : ∀ vm₁, s.WarmedH vm₁ → Pre ⟨T.setVm vm₁, locs, cells, slots⟩ (Value.ref b :: argsL).toArray) :
    (∃ (v : Option Value) (vm₁ : Vm) (B : Pt), s.WarmedH vm₁ ∧ Stand p l e R s m args below meth c B.U B.locs B.cells B.slots ∧ Post ⟨T.setVm vm₁, locs, cells, slots⟩ (Value.ref b :: argsL).toArray v B ∧
      ∀ target, Steps p.tables e below (B.U.setTop { g with pc := g.pc + 3, stack := v.toList ++ rest }) target → Steps p.tables e below (T.setTop g) target) ∨
    (∃ (q : Addr) (vm₁ : Vm) (B : Pt), s.WarmedH vm₁ ∧ Stand p l e R s m args below meth c B.U B.locs B.cells B.slots ∧ PostX ⟨T.setVm vm₁, locs, cells, slots⟩ (Value.ref b :: argsL).toArray q B ∧
      Steps p.tables e below (T.setTop g) ((B.U.setTop { g with stack := rest }).pushFrame (.throwing q))) := by
  obtain ⟨mk, methM, hnamed, hmethM, hstM, habM⟩ := Cond.instanceMethod_spec hinst
  obtain ⟨m8, methM', cM, hn8, hmethM', -, -, -, -, -, -, hsigM⟩ := Cond.codeWith_spec hcode
  cases Option.some.inj (hn8.symm.trans hnamed)
  cases hmethM.symm.trans hmethM'
  obtain ⟨c2, r2, m2, q1, q2, q3, q4, kP, hkP, hkPi⟩ := Cond.selects_spec hsel
  cases hcls.symm.trans q1
  cases (State.methodFound?_of_named hnamed hy).symm.trans q2
  cases hnamed.symm.trans q3
  have hselP : selectMethod e.platform s.vm cellB.cls mk = .method mk := by rw [Launch.admits_selectMethod X.admits]; exact q4
  obtain ⟨vm₁, X₁, hstep₁⟩ := X.invokevirtual hexec hown hlink hnamed hmethM hstM hkP hkPi hy (a := b) (cell := cellB) hcell
    (fun z h => by rw [h] at hobj; cases hobj) hselP hmethM habM hkP hkPi (g := g) hg (argsL := argsL) (rest := rest) (hlen _ hsigM) hstack hdg
  rcases hK m meth c ⟨T.setVm vm₁, locs, cells, slots⟩ { g with stack := rest } (.invokevirtual index) mk (Value.ref b :: argsL).toArray X₁ hg hsize hdg hW (X₁.named hnamed) (hpre vm₁ X₁.warmed) with ⟨v, B, X', hpost, hsteps⟩ | ⟨q, B, X', hpost, hsteps⟩
  · exact Or.inl ⟨v, vm₁, B, X₁.warmed, X', hpost, fun target h => hstep₁ _ fun acts => by rw [doInvoke_state]; exact hsteps.trans h⟩
  · exact Or.inr ⟨q, vm₁, B, X₁.warmed, X', hpost, hstep₁ _ fun acts => by rw [doInvoke_state]; exact hsteps⟩
theorem vx_callSX (X : Stand p l e R s m args below meth c T locs cells slots) (hexec : p.tables.exec = Jvm.exec) {own : String} {index : Nat} {y : MethodName} {bytes : ByteArray} {maxL : Nat} {ret : Option FieldType} {hh : List (Nat × Nat × Nat × Nat)}
    (hown : s.vm.findClass own = some m.cls) (hlink : (Cond.methodLink own index y).before args s = true) (hstat : (Cond.static y).before args s = true) (hinit : (Cond.initialized y.cls).before args s = true)
    (hcode : (Cond.codeWith y bytes maxL ret hh).before args s = true) (hy : y.cls ≠ "java/lang/invoke/MethodHandle" ∧ y.cls ≠ "java/lang/invoke/VarHandle")
    {W9 : Nat} {Pre : Pt → Array Value → Prop} {Post : Pt → Array Value → Option Value → Pt → Prop} {PostX : Pt → Array Value → Addr → Pt → Prop} (hK : vx_Back l R p e below s args y 3 W9 Pre Post PostX)
    {g : JFrame} (hg : g.method = m) (hsize : g.locals.size = c.maxLocals) {argsL rest : List Value} (hlen : ∀ sig, parseMethodDescriptor y.desc = some sig → argsL.length = sig.parameters.length)
    (hstack : g.stack = argsL.reverse ++ rest) (hW : 2 * g.monitorRoom + (rest.map fun v => v.category).sum ≤ W9) (hdg : decode c.code g.pc = .ok (.invokestatic index, 3))
    (hpre : ∀ vm₁, s.WarmedH vm₁ → Pre ⟨T.setVm vm₁, locs, cells, slots⟩ argsL.toArray) :
    (∃ (v : Option Value) (vm₁ : Vm) (B : Pt), s.WarmedH vm₁ ∧ Stand p l e R s m args below meth c B.U B.locs B.cells B.slots ∧ Post ⟨T.setVm vm₁, locs, cells, slots⟩ argsL.toArray v B ∧
      ∀ target, Steps p.tables e below (B.U.setTop { g with pc := g.pc + 3, stack := v.toList ++ rest }) target → Steps p.tables e below (T.setTop g) target) ∨
    (∃ (q : Addr) (vm₁ : Vm) (B : Pt), s.WarmedH vm₁ ∧ Stand p l e R s m args below meth c B.U B.locs B.cells B.slots ∧ PostX ⟨T.setVm vm₁, locs, cells, slots⟩ argsL.toArray q B ∧
      Steps p.tables e below (T.setTop g) ((B.U.setTop { g with stack := rest }).pushFrame (.throwing q))) := by
  obtain ⟨mk, methM, cM, hnamed, hmethM, -, -, -, -, -, -, hsigM⟩ := Cond.codeWith_spec hcode
  have hstatic : methM.isStatic = true := Cond.static_spec hnamed hmethM hstat
  obtain ⟨kP, hkP, -⟩ := className_of_methodNamed hnamed
  have hinitP : kP.init = .initialized := Cond.initialized_spec (findClass_of_methodNamed hnamed) hkP hinit
  obtain ⟨vm₁, X₁, hstep₁⟩ := X.invokestatic hexec hown hlink hnamed hmethM hstatic hkP hinitP hy (g := g) hg (argsL := argsL) (rest := rest) (hlen _ hsigM) hstack hdg
  rcases hK m meth c ⟨T.setVm vm₁, locs, cells, slots⟩ { g with stack := rest } (.invokestatic index) mk argsL.toArray X₁ hg hsize hdg hW (X₁.named hnamed) (hpre vm₁ X₁.warmed) with ⟨v, B, X', hpost, hsteps⟩ | ⟨q, B, X', hpost, hsteps⟩
  · exact Or.inl ⟨v, vm₁, B, X₁.warmed, X', hpost, fun target h => hstep₁ _ fun acts => by rw [doInvoke_state]; exact hsteps.trans h⟩
  · exact Or.inr ⟨q, vm₁, B, X₁.warmed, X', hpost, hstep₁ _ fun acts => by rw [doInvoke_state]; exact hsteps⟩
theorem vx_callVW (X : Stand p l e R s m args below meth c T locs cells slots) (hexec : p.tables.exec = Jvm.exec) {own C : String} {index : Nat} {y : MethodName} {bytes : ByteArray} {maxL : Nat} {ret : Option FieldType} {hh : List (Nat × Nat × Nat × Nat)}
    (hown : s.vm.findClass own = some m.cls) (hlink : (Cond.methodLink own index y).before args s = true) (hinst : (Cond.instanceMethod y).before args s = true) (hsel : (Cond.selects C y y).before args s = true)
    (hcode : (Cond.codeWith y bytes maxL ret hh).before args s = true) (hy : y.cls ≠ "java/lang/invoke/MethodHandle" ∧ y.cls ≠ "java/lang/invoke/VarHandle")
    {W9 : Nat} {Pre : Pt → Array Value → Prop} {Post : Pt → Array Value → Option Value → Pt → Prop} (hK : Back l R p e below s args y 3 W9 Pre Post)
    {b : Addr} {cellB : Cell} (hcell : T.heap[b]? = some cellB) (hobj : cellB.vm.isStatics = false) (hcls : s.vm.findClass C = some cellB.cls)
    {g : JFrame} (hg : g.method = m) (hsize : g.locals.size = c.maxLocals) {argsL rest : List Value} (hlen : ∀ sig, parseMethodDescriptor y.desc = some sig → argsL.length = sig.parameters.length)
    (hstack : g.stack = argsL.reverse ++ .ref b :: rest) (hW : 2 * g.monitorRoom + (rest.map fun v => v.category).sum ≤ W9) (hdg : decode c.code g.pc = .ok (.invokevirtual index, 3))
    (hpre : ∀ vm₁, s.WarmedH vm₁ → Pre ⟨T.setVm vm₁, locs, cells, slots⟩ (Value.ref b :: argsL).toArray) :
    ∃ (v : Option Value) (vm₁ : Vm) (B : Pt), s.WarmedH vm₁ ∧ Stand p l e R s m args below meth c B.U B.locs B.cells B.slots ∧ Post ⟨T.setVm vm₁, locs, cells, slots⟩ (Value.ref b :: argsL).toArray v B ∧
      ∀ target, Steps p.tables e below (B.U.setTop { g with pc := g.pc + 3, stack := v.toList ++ rest }) target → Steps p.tables e below (T.setTop g) target := by
  obtain ⟨mk, methM, hnamed, hmethM, hstM, habM⟩ := Cond.instanceMethod_spec hinst
  obtain ⟨m8, methM', cM, hn8, hmethM', -, -, -, -, -, -, hsigM⟩ := Cond.codeWith_spec hcode
  cases Option.some.inj (hn8.symm.trans hnamed)
  cases hmethM.symm.trans hmethM'
  obtain ⟨c2, r2, m2, q1, q2, q3, q4, kP, hkP, hkPi⟩ := Cond.selects_spec hsel
  cases hcls.symm.trans q1
  cases (State.methodFound?_of_named hnamed hy).symm.trans q2
  cases hnamed.symm.trans q3
  have hselP : selectMethod e.platform s.vm cellB.cls mk = .method mk := by rw [Launch.admits_selectMethod X.admits]; exact q4
  obtain ⟨vm₁, X₁, hstep₁⟩ := X.invokevirtual hexec hown hlink hnamed hmethM hstM hkP hkPi hy (a := b) (cell := cellB) hcell
    (fun z h => by rw [h] at hobj; cases hobj) hselP hmethM habM hkP hkPi (g := g) hg (argsL := argsL) (rest := rest) (hlen _ hsigM) hstack hdg
  obtain ⟨v, B, X', hpost, hsteps⟩ := hK m meth c ⟨T.setVm vm₁, locs, cells, slots⟩ { g with stack := rest } (.invokevirtual index) mk (Value.ref b :: argsL).toArray X₁ hg hsize hdg hW (X₁.named hnamed) (hpre vm₁ X₁.warmed)
  exact ⟨v, vm₁, B, X₁.warmed, X', hpost, fun target h => hstep₁ _ fun acts => by rw [doInvoke_state]; exact hsteps.trans h⟩
abbrev vx_CVW (R : Room) (s : State) (args : Array Value) (own C : String) (index : Nat) (y : MethodName) (bytes : ByteArray) (maxL : Nat) (ret : Option FieldType) (hh : List (Nat × Nat × Nat × Nat)) (ws : List Cond) (rm : Room) (mc ms n : Nat) : Prop :=
  (rm.cells = mc ∧ rm.slots = ms ∧ rm.frames + 1 ≤ R.frames ∧ 8 + (maxL + 11) + rm.locals ≤ R.locals ∧ (∀ w ∈ ws, ∀ (a' : Array Value) (U : State), s.WarmedH U.vm → w.before a' U = true) ∧ Cond.codeWith y bytes maxL ret hh ∈ ws) ∧
  (Cond.codeWith y bytes maxL ret hh).before args s = true ∧ (Cond.initialized y.cls).before args s = true ∧ (y.cls ≠ "java/lang/invoke/MethodHandle" ∧ y.cls ≠ "java/lang/invoke/VarHandle") ∧
  (∀ sig, parseMethodDescriptor y.desc = some sig → n = sig.parameters.length) ∧ (Cond.methodLink own index y).before args s = true ∧ (Cond.instanceMethod y).before args s = true ∧ (Cond.selects C y y).before args s = true
theorem vx_cwVW {own C : String} {index maxL mc ms : Nat} {y : MethodName} {bytes : ByteArray} {ret : Option FieldType} {hh : List (Nat × Nat × Nat × Nat)} {Ts ws ws' : List Cond} {rm : Room} (n : Nat) (ht : ∀ w ∈ Ts, w.before args s = true) (hT : GoodIn Ts (wsV own index C y ws)) (hw : ws = Cond.codeWith y bytes maxL ret hh :: ws') (hrc : rm.cells = mc) (hrs : rm.slots = ms)
    (hd : y.cls = C ∧ y.cls ≠ "java/lang/invoke/MethodHandle" ∧ y.cls ≠ "java/lang/invoke/VarHandle" ∧ (parseMethodDescriptor y.desc).map (fun d => d.parameters.length) = some n) (hR : rm.frames + 1 ≤ R.frames ∧ 8 + (maxL + 11) + rm.locals ≤ R.locals) :
    vx_CVW R s args own C index y bytes maxL ret hh ws rm mc ms n := by
  obtain ⟨hC, hd⟩ := hd
  subst hC
  have ok : ∀ w ∈ wsV own index y.cls y ws, w.before args s = true := fun w h => ht w (hT w h).1
  have hG : GoodIn Ts ws := fun w h => hT w (by unfold wsV; exact List.mem_append_right _ h)
  have hc : Cond.codeWith y bytes maxL ret hh ∈ ws := by rw [hw]; exact List.mem_cons_self
  refine ⟨⟨hrc, hrs, hR.1, hR.2, pay_in ht hG, hc⟩, ht _ (hG _ hc).1, ok _ (by simp [wsV]), ⟨hd.1, hd.2.1⟩, fun sig h => ?_, ok _ (by simp [wsV]), ok _ (by simp [wsV]), ok _ (by simp [wsV])⟩
  have h2 := hd.2.2
  rw [h] at h2
  exact (Option.some.inj h2).symm
theorem vx_runVW {y : MethodName} {bytes cc : ByteArray} {maxL nL mc ms n index : Nat} {ret : Option FieldType} {hh : List (Nat × Nat × Nat × Nat)} {ws : List Cond} {rm : Room} {Pc : Array Value → State → Prop} {Qc : Array Value → State → Outcome → State → Prop} {free : Addr → Prop} {Ts : List Cond} {own C : String} {b : Addr} {As rest : List Value} {g : JFrame}
    (S : CallFix p m c cc nL s args Ts own) (hM : Met l y ws rm Pc Qc mc ms free) (cw : vx_CVW R s args own C index y bytes maxL ret hh ws rm mc ms n) (hp : PreV s H C b Pc As)
    (hg : g.method = m) (hn : As.length = n) (hsize : g.locals.size = nL) (hstack : g.stack = As.reverse ++ .ref b :: rest) (hW : 2 * g.monitorRoom + (rest.map fun v => v.category).sum ≤ 8) (hdg : decode cc g.pc = .ok (.invokevirtual index, 3)) (hf : cells + mc ≤ R.cells ∧ slots + ms ≤ R.slots) :
    va_Run p l e R s m args below meth c H locs cells slots mc ms g rest (Qc (Value.ref b :: As).toArray) free := by
  obtain ⟨⟨hrc, hrs, hfr, hlo, hws, hcw⟩, hcode, hini, hy, hlen, hl, hin, hse⟩ := cw
  have hK : Back l R p e below s args y 3 8 (PreOf R mc ms Pc) (PostOf Qc mc ms free) := va_backW (hh := hh) (bytes := bytes) (maxL := maxL) (ret := ret) hM hp.1 hrc hrs hfr hlo hws hcw (fun a' U hW => word_at hW (Or.inl (by first | rfl | simp [Cond.onTables, Cond.keeps, Cond.steady])) hini)
  obtain ⟨hx, hb, hml, ho, -⟩ := S
  obtain ⟨-, ⟨cellB, hcB, hoB, hclB⟩, hPc⟩ := hp
  intro T hT X
  obtain ⟨v, vm₁, ⟨U', l2, c2, s2⟩, hW₁, X', ⟨g', mk, t, L, e1, e2, hq, h1, hL, h2, h3⟩, st⟩ := vx_callVW X hx (C := C) (hh := hh) (bytes := bytes) (maxL := maxL) (ret := ret) ho hl hin hse hcode hy hK (by rw [hT]; exact hcB) hoB hclB hg (hsize.trans hml.symm) (argsL := As) (rest := rest) (fun sig h => hn.trans (hlen sig h)) hstack hW (by rw [hb]; exact hdg)
    (fun vm₁ hW₁ => ⟨hf.1, hf.2, hPc (T.setVm vm₁) hT hW₁⟩)
  dsimp only [Pt.U, Pt.locs, Pt.cells, Pt.slots] at X' e1 e2 h1 h2 h3 st
  subst h1; subst h2; subst h3
  exact ⟨v, (T.setVm vm₁).calling g' mk (Value.ref b :: As).toArray, t, U', L, hT, X', hL, e1, e2, hq, st⟩
section
variable {y : MethodName} {bytes cc : ByteArray} {maxL nL mc ms n index : Nat} {ret : Option FieldType} {ws : List Cond} {rm : Room} {Pc : Array Value → State → Prop} {Qc : Array Value → State → Outcome → State → Prop} {XC : String → State → State → Prop} {free : Addr → Prop} {Ts : List Cond} {own C : String} {b : Addr} {As rest : List Value} {g : JFrame}
theorem vx_runVX {hh : List (Nat × Nat × Nat × Nat)} (S : CallFix p m c cc nL s args Ts own) (hM : vx_Met l y ws rm Pc Qc XC mc ms free) (cw : vx_CVW R s args own C index y bytes maxL ret hh ws rm mc ms n) (hp : PreV s H C b Pc As)
    (hg : g.method = m) (hn : As.length = n) (hsize : g.locals.size = nL) (hstack : g.stack = As.reverse ++ .ref b :: rest) (hW : 2 * g.monitorRoom + (rest.map fun v => v.category).sum ≤ 8) (hdg : decode cc g.pc = .ok (.invokevirtual index, 3)) (hf : cells + mc ≤ R.cells ∧ slots + ms ≤ R.slots) :
    vx_Run p l e R s m args below meth c H locs cells slots mc ms g rest (Qc (Value.ref b :: As).toArray) XC free := by
  obtain ⟨⟨hrc, hrs, hfr, hlo, hws, hcw⟩, hcode, hini, hy, hlen, hl, hin, hse⟩ := cw
  have hK : vx_Back l R p e below s args y 3 8 (PreOf R mc ms Pc) (PostOf Qc mc ms free) (vx_Post XC mc ms free) := vx_backW (hh := hh) (bytes := bytes) (maxL := maxL) (ret := ret) hM hp.1 hrc hrs hfr hlo hws hcw (fun a' U hW => word_at hW (Or.inl (by first | rfl | simp [Cond.onTables, Cond.keeps, Cond.steady])) hini)
  obtain ⟨hx, hb, hml, ho, -⟩ := S
  obtain ⟨-, ⟨cellB, hcB, hoB, hclB⟩, hPc⟩ := hp
  intro T hT X
  rcases vx_callVX X hx (C := C) (hh := hh) (bytes := bytes) (maxL := maxL) (ret := ret) ho hl hin hse hcode hy hK (by rw [hT]; exact hcB) hoB hclB hg (hsize.trans hml.symm) (argsL := As) (rest := rest) (fun sig h => hn.trans (hlen sig h)) hstack hW (by rw [hb]; exact hdg)
    (fun vm₁ hW₁ => ⟨hf.1, hf.2, hPc (T.setVm vm₁) hT hW₁⟩) with ⟨v, vm₁, ⟨U', l2, c2, s2⟩, hW₁, X', ⟨g', mk, t, L, e1, e2, hq, h1, hL, h2, h3⟩, st⟩ | ⟨q, vm₁, ⟨U', l2, c2, s2⟩, hW₁, X', ⟨g', mk, t, L, E, ce, e1, e2, hq, hce, hcv, hcl, h1, hL, h2, h3⟩, st⟩
  · dsimp only [Pt.U, Pt.locs, Pt.cells, Pt.slots] at X' e1 e2 h1 h2 h3 st
    subst h1; subst h2; subst h3
    exact Or.inl ⟨v, (T.setVm vm₁).calling g' mk (Value.ref b :: As).toArray, t, U', L, hT, X', hL, e1, e2, hq, st⟩
  · dsimp only [Pt.U, Pt.locs, Pt.cells, Pt.slots] at X' e1 e2 h1 h2 h3 st hcl
    subst h1; subst h2; subst h3
    exact Or.inr ⟨q, (T.setVm vm₁).calling g' mk (Value.ref b :: As).toArray, t, U', L, E, ce, hT, X', hL, e1, e2, hq, hce, hcv, vx_cls hW₁ hcl, st⟩
theorem vx_runSX {hh : List (Nat × Nat × Nat × Nat)} (S : CallFix p m c cc nL s args Ts own) (hM : vx_Met l y ws rm Pc Qc XC mc ms free) (cw : vx_CSW R s args own index y bytes maxL ret hh ws rm mc ms n) (hp : PreS s H Pc As)
    (hg : g.method = m) (hn : As.length = n) (hsize : g.locals.size = nL) (hstack : g.stack = As.reverse ++ rest) (hW : 2 * g.monitorRoom + (rest.map fun v => v.category).sum ≤ 8) (hdg : decode cc g.pc = .ok (.invokestatic index, 3)) (hf : cells + mc ≤ R.cells ∧ slots + ms ≤ R.slots) :
    vx_Run p l e R s m args below meth c H locs cells slots mc ms g rest (Qc As.toArray) XC free := by
  obtain ⟨⟨hrc, hrs, hfr, hlo, hws, hcw⟩, hcode, hini, hy, hlen, hl, hstt⟩ := cw
  have hK : vx_Back l R p e below s args y 3 8 (PreOf R mc ms Pc) (PostOf Qc mc ms free) (vx_Post XC mc ms free) := vx_backW (hh := hh) (bytes := bytes) (maxL := maxL) (ret := ret) hM hp.1 hrc hrs hfr hlo hws hcw (fun a' U hW => word_at hW (Or.inl (by first | rfl | simp [Cond.onTables, Cond.keeps, Cond.steady])) hini)
  obtain ⟨hx, hb, hml, ho, -⟩ := S
  intro T hT X
  rcases vx_callSX X hx (hh := hh) (bytes := bytes) (maxL := maxL) (ret := ret) ho hl hstt hini hcode hy hK hg (hsize.trans hml.symm) (argsL := As) (rest := rest) (fun sig h => hn.trans (hlen sig h)) hstack hW (by rw [hb]; exact hdg)
    (fun vm₁ hW₁ => ⟨hf.1, hf.2, hp.2 (T.setVm vm₁) hT hW₁⟩) with ⟨v, vm₁, ⟨U', l2, c2, s2⟩, hW₁, X', ⟨g', mk, t, L, e1, e2, hq, h1, hL, h2, h3⟩, st⟩ | ⟨q, vm₁, ⟨U', l2, c2, s2⟩, hW₁, X', ⟨g', mk, t, L, E, ce, e1, e2, hq, hce, hcv, hcl, h1, hL, h2, h3⟩, st⟩
  · dsimp only [Pt.U, Pt.locs, Pt.cells, Pt.slots] at X' e1 e2 h1 h2 h3 st
    subst h1; subst h2; subst h3
    exact Or.inl ⟨v, (T.setVm vm₁).calling g' mk As.toArray, t, U', L, hT, X', hL, e1, e2, hq, st⟩
  · dsimp only [Pt.U, Pt.locs, Pt.cells, Pt.slots] at X' e1 e2 h1 h2 h3 st hcl
    subst h1; subst h2; subst h3
    exact Or.inr ⟨q, (T.setVm vm₁).calling g' mk As.toArray, t, U', L, E, ce, hT, X', hL, e1, e2, hq, hce, hcv, vx_cls hW₁ hcl, st⟩
end
end VXH
theorem vx_ofWH {l : Launch} {y : MethodName} {ws ws' : List Cond} {rm : Room} {Pc : Array Value → State → Prop} {Qc : Array Value → State → Outcome → State → Prop} {XC : String → State → State → Prop} {mc ms : Nat} {free : Addr → Prop} {cc : ByteArray} {maxL : Nat} {ret : Option FieldType} {hh : List (Nat × Nat × Nat × Nat)}
    (hy : plainName y.cls = true) (hw : ws = Cond.codeWith y cc maxL ret hh :: ws')
    (body : ∀ p e s m args below meth c s₁, BodyLoose p l y (headSpec ws rm) cc maxL ret e s m args below meth c s₁ → c.maxLocals = maxL → Pc args s →
      W p l e (headSpec ws rm).room s m args below meth c s.heap [] 0 0 (vx_MQ below Qc XC args s mc ms free) (entryFrame m args maxL)) : vx_Met l y ws rm Pc Qc XC mc ms free := by
  refine MetFree.of_bodyS (code := cc) (maxLocals := maxL) (ret := ret) hy ?_ ?_
  · intro args s m h hn
    obtain ⟨m9, meth, c, hn9, h1, h2, h3, h4, -, h5, h6, -⟩ := Cond.codeWith_spec (atoms_spec (ws := ws) h _ (by rw [hw]; exact List.mem_cons_self))
    cases hn.symm.trans hn9
    exact ⟨meth, c, h1, h2, h3, h4, h5, h6⟩
  · intro p e s m args below meth c s₁ B hml hP _
    have hh0 : s₁.heap = s.heap := by rw [B.state]; rfl
    obtain ⟨t, a1, o, b1, b2, b3⟩ := body p e s m args below meth c s₁ B hml hP s₁ hh0 (Stand.of_body B)
    exact ⟨t, o, a1, b1, b2, b3⟩
/-! ===== END ===== -/
end
section
/-! Names: classes, fields, methods, words. By program (wip/gen/names.py). -/
abbrev RX0 : String := "NoiseRing"
abbrev RX1 : String := "NoiseRingModel"
abbrev RL : String := "NoiseRingLaw"
def TX0 : u_T := fun k => match k with
  | 0 => ("NoiseRing", "registers", "[[I", true)
  | 1 => ("NoiseRing", "work", "[I", true)
  | 2 => ("NoiseRing", "kind", "I", false)
  | 3 => ("NoiseRing", "q", "I", false)
  | _ => ("NoiseRing", "z", "I", false)
def tyX0 : Nat → FieldType := fun k => match k with
  | 0 => .array (.array .int)
  | 1 => .array .int
  | 2 => .int
  | 3 => .int
  | _ => .int
def TX1 : u_T := fun k => match k with
  | 0 => ("NoiseRingModel", "thrown", "I", false)
  | 1 => ("NoiseRingModel", "kind", "I", false)
  | 2 => ("NoiseRingModel", "q", "I", false)
  | 3 => ("NoiseRingModel", "register", "[I", true)
  | _ => ("NoiseRingModel", "made", "[I", true)
def tyX1 : Nat → FieldType := fun k => match k with
  | 0 => .int
  | 1 => .int
  | 2 => .int
  | 3 => .array .int
  | _ => .array .int
theorem nmX0 : ∀ a, a < 5 → ∀ b, b < 5 → a ≠ b → (TX0 a).2.1 ≠ (TX0 b).2.1 := by decide +kernel
theorem tyX0_ok : ∀ k, k < 5 → parseFieldDescriptor (TX0 k).2.2.1 = some (tyX0 k) := by decide +kernel
theorem nmX1 : ∀ a, a < 5 → ∀ b, b < 5 → a ≠ b → (TX1 a).2.1 ≠ (TX1 b).2.1 := by decide +kernel
theorem tyX1_ok : ∀ k, k < 5 → parseFieldDescriptor (TX1 k).2.2.1 = some (tyX1 k) := by decide +kernel
abbrev vwCl : List vw_C := [(RX0, TX0, 5), (RX1, TX1, 5)]
set_option maxRecDepth 100000 in
def wsU : List Cond := [
  .selects "NoiseRing" ⟨"NoiseRing", "takeKind", "(I)V"⟩ ⟨"NoiseRing", "takeKind", "(I)V"⟩,
  .selects "NoiseRing" ⟨"NoiseRing", "power", "(II)I"⟩ ⟨"NoiseRing", "power", "(II)I"⟩,
  .selects "NoiseRing" ⟨"NoiseRing", "emptyRegisters", "()I"⟩ ⟨"NoiseRing", "emptyRegisters", "()I"⟩,
  .selects "java/lang/Throwable" ⟨"java/lang/Throwable", "fillInStackTrace", "(I)Ljava/lang/Throwable;"⟩ ⟨"java/lang/Throwable", "fillInStackTrace", "(I)Ljava/lang/Throwable;"⟩,
  .selects "NoiseRing" ⟨"NoiseRing", "joined", "(I[I[II)I"⟩ ⟨"NoiseRing", "joined", "(I[I[II)I"⟩,
  .selects "NoiseRing" ⟨"NoiseRing", "productAt", "([I[II)I"⟩ ⟨"NoiseRing", "productAt", "([I[II)I"⟩,
  .selects "NoiseRing" ⟨"NoiseRing", "greatestSize", "([I)I"⟩ ⟨"NoiseRing", "greatestSize", "([I)I"⟩,
  .selects "NoiseRing" ⟨"NoiseRing", "centredSize", "(I)I"⟩ ⟨"NoiseRing", "centredSize", "(I)I"⟩,
  .selects "NoiseRing" ⟨"NoiseRing", "rounded", "(III)I"⟩ ⟨"NoiseRing", "rounded", "(III)I"⟩,
  .selects "NoiseRing" ⟨"NoiseRing", "fewerBits", "(II)I"⟩ ⟨"NoiseRing", "fewerBits", "(II)I"⟩,
  .selects "NoiseRing" ⟨"NoiseRing", "moreBits", "(II)I"⟩ ⟨"NoiseRing", "moreBits", "(II)I"⟩,
  .selects "NoiseRing" ⟨"NoiseRing", "isAlpha", "(I)Z"⟩ ⟨"NoiseRing", "isAlpha", "(I)Z"⟩,
  .selects "NoiseRing" ⟨"NoiseRing", "partOf", "(II)I"⟩ ⟨"NoiseRing", "partOf", "(II)I"⟩,
  .selects "NoiseRing" ⟨"NoiseRing", "restOf", "(II)I"⟩ ⟨"NoiseRing", "restOf", "(II)I"⟩,
  .selects "NoiseRing" ⟨"NoiseRing", "movedPart", "(II)I"⟩ ⟨"NoiseRing", "movedPart", "(II)I"⟩,
  .selects "NoiseRing" ⟨"NoiseRing", "valueAt", "([IIII)I"⟩ ⟨"NoiseRing", "valueAt", "([IIII)I"⟩,
  .selects "NoiseRingModel" ⟨"NoiseRingModel", "at", "(II)I"⟩ ⟨"NoiseRingModel", "at", "(II)I"⟩,
  .selects "NoiseRingModel" ⟨"NoiseRingModel", "of", "(J)I"⟩ ⟨"NoiseRingModel", "of", "(J)I"⟩,
  .selects "NoiseRingModel" ⟨"NoiseRingModel", "put", "(I)I"⟩ ⟨"NoiseRingModel", "put", "(I)I"⟩,
  .selects "NoiseRingModel" ⟨"NoiseRingModel", "most", "([I)I"⟩ ⟨"NoiseRingModel", "most", "([I)I"⟩,
  .selects "NoiseRingModel" ⟨"NoiseRingModel", "size0", "(I)I"⟩ ⟨"NoiseRingModel", "size0", "(I)I"⟩,
  .selects "NoiseRingModel" ⟨"NoiseRingModel", "isAlpha", "(I)Z"⟩ ⟨"NoiseRingModel", "isAlpha", "(I)Z"⟩,
  .selects "NoiseRingModel" ⟨"NoiseRingModel", "partOf", "(II)I"⟩ ⟨"NoiseRingModel", "partOf", "(II)I"⟩,
  .selects "NoiseRingModel" ⟨"NoiseRingModel", "restOf", "(II)I"⟩ ⟨"NoiseRingModel", "restOf", "(II)I"⟩,
  .selects "NoiseRingModel" ⟨"NoiseRingModel", "valueOf", "(II)I"⟩ ⟨"NoiseRingModel", "valueOf", "(II)I"⟩,
  .selects "NoiseRingModel" ⟨"NoiseRingModel", "root", "()I"⟩ ⟨"NoiseRingModel", "root", "()I"⟩,
  .selects "NoiseRingModel" ⟨"NoiseRingModel", "power", "(II)I"⟩ ⟨"NoiseRingModel", "power", "(II)I"⟩,
  .selects "NoiseRingModel" ⟨"NoiseRingModel", "along", "(IIIJ)I"⟩ ⟨"NoiseRingModel", "along", "(IIIJ)I"⟩,
  .initialized "NoiseRingLaw",
  .initialized "NoiseRing",
  .initialized "NoiseRingModel",
  .initialized "java/lang/Throwable",
  .initialized "java/lang/Exception",
  .initialized "java/lang/RuntimeException",
  .initialized "java/lang/IllegalArgumentException",
  .initialized "java/util/NoSuchElementException",
  .initialized "java/lang/Math",
  .initialized "java/lang/System",
  .classLink "NoiseRingLaw" 8 "NoiseRing",
  .instantiable "NoiseRing" 5,
  .methodLink "NoiseRingLaw" 59 ⟨"NoiseRing", "<init>", "()V"⟩,
  .instanceMethod ⟨"NoiseRing", "<init>", "()V"⟩,
  .code ⟨"NoiseRing", "<init>", "()V"⟩ prog_1_method_1_code 1 (none : Option Jvm.ClassFile.FieldType),
  .methodLink "NoiseRing" 1 ⟨"java/lang/Object", "<init>", "()V"⟩,
  .instanceMethod ⟨"java/lang/Object", "<init>", "()V"⟩,
  .code ⟨"java/lang/Object", "<init>", "()V"⟩ object_method_1_code 1 (none : Option Jvm.ClassFile.FieldType),
  .classLink "NoiseRing" 9 "[[I",
  .methodLink "NoiseRing" 18 ⟨"NoiseRing", "takeKind", "(I)V"⟩,
  .instanceMethod ⟨"NoiseRing", "takeKind", "(I)V"⟩,
  .code ⟨"NoiseRing", "takeKind", "(I)V"⟩ prog_1_method_19_code 2 (none : Option Jvm.ClassFile.FieldType),
  .fieldLink "NoiseRing" 22 "NoiseRing" "MODULUS" "[I",
  .fieldLink "NoiseRing" 103 "NoiseRing" "BASE_ROOT" "[I",
  .methodLink "NoiseRing" 96 ⟨"NoiseRing", "power", "(II)I"⟩,
  .instanceMethod ⟨"NoiseRing", "power", "(II)I"⟩,
  .code ⟨"NoiseRing", "power", "(II)I"⟩ prog_1_method_20_code 6 (some .int),
  .fieldLink "NoiseRing" 11 "NoiseRing" "registers" "[[I",
  .fieldLink "NoiseRing" 14 "NoiseRing" "work" "[I",
  .fieldLink "NoiseRing" 62 "NoiseRing" "kind" "I",
  .fieldLink "NoiseRing" 29 "NoiseRing" "q" "I",
  .fieldLink "NoiseRing" 93 "NoiseRing" "z" "I",
  .laysFinal "NoiseRing" "NoiseRing" "registers" "[[I",
  .soleField "NoiseRing" "registers",
  .laysFinal "NoiseRing" "NoiseRing" "work" "[I",
  .soleField "NoiseRing" "work",
  .lays "NoiseRing" "NoiseRing" "kind" "I",
  .soleField "NoiseRing" "kind",
  .lays "NoiseRing" "NoiseRing" "q" "I",
  .soleField "NoiseRing" "q",
  .lays "NoiseRing" "NoiseRing" "z" "I",
  .soleField "NoiseRing" "z",
  .superclass "NoiseRing" "java/lang/Object",
  .arrayClass .int,
  .methodLink "NoiseRingLaw" 116 ⟨"NoiseRing", "count", "(I)I"⟩,
  .instanceMethod ⟨"NoiseRing", "count", "(I)I"⟩,
  .selects "NoiseRing" ⟨"NoiseRing", "count", "(I)I"⟩ ⟨"NoiseRing", "count", "(I)I"⟩,
  .code ⟨"NoiseRing", "count", "(I)I"⟩ prog_1_method_15_code 2 (some .int),
  .methodLink "NoiseRing" 109 ⟨"NoiseRing", "emptyRegisters", "()I"⟩,
  .instanceMethod ⟨"NoiseRing", "emptyRegisters", "()I"⟩,
  .code ⟨"NoiseRing", "emptyRegisters", "()I"⟩ prog_1_method_26_code 3 (some .int),
  .methodLink "NoiseRing" 69 ⟨"NoiseRing", "notZero", "([I)I"⟩,
  .static ⟨"NoiseRing", "notZero", "([I)I"⟩,
  .code ⟨"NoiseRing", "notZero", "([I)I"⟩ prog_1_method_25_code 3 (some .int),
  .methodLink "NoiseRingLaw" 63 ⟨"NoiseRingLaw", "begin", "(LNoiseRing;I[J)I"⟩,
  .static ⟨"NoiseRingLaw", "begin", "(LNoiseRing;I[J)I"⟩,
  .codeWith ⟨"NoiseRingLaw", "begin", "(LNoiseRing;I[J)I"⟩ method_3_code 4 (some .int) [(0, 9, 12, 13)],
  .classLink "NoiseRingLaw" 13 "java/lang/IllegalArgumentException",
  .methodLink "NoiseRingLaw" 7 ⟨"NoiseRing", "begin", "(I)I"⟩,
  .instanceMethod ⟨"NoiseRing", "begin", "(I)I"⟩,
  .selects "NoiseRing" ⟨"NoiseRing", "begin", "(I)I"⟩ ⟨"NoiseRing", "begin", "(I)I"⟩,
  .code ⟨"NoiseRing", "begin", "(I)I"⟩ prog_1_method_2_code 4 (some .int),
  .methodLink "NoiseRing" 25 ⟨"NoiseRing", "needArgument", "(Z)V"⟩,
  .static ⟨"NoiseRing", "needArgument", "(Z)V"⟩,
  .code ⟨"NoiseRing", "needArgument", "(Z)V"⟩ prog_1_method_18_code 1 (none : Option Jvm.ClassFile.FieldType),
  .classLink "NoiseRing" 122 "java/lang/IllegalArgumentException",
  .instantiable "java/lang/IllegalArgumentException" 6,
  .selects "java/lang/IllegalArgumentException" ⟨"java/lang/Throwable", "fillInStackTrace", "(I)Ljava/lang/Throwable;"⟩ ⟨"java/lang/Throwable", "fillInStackTrace", "(I)Ljava/lang/Throwable;"⟩,
  .selects "java/lang/IllegalArgumentException" ⟨"java/lang/Throwable", "fillInStackTrace", "()Ljava/lang/Throwable;"⟩ ⟨"java/lang/Throwable", "fillInStackTrace", "()Ljava/lang/Throwable;"⟩,
  .lays "java/lang/IllegalArgumentException" "java/lang/Throwable" "cause" "Ljava/lang/Throwable;",
  .lays "java/lang/Throwable" "java/lang/Throwable" "cause" "Ljava/lang/Throwable;",
  .lays "java/lang/IllegalArgumentException" "java/lang/Throwable" "stackTrace" "[Ljava/lang/StackTraceElement;",
  .lays "java/lang/Throwable" "java/lang/Throwable" "stackTrace" "[Ljava/lang/StackTraceElement;",
  .lays "java/lang/IllegalArgumentException" "java/lang/Throwable" "suppressedExceptions" "Ljava/util/List;",
  .lays "java/lang/Throwable" "java/lang/Throwable" "suppressedExceptions" "Ljava/util/List;",
  .lays "java/lang/IllegalArgumentException" "java/lang/Throwable" "detailMessage" "Ljava/lang/String;",
  .lays "java/lang/Throwable" "java/lang/Throwable" "detailMessage" "Ljava/lang/String;",
  .lays "java/lang/IllegalArgumentException" "java/lang/Throwable" "backtrace" "Ljava/lang/Object;",
  .lays "java/lang/Throwable" "java/lang/Throwable" "backtrace" "Ljava/lang/Object;",
  .fieldLink "java/lang/Throwable" 198 "java/lang/Throwable" "backtrace" "Ljava/lang/Object;",
  .superclass "java/lang/Throwable" "java/lang/Object",
  .instanceMethod ⟨"java/lang/Throwable", "<init>", "()V"⟩,
  .code ⟨"java/lang/Throwable", "<init>", "()V"⟩ prog_10_method_1_code 1 (none : Option Jvm.ClassFile.FieldType),
  .methodLink "java/lang/Throwable" 1 ⟨"java/lang/Object", "<init>", "()V"⟩,
  .fieldLink "java/lang/Throwable" 13 "java/lang/Throwable" "UNASSIGNED_STACK" "[Ljava/lang/StackTraceElement;",
  .fieldLink "java/lang/Throwable" 20 "java/lang/Throwable" "SUPPRESSED_SENTINEL" "Ljava/util/List;",
  .methodLink "java/lang/Throwable" 27 ⟨"java/lang/Throwable", "fillInStackTrace", "()Ljava/lang/Throwable;"⟩,
  .instanceMethod ⟨"java/lang/Throwable", "fillInStackTrace", "()Ljava/lang/Throwable;"⟩,
  .selects "java/util/NoSuchElementException" ⟨"java/lang/Throwable", "fillInStackTrace", "()Ljava/lang/Throwable;"⟩ ⟨"java/lang/Throwable", "fillInStackTrace", "()Ljava/lang/Throwable;"⟩,
  .codeSync ⟨"java/lang/Throwable", "fillInStackTrace", "()Ljava/lang/Throwable;"⟩ prog_10_method_18_code 1 (some (.object "java/lang/Throwable")),
  .methodLink "java/lang/Throwable" 202 ⟨"java/lang/Throwable", "fillInStackTrace", "(I)Ljava/lang/Throwable;"⟩,
  .instanceMethod ⟨"java/lang/Throwable", "fillInStackTrace", "(I)Ljava/lang/Throwable;"⟩,
  .instantiable "java/lang/Throwable" 6,
  .native ⟨"java/lang/Throwable", "fillInStackTrace", "(I)Ljava/lang/Throwable;"⟩,
  .methodLink "NoiseRing" 126 ⟨"java/lang/IllegalArgumentException", "<init>", "(Ljava/lang/String;)V"⟩,
  .instanceMethod ⟨"java/lang/IllegalArgumentException", "<init>", "(Ljava/lang/String;)V"⟩,
  .code ⟨"java/lang/IllegalArgumentException", "<init>", "(Ljava/lang/String;)V"⟩ prog_5_method_2_code 2 (none : Option Jvm.ClassFile.FieldType),
  .methodLink "java/lang/IllegalArgumentException" 7 ⟨"java/lang/RuntimeException", "<init>", "(Ljava/lang/String;)V"⟩,
  .instanceMethod ⟨"java/lang/RuntimeException", "<init>", "(Ljava/lang/String;)V"⟩,
  .code ⟨"java/lang/RuntimeException", "<init>", "(Ljava/lang/String;)V"⟩ prog_7_method_2_code 2 (none : Option Jvm.ClassFile.FieldType),
  .methodLink "java/lang/RuntimeException" 7 ⟨"java/lang/Exception", "<init>", "(Ljava/lang/String;)V"⟩,
  .instanceMethod ⟨"java/lang/Exception", "<init>", "(Ljava/lang/String;)V"⟩,
  .code ⟨"java/lang/Exception", "<init>", "(Ljava/lang/String;)V"⟩ prog_4_method_2_code 2 (none : Option Jvm.ClassFile.FieldType),
  .methodLink "java/lang/Exception" 7 ⟨"java/lang/Throwable", "<init>", "(Ljava/lang/String;)V"⟩,
  .instanceMethod ⟨"java/lang/Throwable", "<init>", "(Ljava/lang/String;)V"⟩,
  .code ⟨"java/lang/Throwable", "<init>", "(Ljava/lang/String;)V"⟩ prog_10_method_2_code 2 (none : Option Jvm.ClassFile.FieldType),
  .fieldLink "java/lang/Throwable" 31 "java/lang/Throwable" "detailMessage" "Ljava/lang/String;",
  .fieldLink "java/lang/Throwable" 7 "java/lang/Throwable" "cause" "Ljava/lang/Throwable;",
  .fieldLink "java/lang/Throwable" 17 "java/lang/Throwable" "stackTrace" "[Ljava/lang/StackTraceElement;",
  .fieldLink "java/lang/Throwable" 24 "java/lang/Throwable" "suppressedExceptions" "Ljava/util/List;",
  .soleField "java/lang/Throwable" "backtrace",
  .soleField "java/lang/Throwable" "detailMessage",
  .soleField "java/lang/Throwable" "cause",
  .soleField "java/lang/Throwable" "stackTrace",
  .lays "java/lang/IllegalArgumentException" "java/lang/Throwable" "depth" "I",
  .soleField "java/lang/Throwable" "depth",
  .soleField "java/lang/Throwable" "suppressedExceptions",
  .superclass "java/lang/IllegalArgumentException" "java/lang/RuntimeException",
  .arrayClass .byte,
  .methodLink "NoiseRingLaw" 73 ⟨"NoiseRingLaw", "set", "(LNoiseRing;III[J)I"⟩,
  .static ⟨"NoiseRingLaw", "set", "(LNoiseRing;III[J)I"⟩,
  .codeWith ⟨"NoiseRingLaw", "set", "(LNoiseRing;III[J)I"⟩ method_4_code 6 (some .int) [(0, 12, 15, 19)],
  .classLink "NoiseRingLaw" 19 "java/util/NoSuchElementException",
  .methodLink "NoiseRingLaw" 15 ⟨"NoiseRing", "set", "(III)I"⟩,
  .instanceMethod ⟨"NoiseRing", "set", "(III)I"⟩,
  .selects "NoiseRing" ⟨"NoiseRing", "set", "(III)I"⟩ ⟨"NoiseRing", "set", "(III)I"⟩,
  .code ⟨"NoiseRing", "set", "(III)I"⟩ prog_1_method_3_code 5 (some .int),
  .methodLink "NoiseRing" 33 ⟨"NoiseRing", "needRegister", "(I)V"⟩,
  .static ⟨"NoiseRing", "needRegister", "(I)V"⟩,
  .code ⟨"NoiseRing", "needRegister", "(I)V"⟩ prog_1_method_16_code 1 (none : Option Jvm.ClassFile.FieldType),
  .classLink "NoiseRing" 113 "java/util/NoSuchElementException",
  .instantiable "java/util/NoSuchElementException" 6,
  .selects "java/util/NoSuchElementException" ⟨"java/lang/Throwable", "fillInStackTrace", "(I)Ljava/lang/Throwable;"⟩ ⟨"java/lang/Throwable", "fillInStackTrace", "(I)Ljava/lang/Throwable;"⟩,
  .lays "java/util/NoSuchElementException" "java/lang/Throwable" "cause" "Ljava/lang/Throwable;",
  .lays "java/util/NoSuchElementException" "java/lang/Throwable" "stackTrace" "[Ljava/lang/StackTraceElement;",
  .lays "java/util/NoSuchElementException" "java/lang/Throwable" "suppressedExceptions" "Ljava/util/List;",
  .lays "java/util/NoSuchElementException" "java/lang/Throwable" "detailMessage" "Ljava/lang/String;",
  .lays "java/util/NoSuchElementException" "java/lang/Throwable" "backtrace" "Ljava/lang/Object;",
  .methodLink "NoiseRing" 117 ⟨"java/util/NoSuchElementException", "<init>", "(Ljava/lang/String;)V"⟩,
  .instanceMethod ⟨"java/util/NoSuchElementException", "<init>", "(Ljava/lang/String;)V"⟩,
  .code ⟨"java/util/NoSuchElementException", "<init>", "(Ljava/lang/String;)V"⟩ prog_11_method_4_code 2 (none : Option Jvm.ClassFile.FieldType),
  .methodLink "java/util/NoSuchElementException" 13 ⟨"java/lang/RuntimeException", "<init>", "(Ljava/lang/String;)V"⟩,
  .lays "java/util/NoSuchElementException" "java/lang/Throwable" "depth" "I",
  .superclass "java/util/NoSuchElementException" "java/lang/RuntimeException",
  .methodLink "NoiseRing" 36 ⟨"NoiseRing", "needPlace", "(I)V"⟩,
  .static ⟨"NoiseRing", "needPlace", "(I)V"⟩,
  .code ⟨"NoiseRing", "needPlace", "(I)V"⟩ prog_1_method_17_code 1 (none : Option Jvm.ClassFile.FieldType),
  .methodLink "NoiseRing" 39 ⟨"java/lang/Math", "floorMod", "(II)I"⟩,
  .static ⟨"java/lang/Math", "floorMod", "(II)I"⟩,
  .code ⟨"java/lang/Math", "floorMod", "(II)I"⟩ prog_6_method_50_code 3 (some .int),
  .methodLink "NoiseRingLaw" 77 ⟨"NoiseRingLaw", "get", "(LNoiseRing;II[J)I"⟩,
  .static ⟨"NoiseRingLaw", "get", "(LNoiseRing;II[J)I"⟩,
  .codeWith ⟨"NoiseRingLaw", "get", "(LNoiseRing;II[J)I"⟩ method_5_code 5 (some .int) [(0, 10, 13, 19)],
  .methodLink "NoiseRingLaw" 21 ⟨"NoiseRing", "get", "(II)I"⟩,
  .instanceMethod ⟨"NoiseRing", "get", "(II)I"⟩,
  .selects "NoiseRing" ⟨"NoiseRing", "get", "(II)I"⟩ ⟨"NoiseRing", "get", "(II)I"⟩,
  .code ⟨"NoiseRing", "get", "(II)I"⟩ prog_1_method_4_code 3 (some .int),
  .methodLink "NoiseRingLaw" 81 ⟨"NoiseRingLaw", "join", "(LNoiseRing;IIII[J)I"⟩,
  .static ⟨"NoiseRingLaw", "join", "(LNoiseRing;IIII[J)I"⟩,
  .codeWith ⟨"NoiseRingLaw", "join", "(LNoiseRing;IIII[J)I"⟩ method_6_code 7 (some .int) [(0, 14, 17, 19), (0, 14, 21, 13)],
  .methodLink "NoiseRingLaw" 25 ⟨"NoiseRing", "join", "(IIII)I"⟩,
  .instanceMethod ⟨"NoiseRing", "join", "(IIII)I"⟩,
  .selects "NoiseRing" ⟨"NoiseRing", "join", "(IIII)I"⟩ ⟨"NoiseRing", "join", "(IIII)I"⟩,
  .code ⟨"NoiseRing", "join", "(IIII)I"⟩ prog_1_method_5_code 6 (some .int),
  .methodLink "NoiseRing" 45 ⟨"NoiseRing", "joined", "(I[I[II)I"⟩,
  .instanceMethod ⟨"NoiseRing", "joined", "(I[I[II)I"⟩,
  .code ⟨"NoiseRing", "joined", "(I[I[II)I"⟩ prog_1_method_21_code 5 (some .int),
  .methodLink "NoiseRing" 127 ⟨"NoiseRing", "productAt", "([I[II)I"⟩,
  .instanceMethod ⟨"NoiseRing", "productAt", "([I[II)I"⟩,
  .code ⟨"NoiseRing", "productAt", "([I[II)I"⟩ prog_1_method_22_code 7 (some .int),
  .methodLink "NoiseRing" 131 ⟨"java/lang/Math", "floorMod", "(JJ)J"⟩,
  .static ⟨"java/lang/Math", "floorMod", "(JJ)J"⟩,
  .code ⟨"java/lang/Math", "floorMod", "(JJ)J"⟩ prog_6_method_52_code 6 (some .long),
  .methodLink "NoiseRing" 49 ⟨"java/lang/System", "arraycopy", "(Ljava/lang/Object;ILjava/lang/Object;II)V"⟩,
  .static ⟨"java/lang/System", "arraycopy", "(Ljava/lang/Object;ILjava/lang/Object;II)V"⟩,
  .native ⟨"java/lang/System", "arraycopy", "(Ljava/lang/Object;ILjava/lang/Object;II)V"⟩,
  .methodLink "NoiseRing" 55 ⟨"NoiseRing", "greatestSize", "([I)I"⟩,
  .instanceMethod ⟨"NoiseRing", "greatestSize", "([I)I"⟩,
  .code ⟨"NoiseRing", "greatestSize", "([I)I"⟩ prog_1_method_24_code 4 (some .int),
  .methodLink "NoiseRing" 85 ⟨"NoiseRing", "centredSize", "(I)I"⟩,
  .instanceMethod ⟨"NoiseRing", "centredSize", "(I)I"⟩,
  .code ⟨"NoiseRing", "centredSize", "(I)I"⟩ prog_1_method_23_code 2 (some .int),
  .methodLink "NoiseRing" 134 ⟨"java/lang/Math", "min", "(II)I"⟩,
  .static ⟨"java/lang/Math", "min", "(II)I"⟩,
  .code ⟨"java/lang/Math", "min", "(II)I"⟩ prog_6_method_69_code 2 (some .int),
  .methodLink "NoiseRing" 137 ⟨"java/lang/Math", "max", "(II)I"⟩,
  .static ⟨"java/lang/Math", "max", "(II)I"⟩,
  .code ⟨"java/lang/Math", "max", "(II)I"⟩ prog_6_method_65_code 2 (some .int),
  .methodLink "NoiseRingLaw" 85 ⟨"NoiseRingLaw", "round", "(LNoiseRing;IIII[J)I"⟩,
  .static ⟨"NoiseRingLaw", "round", "(LNoiseRing;IIII[J)I"⟩,
  .codeWith ⟨"NoiseRingLaw", "round", "(LNoiseRing;IIII[J)I"⟩ method_7_code 7 (some .int) [(0, 14, 17, 19), (0, 14, 21, 13)],
  .methodLink "NoiseRingLaw" 29 ⟨"NoiseRing", "round", "(IIII)I"⟩,
  .instanceMethod ⟨"NoiseRing", "round", "(IIII)I"⟩,
  .selects "NoiseRing" ⟨"NoiseRing", "round", "(IIII)I"⟩ ⟨"NoiseRing", "round", "(IIII)I"⟩,
  .code ⟨"NoiseRing", "round", "(IIII)I"⟩ prog_1_method_6_code 6 (some .int),
  .fieldLink "NoiseRing" 59 "NoiseRing" "MOST_BITS" "[I",
  .methodLink "NoiseRing" 65 ⟨"NoiseRing", "rounded", "(III)I"⟩,
  .instanceMethod ⟨"NoiseRing", "rounded", "(III)I"⟩,
  .code ⟨"NoiseRing", "rounded", "(III)I"⟩ prog_1_method_27_code 4 (some .int),
  .methodLink "NoiseRing" 140 ⟨"NoiseRing", "fewerBits", "(II)I"⟩,
  .instanceMethod ⟨"NoiseRing", "fewerBits", "(II)I"⟩,
  .code ⟨"NoiseRing", "fewerBits", "(II)I"⟩ prog_1_method_29_code 5 (some .int),
  .constantLong "NoiseRing" 152 (2 : Int64),
  .methodLink "NoiseRing" 143 ⟨"NoiseRing", "lowMask", "(I)I"⟩,
  .static ⟨"NoiseRing", "lowMask", "(I)I"⟩,
  .code ⟨"NoiseRing", "lowMask", "(I)I"⟩ prog_1_method_28_code 1 (some .int),
  .methodLink "NoiseRing" 146 ⟨"NoiseRing", "moreBits", "(II)I"⟩,
  .instanceMethod ⟨"NoiseRing", "moreBits", "(II)I"⟩,
  .code ⟨"NoiseRing", "moreBits", "(II)I"⟩ prog_1_method_30_code 3 (some .int),
  .methodLink "NoiseRing" 149 ⟨"NoiseRing", "lowBits", "(II)I"⟩,
  .static ⟨"NoiseRing", "lowBits", "(II)I"⟩,
  .code ⟨"NoiseRing", "lowBits", "(II)I"⟩ prog_1_method_31_code 3 (some .int),
  .methodLink "NoiseRingLaw" 88 ⟨"NoiseRingLaw", "part", "(LNoiseRing;IIIZ[J)I"⟩,
  .static ⟨"NoiseRingLaw", "part", "(LNoiseRing;IIIZ[J)I"⟩,
  .codeWith ⟨"NoiseRingLaw", "part", "(LNoiseRing;IIIZ[J)I"⟩ method_8_code 7 (some .int) [(0, 14, 17, 19), (0, 14, 21, 13)],
  .methodLink "NoiseRingLaw" 32 ⟨"NoiseRing", "part", "(IIIZ)I"⟩,
  .instanceMethod ⟨"NoiseRing", "part", "(IIIZ)I"⟩,
  .selects "NoiseRing" ⟨"NoiseRing", "part", "(IIIZ)I"⟩ ⟨"NoiseRing", "part", "(IIIZ)I"⟩,
  .code ⟨"NoiseRing", "part", "(IIIZ)I"⟩ prog_1_method_7_code 7 (some .int),
  .methodLink "NoiseRing" 72 ⟨"NoiseRing", "isAlpha", "(I)Z"⟩,
  .instanceMethod ⟨"NoiseRing", "isAlpha", "(I)Z"⟩,
  .code ⟨"NoiseRing", "isAlpha", "(I)Z"⟩ prog_1_method_32_code 2 (some .boolean),
  .methodLink "NoiseRing" 76 ⟨"NoiseRing", "partOf", "(II)I"⟩,
  .instanceMethod ⟨"NoiseRing", "partOf", "(II)I"⟩,
  .code ⟨"NoiseRing", "partOf", "(II)I"⟩ prog_1_method_35_code 4 (some .int),
  .methodLink "NoiseRing" 154 ⟨"NoiseRing", "nearRest", "(II)I"⟩,
  .static ⟨"NoiseRing", "nearRest", "(II)I"⟩,
  .code ⟨"NoiseRing", "nearRest", "(II)I"⟩ prog_1_method_33_code 3 (some .int),
  .methodLink "NoiseRing" 79 ⟨"NoiseRing", "restOf", "(II)I"⟩,
  .instanceMethod ⟨"NoiseRing", "restOf", "(II)I"⟩,
  .code ⟨"NoiseRing", "restOf", "(II)I"⟩ prog_1_method_34_code 4 (some .int),
  .methodLink "NoiseRingLaw" 92 ⟨"NoiseRingLaw", "hint", "(LNoiseRing;IIII[J)I"⟩,
  .static ⟨"NoiseRingLaw", "hint", "(LNoiseRing;IIII[J)I"⟩,
  .codeWith ⟨"NoiseRingLaw", "hint", "(LNoiseRing;IIII[J)I"⟩ method_9_code 7 (some .int) [(0, 14, 17, 19), (0, 14, 21, 13)],
  .methodLink "NoiseRingLaw" 36 ⟨"NoiseRing", "hint", "(IIII)I"⟩,
  .instanceMethod ⟨"NoiseRing", "hint", "(IIII)I"⟩,
  .selects "NoiseRing" ⟨"NoiseRing", "hint", "(IIII)I"⟩ ⟨"NoiseRing", "hint", "(IIII)I"⟩,
  .code ⟨"NoiseRing", "hint", "(IIII)I"⟩ prog_1_method_8_code 8 (some .int),
  .methodLink "NoiseRingLaw" 95 ⟨"NoiseRingLaw", "use", "(LNoiseRing;IIII[J)I"⟩,
  .static ⟨"NoiseRingLaw", "use", "(LNoiseRing;IIII[J)I"⟩,
  .codeWith ⟨"NoiseRingLaw", "use", "(LNoiseRing;IIII[J)I"⟩ method_10_code 7 (some .int) [(0, 14, 17, 19), (0, 14, 21, 13)],
  .methodLink "NoiseRingLaw" 39 ⟨"NoiseRing", "use", "(IIII)I"⟩,
  .instanceMethod ⟨"NoiseRing", "use", "(IIII)I"⟩,
  .selects "NoiseRing" ⟨"NoiseRing", "use", "(IIII)I"⟩ ⟨"NoiseRing", "use", "(IIII)I"⟩,
  .code ⟨"NoiseRing", "use", "(IIII)I"⟩ prog_1_method_9_code 10 (some .int),
  .methodLink "NoiseRing" 82 ⟨"NoiseRing", "movedPart", "(II)I"⟩,
  .instanceMethod ⟨"NoiseRing", "movedPart", "(II)I"⟩,
  .code ⟨"NoiseRing", "movedPart", "(II)I"⟩ prog_1_method_36_code 4 (some .int),
  .methodLink "NoiseRingLaw" 98 ⟨"NoiseRingLaw", "size", "(LNoiseRing;I[J)I"⟩,
  .static ⟨"NoiseRingLaw", "size", "(LNoiseRing;I[J)I"⟩,
  .codeWith ⟨"NoiseRingLaw", "size", "(LNoiseRing;I[J)I"⟩ method_11_code 4 (some .int) [(0, 9, 12, 19)],
  .methodLink "NoiseRingLaw" 42 ⟨"NoiseRing", "size", "(I)I"⟩,
  .instanceMethod ⟨"NoiseRing", "size", "(I)I"⟩,
  .selects "NoiseRing" ⟨"NoiseRing", "size", "(I)I"⟩ ⟨"NoiseRing", "size", "(I)I"⟩,
  .code ⟨"NoiseRing", "size", "(I)I"⟩ prog_1_method_10_code 2 (some .int),
  .methodLink "NoiseRingLaw" 101 ⟨"NoiseRingLaw", "far", "(LNoiseRing;II[J)I"⟩,
  .static ⟨"NoiseRingLaw", "far", "(LNoiseRing;II[J)I"⟩,
  .codeWith ⟨"NoiseRingLaw", "far", "(LNoiseRing;II[J)I"⟩ method_12_code 5 (some .int) [(0, 10, 13, 19)],
  .methodLink "NoiseRingLaw" 45 ⟨"NoiseRing", "far", "(II)I"⟩,
  .instanceMethod ⟨"NoiseRing", "far", "(II)I"⟩,
  .selects "NoiseRing" ⟨"NoiseRing", "far", "(II)I"⟩ ⟨"NoiseRing", "far", "(II)I"⟩,
  .code ⟨"NoiseRing", "far", "(II)I"⟩ prog_1_method_11_code 5 (some .int),
  .methodLink "NoiseRingLaw" 106 ⟨"NoiseRingLaw", "noise", "(LNoiseRing;IIJJ[J)I"⟩,
  .static ⟨"NoiseRingLaw", "noise", "(LNoiseRing;IIJJ[J)I"⟩,
  .codeWith ⟨"NoiseRingLaw", "noise", "(LNoiseRing;IIJJ[J)I"⟩ method_13_code 9 (some .int) [(0, 14, 17, 19), (0, 14, 21, 13)],
  .methodLink "NoiseRingLaw" 48 ⟨"NoiseRing", "noise", "(IIJJ)I"⟩,
  .instanceMethod ⟨"NoiseRing", "noise", "(IIJJ)I"⟩,
  .selects "NoiseRing" ⟨"NoiseRing", "noise", "(IIJJ)I"⟩ ⟨"NoiseRing", "noise", "(IIJJ)I"⟩,
  .code ⟨"NoiseRing", "noise", "(IIJJ)I"⟩ prog_1_method_12_code 11 (some .int),
  .methodLink "NoiseRing" 89 ⟨"NoiseRing", "ones", "(IIJJ)I"⟩,
  .static ⟨"NoiseRing", "ones", "(IIJJ)I"⟩,
  .code ⟨"NoiseRing", "ones", "(IIJJ)I"⟩ prog_1_method_37_code 10 (some .int),
  .methodLink "NoiseRingLaw" 110 ⟨"NoiseRingLaw", "value", "(LNoiseRing;II[J)I"⟩,
  .static ⟨"NoiseRingLaw", "value", "(LNoiseRing;II[J)I"⟩,
  .codeWith ⟨"NoiseRingLaw", "value", "(LNoiseRing;II[J)I"⟩ method_14_code 5 (some .int) [(0, 10, 13, 19)],
  .methodLink "NoiseRingLaw" 52 ⟨"NoiseRing", "value", "(II)I"⟩,
  .instanceMethod ⟨"NoiseRing", "value", "(II)I"⟩,
  .selects "NoiseRing" ⟨"NoiseRing", "value", "(II)I"⟩ ⟨"NoiseRing", "value", "(II)I"⟩,
  .code ⟨"NoiseRing", "value", "(II)I"⟩ prog_1_method_13_code 3 (some .int),
  .methodLink "NoiseRing" 99 ⟨"NoiseRing", "valueAt", "([IIII)I"⟩,
  .instanceMethod ⟨"NoiseRing", "valueAt", "([IIII)I"⟩,
  .code ⟨"NoiseRing", "valueAt", "([IIII)I"⟩ prog_1_method_38_code 10 (some .int),
  .methodLink "NoiseRingLaw" 113 ⟨"NoiseRingLaw", "unit", "(LNoiseRing;I[J)I"⟩,
  .static ⟨"NoiseRingLaw", "unit", "(LNoiseRing;I[J)I"⟩,
  .codeWith ⟨"NoiseRingLaw", "unit", "(LNoiseRing;I[J)I"⟩ method_15_code 4 (some .int) [(0, 16, 19, 19)],
  .methodLink "NoiseRingLaw" 55 ⟨"NoiseRing", "unit", "(I)Z"⟩,
  .instanceMethod ⟨"NoiseRing", "unit", "(I)Z"⟩,
  .selects "NoiseRing" ⟨"NoiseRing", "unit", "(I)Z"⟩ ⟨"NoiseRing", "unit", "(I)Z"⟩,
  .code ⟨"NoiseRing", "unit", "(I)Z"⟩ prog_1_method_14_code 4 (some .boolean),
  .fieldLink "NoiseRing" 106 "NoiseRing" "ZERO_EXPONENT" "[I",
  .classLink "NoiseRingLaw" 60 "NoiseRingModel",
  .instantiable "NoiseRingModel" 5,
  .methodLink "NoiseRingLaw" 62 ⟨"NoiseRingModel", "<init>", "()V"⟩,
  .instanceMethod ⟨"NoiseRingModel", "<init>", "()V"⟩,
  .code ⟨"NoiseRingModel", "<init>", "()V"⟩ prog_3_method_1_code 1 (none : Option Jvm.ClassFile.FieldType),
  .methodLink "NoiseRingModel" 1 ⟨"java/lang/Object", "<init>", "()V"⟩,
  .fieldLink "NoiseRingModel" 20 "NoiseRingModel" "thrown" "I",
  .fieldLink "NoiseRingModel" 37 "NoiseRingModel" "kind" "I",
  .fieldLink "NoiseRingModel" 7 "NoiseRingModel" "q" "I",
  .fieldLink "NoiseRingModel" 13 "NoiseRingModel" "register" "[I",
  .fieldLink "NoiseRingModel" 17 "NoiseRingModel" "made" "[I",
  .lays "NoiseRingModel" "NoiseRingModel" "thrown" "I",
  .soleField "NoiseRingModel" "thrown",
  .lays "NoiseRingModel" "NoiseRingModel" "kind" "I",
  .soleField "NoiseRingModel" "kind",
  .lays "NoiseRingModel" "NoiseRingModel" "q" "I",
  .soleField "NoiseRingModel" "q",
  .laysFinal "NoiseRingModel" "NoiseRingModel" "register" "[I",
  .soleField "NoiseRingModel" "register",
  .laysFinal "NoiseRingModel" "NoiseRingModel" "made" "[I",
  .soleField "NoiseRingModel" "made",
  .superclass "NoiseRingModel" "java/lang/Object",
  .methodLink "NoiseRingLaw" 69 ⟨"NoiseRingModel", "thrown", "()I"⟩,
  .instanceMethod ⟨"NoiseRingModel", "thrown", "()I"⟩,
  .selects "NoiseRingModel" ⟨"NoiseRingModel", "thrown", "()I"⟩ ⟨"NoiseRingModel", "thrown", "()I"⟩,
  .code ⟨"NoiseRingModel", "thrown", "()I"⟩ prog_3_method_2_code 1 (some .int),
  .methodLink "NoiseRingLaw" 68 ⟨"NoiseRingModel", "begin", "(I)I"⟩,
  .instanceMethod ⟨"NoiseRingModel", "begin", "(I)I"⟩,
  .selects "NoiseRingModel" ⟨"NoiseRingModel", "begin", "(I)I"⟩ ⟨"NoiseRingModel", "begin", "(I)I"⟩,
  .code ⟨"NoiseRingModel", "begin", "(I)I"⟩ prog_3_method_10_code 3 (some .int),
  .constant "NoiseRingModel" 40 (8380417 : Int32),
  .methodLink "NoiseRingLaw" 76 ⟨"NoiseRingModel", "set", "(III)I"⟩,
  .instanceMethod ⟨"NoiseRingModel", "set", "(III)I"⟩,
  .selects "NoiseRingModel" ⟨"NoiseRingModel", "set", "(III)I"⟩ ⟨"NoiseRingModel", "set", "(III)I"⟩,
  .code ⟨"NoiseRingModel", "set", "(III)I"⟩ prog_3_method_11_code 5 (some .int),
  .methodLink "NoiseRingModel" 41 ⟨"NoiseRingModel", "none", "(I)Z"⟩,
  .static ⟨"NoiseRingModel", "none", "(I)Z"⟩,
  .code ⟨"NoiseRingModel", "none", "(I)Z"⟩ prog_3_method_4_code 1 (some .boolean),
  .methodLink "NoiseRingModel" 45 ⟨"NoiseRingModel", "at", "(II)I"⟩,
  .instanceMethod ⟨"NoiseRingModel", "at", "(II)I"⟩,
  .code ⟨"NoiseRingModel", "at", "(II)I"⟩ prog_3_method_5_code 3 (some .int),
  .methodLink "NoiseRingModel" 48 ⟨"NoiseRingModel", "of", "(J)I"⟩,
  .instanceMethod ⟨"NoiseRingModel", "of", "(J)I"⟩,
  .code ⟨"NoiseRingModel", "of", "(J)I"⟩ prog_3_method_6_code 3 (some .int),
  .methodLink "NoiseRingModel" 23 ⟨"java/lang/Math", "floorMod", "(JJ)J"⟩,
  .methodLink "NoiseRingLaw" 80 ⟨"NoiseRingModel", "get", "(II)I"⟩,
  .instanceMethod ⟨"NoiseRingModel", "get", "(II)I"⟩,
  .selects "NoiseRingModel" ⟨"NoiseRingModel", "get", "(II)I"⟩ ⟨"NoiseRingModel", "get", "(II)I"⟩,
  .code ⟨"NoiseRingModel", "get", "(II)I"⟩ prog_3_method_12_code 3 (some .int),
  .methodLink "NoiseRingLaw" 84 ⟨"NoiseRingModel", "join", "(IIII)I"⟩,
  .instanceMethod ⟨"NoiseRingModel", "join", "(IIII)I"⟩,
  .selects "NoiseRingModel" ⟨"NoiseRingModel", "join", "(IIII)I"⟩ ⟨"NoiseRingModel", "join", "(IIII)I"⟩,
  .code ⟨"NoiseRingModel", "join", "(IIII)I"⟩ prog_3_method_13_code 11 (some .int),
  .methodLink "NoiseRingModel" 52 ⟨"NoiseRingModel", "put", "(I)I"⟩,
  .instanceMethod ⟨"NoiseRingModel", "put", "(I)I"⟩,
  .code ⟨"NoiseRingModel", "put", "(I)I"⟩ prog_3_method_9_code 4 (some .int),
  .methodLink "NoiseRingModel" 55 ⟨"NoiseRingModel", "most", "([I)I"⟩,
  .instanceMethod ⟨"NoiseRingModel", "most", "([I)I"⟩,
  .code ⟨"NoiseRingModel", "most", "([I)I"⟩ prog_3_method_8_code 4 (some .int),
  .methodLink "NoiseRingModel" 29 ⟨"NoiseRingModel", "size0", "(I)I"⟩,
  .instanceMethod ⟨"NoiseRingModel", "size0", "(I)I"⟩,
  .code ⟨"NoiseRingModel", "size0", "(I)I"⟩ prog_3_method_7_code 2 (some .int),
  .methodLink "NoiseRingModel" 33 ⟨"java/lang/Math", "max", "(II)I"⟩,
  .methodLink "NoiseRingLaw" 87 ⟨"NoiseRingModel", "round", "(IIII)I"⟩,
  .instanceMethod ⟨"NoiseRingModel", "round", "(IIII)I"⟩,
  .selects "NoiseRingModel" ⟨"NoiseRingModel", "round", "(IIII)I"⟩ ⟨"NoiseRingModel", "round", "(IIII)I"⟩,
  .code ⟨"NoiseRingModel", "round", "(IIII)I"⟩ prog_3_method_15_code 11 (some .int),
  .methodLink "NoiseRingModel" 59 ⟨"NoiseRingModel", "rest", "(II)I"⟩,
  .static ⟨"NoiseRingModel", "rest", "(II)I"⟩,
  .code ⟨"NoiseRingModel", "rest", "(II)I"⟩ prog_3_method_14_code 3 (some .int),
  .constantLong "NoiseRingModel" 62 (2 : Int64),
  .methodLink "NoiseRingLaw" 91 ⟨"NoiseRingModel", "part", "(IIIZ)I"⟩,
  .instanceMethod ⟨"NoiseRingModel", "part", "(IIIZ)I"⟩,
  .selects "NoiseRingModel" ⟨"NoiseRingModel", "part", "(IIIZ)I"⟩ ⟨"NoiseRingModel", "part", "(IIIZ)I"⟩,
  .code ⟨"NoiseRingModel", "part", "(IIIZ)I"⟩ prog_3_method_19_code 6 (some .int),
  .methodLink "NoiseRingModel" 64 ⟨"NoiseRingModel", "isAlpha", "(I)Z"⟩,
  .instanceMethod ⟨"NoiseRingModel", "isAlpha", "(I)Z"⟩,
  .code ⟨"NoiseRingModel", "isAlpha", "(I)Z"⟩ prog_3_method_16_code 2 (some .boolean),
  .methodLink "NoiseRingModel" 67 ⟨"NoiseRingModel", "partOf", "(II)I"⟩,
  .instanceMethod ⟨"NoiseRingModel", "partOf", "(II)I"⟩,
  .code ⟨"NoiseRingModel", "partOf", "(II)I"⟩ prog_3_method_17_code 4 (some .int),
  .methodLink "NoiseRingModel" 70 ⟨"NoiseRingModel", "restOf", "(II)I"⟩,
  .instanceMethod ⟨"NoiseRingModel", "restOf", "(II)I"⟩,
  .code ⟨"NoiseRingModel", "restOf", "(II)I"⟩ prog_3_method_18_code 4 (some .int),
  .methodLink "NoiseRingLaw" 94 ⟨"NoiseRingModel", "hint", "(IIII)I"⟩,
  .instanceMethod ⟨"NoiseRingModel", "hint", "(IIII)I"⟩,
  .selects "NoiseRingModel" ⟨"NoiseRingModel", "hint", "(IIII)I"⟩ ⟨"NoiseRingModel", "hint", "(IIII)I"⟩,
  .code ⟨"NoiseRingModel", "hint", "(IIII)I"⟩ prog_3_method_20_code 6 (some .int),
  .methodLink "NoiseRingLaw" 97 ⟨"NoiseRingModel", "use", "(IIII)I"⟩,
  .instanceMethod ⟨"NoiseRingModel", "use", "(IIII)I"⟩,
  .selects "NoiseRingModel" ⟨"NoiseRingModel", "use", "(IIII)I"⟩ ⟨"NoiseRingModel", "use", "(IIII)I"⟩,
  .code ⟨"NoiseRingModel", "use", "(IIII)I"⟩ prog_3_method_21_code 9 (some .int),
  .methodLink "NoiseRingModel" 73 ⟨"java/lang/Math", "floorMod", "(II)I"⟩,
  .methodLink "NoiseRingLaw" 100 ⟨"NoiseRingModel", "size", "(I)I"⟩,
  .instanceMethod ⟨"NoiseRingModel", "size", "(I)I"⟩,
  .selects "NoiseRingModel" ⟨"NoiseRingModel", "size", "(I)I"⟩ ⟨"NoiseRingModel", "size", "(I)I"⟩,
  .code ⟨"NoiseRingModel", "size", "(I)I"⟩ prog_3_method_22_code 4 (some .int),
  .methodLink "NoiseRingLaw" 103 ⟨"NoiseRingModel", "far", "(II)I"⟩,
  .instanceMethod ⟨"NoiseRingModel", "far", "(II)I"⟩,
  .selects "NoiseRingModel" ⟨"NoiseRingModel", "far", "(II)I"⟩ ⟨"NoiseRingModel", "far", "(II)I"⟩,
  .code ⟨"NoiseRingModel", "far", "(II)I"⟩ prog_3_method_23_code 5 (some .int),
  .methodLink "NoiseRingLaw" 109 ⟨"NoiseRingModel", "noise", "(IIJJ)I"⟩,
  .instanceMethod ⟨"NoiseRingModel", "noise", "(IIJJ)I"⟩,
  .selects "NoiseRingModel" ⟨"NoiseRingModel", "noise", "(IIJJ)I"⟩ ⟨"NoiseRingModel", "noise", "(IIJJ)I"⟩,
  .code ⟨"NoiseRingModel", "noise", "(IIJJ)I"⟩ prog_3_method_25_code 10 (some .int),
  .methodLink "NoiseRingModel" 75 ⟨"NoiseRingModel", "bit", "(JJI)I"⟩,
  .static ⟨"NoiseRingModel", "bit", "(JJI)I"⟩,
  .code ⟨"NoiseRingModel", "bit", "(JJI)I"⟩ prog_3_method_24_code 5 (some .int),
  .methodLink "NoiseRingLaw" 112 ⟨"NoiseRingModel", "value", "(II)I"⟩,
  .instanceMethod ⟨"NoiseRingModel", "value", "(II)I"⟩,
  .selects "NoiseRingModel" ⟨"NoiseRingModel", "value", "(II)I"⟩ ⟨"NoiseRingModel", "value", "(II)I"⟩,
  .code ⟨"NoiseRingModel", "value", "(II)I"⟩ prog_3_method_30_code 3 (some .int),
  .methodLink "NoiseRingModel" 90 ⟨"NoiseRingModel", "valueOf", "(II)I"⟩,
  .instanceMethod ⟨"NoiseRingModel", "valueOf", "(II)I"⟩,
  .code ⟨"NoiseRingModel", "valueOf", "(II)I"⟩ prog_3_method_29_code 4 (some .int),
  .methodLink "NoiseRingModel" 82 ⟨"NoiseRingModel", "root", "()I"⟩,
  .instanceMethod ⟨"NoiseRingModel", "root", "()I"⟩,
  .code ⟨"NoiseRingModel", "root", "()I"⟩ prog_3_method_27_code 1 (some .int),
  .methodLink "NoiseRingModel" 79 ⟨"NoiseRingModel", "power", "(II)I"⟩,
  .instanceMethod ⟨"NoiseRingModel", "power", "(II)I"⟩,
  .code ⟨"NoiseRingModel", "power", "(II)I"⟩ prog_3_method_26_code 6 (some .int),
  .methodLink "NoiseRingModel" 86 ⟨"NoiseRingModel", "along", "(IIIJ)I"⟩,
  .instanceMethod ⟨"NoiseRingModel", "along", "(IIIJ)I"⟩,
  .code ⟨"NoiseRingModel", "along", "(IIIJ)I"⟩ prog_3_method_28_code 9 (some .int),
  .methodLink "NoiseRingLaw" 115 ⟨"NoiseRingModel", "unit", "(I)Z"⟩,
  .instanceMethod ⟨"NoiseRingModel", "unit", "(I)Z"⟩,
  .selects "NoiseRingModel" ⟨"NoiseRingModel", "unit", "(I)Z"⟩ ⟨"NoiseRingModel", "unit", "(I)Z"⟩,
  .code ⟨"NoiseRingModel", "unit", "(I)Z"⟩ prog_3_method_31_code 7 (some .boolean),
  .methodLink "NoiseRingLaw" 119 ⟨"NoiseRingModel", "count", "(I)I"⟩,
  .instanceMethod ⟨"NoiseRingModel", "count", "(I)I"⟩,
  .selects "NoiseRingModel" ⟨"NoiseRingModel", "count", "(I)I"⟩ ⟨"NoiseRingModel", "count", "(I)I"⟩,
  .code ⟨"NoiseRingModel", "count", "(I)I"⟩ prog_3_method_32_code 6 (some .int),
  .constantLong "NoiseRingLaw" 104 (4294967295 : Int64),
  .arrayClass .long]
set_option maxRecDepth 100000 in
theorem wsU_good : wsU.all goodWord = true := by decide +kernel
set_option maxRecDepth 100000 in
theorem u0 : (.selects "NoiseRing" ⟨"NoiseRing", "takeKind", "(I)V"⟩ ⟨"NoiseRing", "takeKind", "(I)V"⟩ : Cond) ∈ wsU := List.mem_of_getElem? (i := 0) rfl
set_option maxRecDepth 100000 in
theorem u1 : (.selects "NoiseRing" ⟨"NoiseRing", "power", "(II)I"⟩ ⟨"NoiseRing", "power", "(II)I"⟩ : Cond) ∈ wsU := List.mem_of_getElem? (i := 1) rfl
set_option maxRecDepth 100000 in
theorem u2 : (.selects "NoiseRing" ⟨"NoiseRing", "emptyRegisters", "()I"⟩ ⟨"NoiseRing", "emptyRegisters", "()I"⟩ : Cond) ∈ wsU := List.mem_of_getElem? (i := 2) rfl
set_option maxRecDepth 100000 in
theorem u3 : (.selects "java/lang/Throwable" ⟨"java/lang/Throwable", "fillInStackTrace", "(I)Ljava/lang/Throwable;"⟩ ⟨"java/lang/Throwable", "fillInStackTrace", "(I)Ljava/lang/Throwable;"⟩ : Cond) ∈ wsU := List.mem_of_getElem? (i := 3) rfl
set_option maxRecDepth 100000 in
theorem u4 : (.selects "NoiseRing" ⟨"NoiseRing", "joined", "(I[I[II)I"⟩ ⟨"NoiseRing", "joined", "(I[I[II)I"⟩ : Cond) ∈ wsU := List.mem_of_getElem? (i := 4) rfl
set_option maxRecDepth 100000 in
theorem u5 : (.selects "NoiseRing" ⟨"NoiseRing", "productAt", "([I[II)I"⟩ ⟨"NoiseRing", "productAt", "([I[II)I"⟩ : Cond) ∈ wsU := List.mem_of_getElem? (i := 5) rfl
set_option maxRecDepth 100000 in
theorem u6 : (.selects "NoiseRing" ⟨"NoiseRing", "greatestSize", "([I)I"⟩ ⟨"NoiseRing", "greatestSize", "([I)I"⟩ : Cond) ∈ wsU := List.mem_of_getElem? (i := 6) rfl
set_option maxRecDepth 100000 in
theorem u7 : (.selects "NoiseRing" ⟨"NoiseRing", "centredSize", "(I)I"⟩ ⟨"NoiseRing", "centredSize", "(I)I"⟩ : Cond) ∈ wsU := List.mem_of_getElem? (i := 7) rfl
set_option maxRecDepth 100000 in
theorem u8 : (.selects "NoiseRing" ⟨"NoiseRing", "rounded", "(III)I"⟩ ⟨"NoiseRing", "rounded", "(III)I"⟩ : Cond) ∈ wsU := List.mem_of_getElem? (i := 8) rfl
set_option maxRecDepth 100000 in
theorem u9 : (.selects "NoiseRing" ⟨"NoiseRing", "fewerBits", "(II)I"⟩ ⟨"NoiseRing", "fewerBits", "(II)I"⟩ : Cond) ∈ wsU := List.mem_of_getElem? (i := 9) rfl
set_option maxRecDepth 100000 in
theorem u10 : (.selects "NoiseRing" ⟨"NoiseRing", "moreBits", "(II)I"⟩ ⟨"NoiseRing", "moreBits", "(II)I"⟩ : Cond) ∈ wsU := List.mem_of_getElem? (i := 10) rfl
set_option maxRecDepth 100000 in
theorem u11 : (.selects "NoiseRing" ⟨"NoiseRing", "isAlpha", "(I)Z"⟩ ⟨"NoiseRing", "isAlpha", "(I)Z"⟩ : Cond) ∈ wsU := List.mem_of_getElem? (i := 11) rfl
set_option maxRecDepth 100000 in
theorem u12 : (.selects "NoiseRing" ⟨"NoiseRing", "partOf", "(II)I"⟩ ⟨"NoiseRing", "partOf", "(II)I"⟩ : Cond) ∈ wsU := List.mem_of_getElem? (i := 12) rfl
set_option maxRecDepth 100000 in
theorem u13 : (.selects "NoiseRing" ⟨"NoiseRing", "restOf", "(II)I"⟩ ⟨"NoiseRing", "restOf", "(II)I"⟩ : Cond) ∈ wsU := List.mem_of_getElem? (i := 13) rfl
set_option maxRecDepth 100000 in
theorem u14 : (.selects "NoiseRing" ⟨"NoiseRing", "movedPart", "(II)I"⟩ ⟨"NoiseRing", "movedPart", "(II)I"⟩ : Cond) ∈ wsU := List.mem_of_getElem? (i := 14) rfl
set_option maxRecDepth 100000 in
theorem u15 : (.selects "NoiseRing" ⟨"NoiseRing", "valueAt", "([IIII)I"⟩ ⟨"NoiseRing", "valueAt", "([IIII)I"⟩ : Cond) ∈ wsU := List.mem_of_getElem? (i := 15) rfl
set_option maxRecDepth 100000 in
theorem u16 : (.selects "NoiseRingModel" ⟨"NoiseRingModel", "at", "(II)I"⟩ ⟨"NoiseRingModel", "at", "(II)I"⟩ : Cond) ∈ wsU := List.mem_of_getElem? (i := 16) rfl
set_option maxRecDepth 100000 in
theorem u17 : (.selects "NoiseRingModel" ⟨"NoiseRingModel", "of", "(J)I"⟩ ⟨"NoiseRingModel", "of", "(J)I"⟩ : Cond) ∈ wsU := List.mem_of_getElem? (i := 17) rfl
set_option maxRecDepth 100000 in
theorem u18 : (.selects "NoiseRingModel" ⟨"NoiseRingModel", "put", "(I)I"⟩ ⟨"NoiseRingModel", "put", "(I)I"⟩ : Cond) ∈ wsU := List.mem_of_getElem? (i := 18) rfl
set_option maxRecDepth 100000 in
theorem u19 : (.selects "NoiseRingModel" ⟨"NoiseRingModel", "most", "([I)I"⟩ ⟨"NoiseRingModel", "most", "([I)I"⟩ : Cond) ∈ wsU := List.mem_of_getElem? (i := 19) rfl
set_option maxRecDepth 100000 in
theorem u20 : (.selects "NoiseRingModel" ⟨"NoiseRingModel", "size0", "(I)I"⟩ ⟨"NoiseRingModel", "size0", "(I)I"⟩ : Cond) ∈ wsU := List.mem_of_getElem? (i := 20) rfl
set_option maxRecDepth 100000 in
theorem u21 : (.selects "NoiseRingModel" ⟨"NoiseRingModel", "isAlpha", "(I)Z"⟩ ⟨"NoiseRingModel", "isAlpha", "(I)Z"⟩ : Cond) ∈ wsU := List.mem_of_getElem? (i := 21) rfl
set_option maxRecDepth 100000 in
theorem u22 : (.selects "NoiseRingModel" ⟨"NoiseRingModel", "partOf", "(II)I"⟩ ⟨"NoiseRingModel", "partOf", "(II)I"⟩ : Cond) ∈ wsU := List.mem_of_getElem? (i := 22) rfl
set_option maxRecDepth 100000 in
theorem u23 : (.selects "NoiseRingModel" ⟨"NoiseRingModel", "restOf", "(II)I"⟩ ⟨"NoiseRingModel", "restOf", "(II)I"⟩ : Cond) ∈ wsU := List.mem_of_getElem? (i := 23) rfl
set_option maxRecDepth 100000 in
theorem u24 : (.selects "NoiseRingModel" ⟨"NoiseRingModel", "valueOf", "(II)I"⟩ ⟨"NoiseRingModel", "valueOf", "(II)I"⟩ : Cond) ∈ wsU := List.mem_of_getElem? (i := 24) rfl
set_option maxRecDepth 100000 in
theorem u25 : (.selects "NoiseRingModel" ⟨"NoiseRingModel", "root", "()I"⟩ ⟨"NoiseRingModel", "root", "()I"⟩ : Cond) ∈ wsU := List.mem_of_getElem? (i := 25) rfl
set_option maxRecDepth 100000 in
theorem u26 : (.selects "NoiseRingModel" ⟨"NoiseRingModel", "power", "(II)I"⟩ ⟨"NoiseRingModel", "power", "(II)I"⟩ : Cond) ∈ wsU := List.mem_of_getElem? (i := 26) rfl
set_option maxRecDepth 100000 in
theorem u27 : (.selects "NoiseRingModel" ⟨"NoiseRingModel", "along", "(IIIJ)I"⟩ ⟨"NoiseRingModel", "along", "(IIIJ)I"⟩ : Cond) ∈ wsU := List.mem_of_getElem? (i := 27) rfl
set_option maxRecDepth 100000 in
theorem u28 : (.initialized "NoiseRingLaw" : Cond) ∈ wsU := List.mem_of_getElem? (i := 28) rfl
set_option maxRecDepth 100000 in
theorem u29 : (.initialized "NoiseRing" : Cond) ∈ wsU := List.mem_of_getElem? (i := 29) rfl
set_option maxRecDepth 100000 in
theorem u30 : (.initialized "NoiseRingModel" : Cond) ∈ wsU := List.mem_of_getElem? (i := 30) rfl
set_option maxRecDepth 100000 in
theorem u31 : (.initialized "java/lang/Throwable" : Cond) ∈ wsU := List.mem_of_getElem? (i := 31) rfl
set_option maxRecDepth 100000 in
theorem u32 : (.initialized "java/lang/Exception" : Cond) ∈ wsU := List.mem_of_getElem? (i := 32) rfl
set_option maxRecDepth 100000 in
theorem u33 : (.initialized "java/lang/RuntimeException" : Cond) ∈ wsU := List.mem_of_getElem? (i := 33) rfl
set_option maxRecDepth 100000 in
theorem u34 : (.initialized "java/lang/IllegalArgumentException" : Cond) ∈ wsU := List.mem_of_getElem? (i := 34) rfl
set_option maxRecDepth 100000 in
theorem u35 : (.initialized "java/util/NoSuchElementException" : Cond) ∈ wsU := List.mem_of_getElem? (i := 35) rfl
set_option maxRecDepth 100000 in
theorem u36 : (.initialized "java/lang/Math" : Cond) ∈ wsU := List.mem_of_getElem? (i := 36) rfl
set_option maxRecDepth 100000 in
theorem u37 : (.initialized "java/lang/System" : Cond) ∈ wsU := List.mem_of_getElem? (i := 37) rfl
set_option maxRecDepth 100000 in
theorem u38 : (.classLink "NoiseRingLaw" 8 "NoiseRing" : Cond) ∈ wsU := List.mem_of_getElem? (i := 38) rfl
set_option maxRecDepth 100000 in
theorem u39 : (.instantiable "NoiseRing" 5 : Cond) ∈ wsU := List.mem_of_getElem? (i := 39) rfl
set_option maxRecDepth 100000 in
theorem u40 : (.methodLink "NoiseRingLaw" 59 ⟨"NoiseRing", "<init>", "()V"⟩ : Cond) ∈ wsU := List.mem_of_getElem? (i := 40) rfl
set_option maxRecDepth 100000 in
theorem u41 : (.instanceMethod ⟨"NoiseRing", "<init>", "()V"⟩ : Cond) ∈ wsU := List.mem_of_getElem? (i := 41) rfl
set_option maxRecDepth 100000 in
theorem u42 : (.code ⟨"NoiseRing", "<init>", "()V"⟩ prog_1_method_1_code 1 (none : Option Jvm.ClassFile.FieldType) : Cond) ∈ wsU := List.mem_of_getElem? (i := 42) rfl
set_option maxRecDepth 100000 in
theorem u43 : (.methodLink "NoiseRing" 1 ⟨"java/lang/Object", "<init>", "()V"⟩ : Cond) ∈ wsU := List.mem_of_getElem? (i := 43) rfl
set_option maxRecDepth 100000 in
theorem u44 : (.instanceMethod ⟨"java/lang/Object", "<init>", "()V"⟩ : Cond) ∈ wsU := List.mem_of_getElem? (i := 44) rfl
set_option maxRecDepth 100000 in
theorem u45 : (.code ⟨"java/lang/Object", "<init>", "()V"⟩ object_method_1_code 1 (none : Option Jvm.ClassFile.FieldType) : Cond) ∈ wsU := List.mem_of_getElem? (i := 45) rfl
set_option maxRecDepth 100000 in
theorem u46 : (.classLink "NoiseRing" 9 "[[I" : Cond) ∈ wsU := List.mem_of_getElem? (i := 46) rfl
set_option maxRecDepth 100000 in
theorem u47 : (.methodLink "NoiseRing" 18 ⟨"NoiseRing", "takeKind", "(I)V"⟩ : Cond) ∈ wsU := List.mem_of_getElem? (i := 47) rfl
set_option maxRecDepth 100000 in
theorem u48 : (.instanceMethod ⟨"NoiseRing", "takeKind", "(I)V"⟩ : Cond) ∈ wsU := List.mem_of_getElem? (i := 48) rfl
set_option maxRecDepth 100000 in
theorem u49 : (.code ⟨"NoiseRing", "takeKind", "(I)V"⟩ prog_1_method_19_code 2 (none : Option Jvm.ClassFile.FieldType) : Cond) ∈ wsU := List.mem_of_getElem? (i := 49) rfl
set_option maxRecDepth 100000 in
theorem u50 : (.fieldLink "NoiseRing" 22 "NoiseRing" "MODULUS" "[I" : Cond) ∈ wsU := List.mem_of_getElem? (i := 50) rfl
set_option maxRecDepth 100000 in
theorem u51 : (.fieldLink "NoiseRing" 103 "NoiseRing" "BASE_ROOT" "[I" : Cond) ∈ wsU := List.mem_of_getElem? (i := 51) rfl
set_option maxRecDepth 100000 in
theorem u52 : (.methodLink "NoiseRing" 96 ⟨"NoiseRing", "power", "(II)I"⟩ : Cond) ∈ wsU := List.mem_of_getElem? (i := 52) rfl
set_option maxRecDepth 100000 in
theorem u53 : (.instanceMethod ⟨"NoiseRing", "power", "(II)I"⟩ : Cond) ∈ wsU := List.mem_of_getElem? (i := 53) rfl
set_option maxRecDepth 100000 in
theorem u54 : (.code ⟨"NoiseRing", "power", "(II)I"⟩ prog_1_method_20_code 6 (some .int) : Cond) ∈ wsU := List.mem_of_getElem? (i := 54) rfl
set_option maxRecDepth 100000 in
theorem u55 : (.fieldLink "NoiseRing" 11 "NoiseRing" "registers" "[[I" : Cond) ∈ wsU := List.mem_of_getElem? (i := 55) rfl
set_option maxRecDepth 100000 in
theorem u56 : (.fieldLink "NoiseRing" 14 "NoiseRing" "work" "[I" : Cond) ∈ wsU := List.mem_of_getElem? (i := 56) rfl
set_option maxRecDepth 100000 in
theorem u57 : (.fieldLink "NoiseRing" 62 "NoiseRing" "kind" "I" : Cond) ∈ wsU := List.mem_of_getElem? (i := 57) rfl
set_option maxRecDepth 100000 in
theorem u58 : (.fieldLink "NoiseRing" 29 "NoiseRing" "q" "I" : Cond) ∈ wsU := List.mem_of_getElem? (i := 58) rfl
set_option maxRecDepth 100000 in
theorem u59 : (.fieldLink "NoiseRing" 93 "NoiseRing" "z" "I" : Cond) ∈ wsU := List.mem_of_getElem? (i := 59) rfl
set_option maxRecDepth 100000 in
theorem u60 : (.laysFinal "NoiseRing" "NoiseRing" "registers" "[[I" : Cond) ∈ wsU := List.mem_of_getElem? (i := 60) rfl
set_option maxRecDepth 100000 in
theorem u61 : (.soleField "NoiseRing" "registers" : Cond) ∈ wsU := List.mem_of_getElem? (i := 61) rfl
set_option maxRecDepth 100000 in
theorem u62 : (.laysFinal "NoiseRing" "NoiseRing" "work" "[I" : Cond) ∈ wsU := List.mem_of_getElem? (i := 62) rfl
set_option maxRecDepth 100000 in
theorem u63 : (.soleField "NoiseRing" "work" : Cond) ∈ wsU := List.mem_of_getElem? (i := 63) rfl
set_option maxRecDepth 100000 in
theorem u64 : (.lays "NoiseRing" "NoiseRing" "kind" "I" : Cond) ∈ wsU := List.mem_of_getElem? (i := 64) rfl
set_option maxRecDepth 100000 in
theorem u65 : (.soleField "NoiseRing" "kind" : Cond) ∈ wsU := List.mem_of_getElem? (i := 65) rfl
set_option maxRecDepth 100000 in
theorem u66 : (.lays "NoiseRing" "NoiseRing" "q" "I" : Cond) ∈ wsU := List.mem_of_getElem? (i := 66) rfl
set_option maxRecDepth 100000 in
theorem u67 : (.soleField "NoiseRing" "q" : Cond) ∈ wsU := List.mem_of_getElem? (i := 67) rfl
set_option maxRecDepth 100000 in
theorem u68 : (.lays "NoiseRing" "NoiseRing" "z" "I" : Cond) ∈ wsU := List.mem_of_getElem? (i := 68) rfl
set_option maxRecDepth 100000 in
theorem u69 : (.soleField "NoiseRing" "z" : Cond) ∈ wsU := List.mem_of_getElem? (i := 69) rfl
set_option maxRecDepth 100000 in
theorem u70 : (.superclass "NoiseRing" "java/lang/Object" : Cond) ∈ wsU := List.mem_of_getElem? (i := 70) rfl
set_option maxRecDepth 100000 in
theorem u71 : (.arrayClass .int : Cond) ∈ wsU := List.mem_of_getElem? (i := 71) rfl
set_option maxRecDepth 100000 in
theorem u72 : (.methodLink "NoiseRingLaw" 116 ⟨"NoiseRing", "count", "(I)I"⟩ : Cond) ∈ wsU := List.mem_of_getElem? (i := 72) rfl
set_option maxRecDepth 100000 in
theorem u73 : (.instanceMethod ⟨"NoiseRing", "count", "(I)I"⟩ : Cond) ∈ wsU := List.mem_of_getElem? (i := 73) rfl
set_option maxRecDepth 100000 in
theorem u74 : (.selects "NoiseRing" ⟨"NoiseRing", "count", "(I)I"⟩ ⟨"NoiseRing", "count", "(I)I"⟩ : Cond) ∈ wsU := List.mem_of_getElem? (i := 74) rfl
set_option maxRecDepth 100000 in
theorem u75 : (.code ⟨"NoiseRing", "count", "(I)I"⟩ prog_1_method_15_code 2 (some .int) : Cond) ∈ wsU := List.mem_of_getElem? (i := 75) rfl
set_option maxRecDepth 100000 in
theorem u76 : (.methodLink "NoiseRing" 109 ⟨"NoiseRing", "emptyRegisters", "()I"⟩ : Cond) ∈ wsU := List.mem_of_getElem? (i := 76) rfl
set_option maxRecDepth 100000 in
theorem u77 : (.instanceMethod ⟨"NoiseRing", "emptyRegisters", "()I"⟩ : Cond) ∈ wsU := List.mem_of_getElem? (i := 77) rfl
set_option maxRecDepth 100000 in
theorem u78 : (.code ⟨"NoiseRing", "emptyRegisters", "()I"⟩ prog_1_method_26_code 3 (some .int) : Cond) ∈ wsU := List.mem_of_getElem? (i := 78) rfl
set_option maxRecDepth 100000 in
theorem u79 : (.methodLink "NoiseRing" 69 ⟨"NoiseRing", "notZero", "([I)I"⟩ : Cond) ∈ wsU := List.mem_of_getElem? (i := 79) rfl
set_option maxRecDepth 100000 in
theorem u80 : (.static ⟨"NoiseRing", "notZero", "([I)I"⟩ : Cond) ∈ wsU := List.mem_of_getElem? (i := 80) rfl
set_option maxRecDepth 100000 in
theorem u81 : (.code ⟨"NoiseRing", "notZero", "([I)I"⟩ prog_1_method_25_code 3 (some .int) : Cond) ∈ wsU := List.mem_of_getElem? (i := 81) rfl
set_option maxRecDepth 100000 in
theorem u82 : (.methodLink "NoiseRingLaw" 63 ⟨"NoiseRingLaw", "begin", "(LNoiseRing;I[J)I"⟩ : Cond) ∈ wsU := List.mem_of_getElem? (i := 82) rfl
set_option maxRecDepth 100000 in
theorem u83 : (.static ⟨"NoiseRingLaw", "begin", "(LNoiseRing;I[J)I"⟩ : Cond) ∈ wsU := List.mem_of_getElem? (i := 83) rfl
set_option maxRecDepth 100000 in
theorem u84 : (.codeWith ⟨"NoiseRingLaw", "begin", "(LNoiseRing;I[J)I"⟩ method_3_code 4 (some .int) [(0, 9, 12, 13)] : Cond) ∈ wsU := List.mem_of_getElem? (i := 84) rfl
set_option maxRecDepth 100000 in
theorem u85 : (.classLink "NoiseRingLaw" 13 "java/lang/IllegalArgumentException" : Cond) ∈ wsU := List.mem_of_getElem? (i := 85) rfl
set_option maxRecDepth 100000 in
theorem u86 : (.methodLink "NoiseRingLaw" 7 ⟨"NoiseRing", "begin", "(I)I"⟩ : Cond) ∈ wsU := List.mem_of_getElem? (i := 86) rfl
set_option maxRecDepth 100000 in
theorem u87 : (.instanceMethod ⟨"NoiseRing", "begin", "(I)I"⟩ : Cond) ∈ wsU := List.mem_of_getElem? (i := 87) rfl
set_option maxRecDepth 100000 in
theorem u88 : (.selects "NoiseRing" ⟨"NoiseRing", "begin", "(I)I"⟩ ⟨"NoiseRing", "begin", "(I)I"⟩ : Cond) ∈ wsU := List.mem_of_getElem? (i := 88) rfl
set_option maxRecDepth 100000 in
theorem u89 : (.code ⟨"NoiseRing", "begin", "(I)I"⟩ prog_1_method_2_code 4 (some .int) : Cond) ∈ wsU := List.mem_of_getElem? (i := 89) rfl
set_option maxRecDepth 100000 in
theorem u90 : (.methodLink "NoiseRing" 25 ⟨"NoiseRing", "needArgument", "(Z)V"⟩ : Cond) ∈ wsU := List.mem_of_getElem? (i := 90) rfl
set_option maxRecDepth 100000 in
theorem u91 : (.static ⟨"NoiseRing", "needArgument", "(Z)V"⟩ : Cond) ∈ wsU := List.mem_of_getElem? (i := 91) rfl
set_option maxRecDepth 100000 in
theorem u92 : (.code ⟨"NoiseRing", "needArgument", "(Z)V"⟩ prog_1_method_18_code 1 (none : Option Jvm.ClassFile.FieldType) : Cond) ∈ wsU := List.mem_of_getElem? (i := 92) rfl
set_option maxRecDepth 100000 in
theorem u93 : (.classLink "NoiseRing" 122 "java/lang/IllegalArgumentException" : Cond) ∈ wsU := List.mem_of_getElem? (i := 93) rfl
set_option maxRecDepth 100000 in
theorem u94 : (.instantiable "java/lang/IllegalArgumentException" 6 : Cond) ∈ wsU := List.mem_of_getElem? (i := 94) rfl
set_option maxRecDepth 100000 in
theorem u95 : (.selects "java/lang/IllegalArgumentException" ⟨"java/lang/Throwable", "fillInStackTrace", "(I)Ljava/lang/Throwable;"⟩ ⟨"java/lang/Throwable", "fillInStackTrace", "(I)Ljava/lang/Throwable;"⟩ : Cond) ∈ wsU := List.mem_of_getElem? (i := 95) rfl
set_option maxRecDepth 100000 in
theorem u96 : (.selects "java/lang/IllegalArgumentException" ⟨"java/lang/Throwable", "fillInStackTrace", "()Ljava/lang/Throwable;"⟩ ⟨"java/lang/Throwable", "fillInStackTrace", "()Ljava/lang/Throwable;"⟩ : Cond) ∈ wsU := List.mem_of_getElem? (i := 96) rfl
set_option maxRecDepth 100000 in
theorem u97 : (.lays "java/lang/IllegalArgumentException" "java/lang/Throwable" "cause" "Ljava/lang/Throwable;" : Cond) ∈ wsU := List.mem_of_getElem? (i := 97) rfl
set_option maxRecDepth 100000 in
theorem u98 : (.lays "java/lang/Throwable" "java/lang/Throwable" "cause" "Ljava/lang/Throwable;" : Cond) ∈ wsU := List.mem_of_getElem? (i := 98) rfl
set_option maxRecDepth 100000 in
theorem u99 : (.lays "java/lang/IllegalArgumentException" "java/lang/Throwable" "stackTrace" "[Ljava/lang/StackTraceElement;" : Cond) ∈ wsU := List.mem_of_getElem? (i := 99) rfl
set_option maxRecDepth 100000 in
theorem u100 : (.lays "java/lang/Throwable" "java/lang/Throwable" "stackTrace" "[Ljava/lang/StackTraceElement;" : Cond) ∈ wsU := List.mem_of_getElem? (i := 100) rfl
set_option maxRecDepth 100000 in
theorem u101 : (.lays "java/lang/IllegalArgumentException" "java/lang/Throwable" "suppressedExceptions" "Ljava/util/List;" : Cond) ∈ wsU := List.mem_of_getElem? (i := 101) rfl
set_option maxRecDepth 100000 in
theorem u102 : (.lays "java/lang/Throwable" "java/lang/Throwable" "suppressedExceptions" "Ljava/util/List;" : Cond) ∈ wsU := List.mem_of_getElem? (i := 102) rfl
set_option maxRecDepth 100000 in
theorem u103 : (.lays "java/lang/IllegalArgumentException" "java/lang/Throwable" "detailMessage" "Ljava/lang/String;" : Cond) ∈ wsU := List.mem_of_getElem? (i := 103) rfl
set_option maxRecDepth 100000 in
theorem u104 : (.lays "java/lang/Throwable" "java/lang/Throwable" "detailMessage" "Ljava/lang/String;" : Cond) ∈ wsU := List.mem_of_getElem? (i := 104) rfl
set_option maxRecDepth 100000 in
theorem u105 : (.lays "java/lang/IllegalArgumentException" "java/lang/Throwable" "backtrace" "Ljava/lang/Object;" : Cond) ∈ wsU := List.mem_of_getElem? (i := 105) rfl
set_option maxRecDepth 100000 in
theorem u106 : (.lays "java/lang/Throwable" "java/lang/Throwable" "backtrace" "Ljava/lang/Object;" : Cond) ∈ wsU := List.mem_of_getElem? (i := 106) rfl
set_option maxRecDepth 100000 in
theorem u107 : (.fieldLink "java/lang/Throwable" 198 "java/lang/Throwable" "backtrace" "Ljava/lang/Object;" : Cond) ∈ wsU := List.mem_of_getElem? (i := 107) rfl
set_option maxRecDepth 100000 in
theorem u108 : (.superclass "java/lang/Throwable" "java/lang/Object" : Cond) ∈ wsU := List.mem_of_getElem? (i := 108) rfl
set_option maxRecDepth 100000 in
theorem u109 : (.instanceMethod ⟨"java/lang/Throwable", "<init>", "()V"⟩ : Cond) ∈ wsU := List.mem_of_getElem? (i := 109) rfl
set_option maxRecDepth 100000 in
theorem u110 : (.code ⟨"java/lang/Throwable", "<init>", "()V"⟩ prog_10_method_1_code 1 (none : Option Jvm.ClassFile.FieldType) : Cond) ∈ wsU := List.mem_of_getElem? (i := 110) rfl
set_option maxRecDepth 100000 in
theorem u111 : (.methodLink "java/lang/Throwable" 1 ⟨"java/lang/Object", "<init>", "()V"⟩ : Cond) ∈ wsU := List.mem_of_getElem? (i := 111) rfl
set_option maxRecDepth 100000 in
theorem u112 : (.fieldLink "java/lang/Throwable" 13 "java/lang/Throwable" "UNASSIGNED_STACK" "[Ljava/lang/StackTraceElement;" : Cond) ∈ wsU := List.mem_of_getElem? (i := 112) rfl
set_option maxRecDepth 100000 in
theorem u113 : (.fieldLink "java/lang/Throwable" 20 "java/lang/Throwable" "SUPPRESSED_SENTINEL" "Ljava/util/List;" : Cond) ∈ wsU := List.mem_of_getElem? (i := 113) rfl
set_option maxRecDepth 100000 in
theorem u114 : (.methodLink "java/lang/Throwable" 27 ⟨"java/lang/Throwable", "fillInStackTrace", "()Ljava/lang/Throwable;"⟩ : Cond) ∈ wsU := List.mem_of_getElem? (i := 114) rfl
set_option maxRecDepth 100000 in
theorem u115 : (.instanceMethod ⟨"java/lang/Throwable", "fillInStackTrace", "()Ljava/lang/Throwable;"⟩ : Cond) ∈ wsU := List.mem_of_getElem? (i := 115) rfl
set_option maxRecDepth 100000 in
theorem u116 : (.selects "java/util/NoSuchElementException" ⟨"java/lang/Throwable", "fillInStackTrace", "()Ljava/lang/Throwable;"⟩ ⟨"java/lang/Throwable", "fillInStackTrace", "()Ljava/lang/Throwable;"⟩ : Cond) ∈ wsU := List.mem_of_getElem? (i := 116) rfl
set_option maxRecDepth 100000 in
theorem u117 : (.codeSync ⟨"java/lang/Throwable", "fillInStackTrace", "()Ljava/lang/Throwable;"⟩ prog_10_method_18_code 1 (some (.object "java/lang/Throwable")) : Cond) ∈ wsU := List.mem_of_getElem? (i := 117) rfl
set_option maxRecDepth 100000 in
theorem u118 : (.methodLink "java/lang/Throwable" 202 ⟨"java/lang/Throwable", "fillInStackTrace", "(I)Ljava/lang/Throwable;"⟩ : Cond) ∈ wsU := List.mem_of_getElem? (i := 118) rfl
set_option maxRecDepth 100000 in
theorem u119 : (.instanceMethod ⟨"java/lang/Throwable", "fillInStackTrace", "(I)Ljava/lang/Throwable;"⟩ : Cond) ∈ wsU := List.mem_of_getElem? (i := 119) rfl
set_option maxRecDepth 100000 in
theorem u120 : (.instantiable "java/lang/Throwable" 6 : Cond) ∈ wsU := List.mem_of_getElem? (i := 120) rfl
set_option maxRecDepth 100000 in
theorem u121 : (.native ⟨"java/lang/Throwable", "fillInStackTrace", "(I)Ljava/lang/Throwable;"⟩ : Cond) ∈ wsU := List.mem_of_getElem? (i := 121) rfl
set_option maxRecDepth 100000 in
theorem u122 : (.methodLink "NoiseRing" 126 ⟨"java/lang/IllegalArgumentException", "<init>", "(Ljava/lang/String;)V"⟩ : Cond) ∈ wsU := List.mem_of_getElem? (i := 122) rfl
set_option maxRecDepth 100000 in
theorem u123 : (.instanceMethod ⟨"java/lang/IllegalArgumentException", "<init>", "(Ljava/lang/String;)V"⟩ : Cond) ∈ wsU := List.mem_of_getElem? (i := 123) rfl
set_option maxRecDepth 100000 in
theorem u124 : (.code ⟨"java/lang/IllegalArgumentException", "<init>", "(Ljava/lang/String;)V"⟩ prog_5_method_2_code 2 (none : Option Jvm.ClassFile.FieldType) : Cond) ∈ wsU := List.mem_of_getElem? (i := 124) rfl
set_option maxRecDepth 100000 in
theorem u125 : (.methodLink "java/lang/IllegalArgumentException" 7 ⟨"java/lang/RuntimeException", "<init>", "(Ljava/lang/String;)V"⟩ : Cond) ∈ wsU := List.mem_of_getElem? (i := 125) rfl
set_option maxRecDepth 100000 in
theorem u126 : (.instanceMethod ⟨"java/lang/RuntimeException", "<init>", "(Ljava/lang/String;)V"⟩ : Cond) ∈ wsU := List.mem_of_getElem? (i := 126) rfl
set_option maxRecDepth 100000 in
theorem u127 : (.code ⟨"java/lang/RuntimeException", "<init>", "(Ljava/lang/String;)V"⟩ prog_7_method_2_code 2 (none : Option Jvm.ClassFile.FieldType) : Cond) ∈ wsU := List.mem_of_getElem? (i := 127) rfl
set_option maxRecDepth 100000 in
theorem u128 : (.methodLink "java/lang/RuntimeException" 7 ⟨"java/lang/Exception", "<init>", "(Ljava/lang/String;)V"⟩ : Cond) ∈ wsU := List.mem_of_getElem? (i := 128) rfl
set_option maxRecDepth 100000 in
theorem u129 : (.instanceMethod ⟨"java/lang/Exception", "<init>", "(Ljava/lang/String;)V"⟩ : Cond) ∈ wsU := List.mem_of_getElem? (i := 129) rfl
set_option maxRecDepth 100000 in
theorem u130 : (.code ⟨"java/lang/Exception", "<init>", "(Ljava/lang/String;)V"⟩ prog_4_method_2_code 2 (none : Option Jvm.ClassFile.FieldType) : Cond) ∈ wsU := List.mem_of_getElem? (i := 130) rfl
set_option maxRecDepth 100000 in
theorem u131 : (.methodLink "java/lang/Exception" 7 ⟨"java/lang/Throwable", "<init>", "(Ljava/lang/String;)V"⟩ : Cond) ∈ wsU := List.mem_of_getElem? (i := 131) rfl
set_option maxRecDepth 100000 in
theorem u132 : (.instanceMethod ⟨"java/lang/Throwable", "<init>", "(Ljava/lang/String;)V"⟩ : Cond) ∈ wsU := List.mem_of_getElem? (i := 132) rfl
set_option maxRecDepth 100000 in
theorem u133 : (.code ⟨"java/lang/Throwable", "<init>", "(Ljava/lang/String;)V"⟩ prog_10_method_2_code 2 (none : Option Jvm.ClassFile.FieldType) : Cond) ∈ wsU := List.mem_of_getElem? (i := 133) rfl
set_option maxRecDepth 100000 in
theorem u134 : (.fieldLink "java/lang/Throwable" 31 "java/lang/Throwable" "detailMessage" "Ljava/lang/String;" : Cond) ∈ wsU := List.mem_of_getElem? (i := 134) rfl
set_option maxRecDepth 100000 in
theorem u135 : (.fieldLink "java/lang/Throwable" 7 "java/lang/Throwable" "cause" "Ljava/lang/Throwable;" : Cond) ∈ wsU := List.mem_of_getElem? (i := 135) rfl
set_option maxRecDepth 100000 in
theorem u136 : (.fieldLink "java/lang/Throwable" 17 "java/lang/Throwable" "stackTrace" "[Ljava/lang/StackTraceElement;" : Cond) ∈ wsU := List.mem_of_getElem? (i := 136) rfl
set_option maxRecDepth 100000 in
theorem u137 : (.fieldLink "java/lang/Throwable" 24 "java/lang/Throwable" "suppressedExceptions" "Ljava/util/List;" : Cond) ∈ wsU := List.mem_of_getElem? (i := 137) rfl
set_option maxRecDepth 100000 in
theorem u138 : (.soleField "java/lang/Throwable" "backtrace" : Cond) ∈ wsU := List.mem_of_getElem? (i := 138) rfl
set_option maxRecDepth 100000 in
theorem u139 : (.soleField "java/lang/Throwable" "detailMessage" : Cond) ∈ wsU := List.mem_of_getElem? (i := 139) rfl
set_option maxRecDepth 100000 in
theorem u140 : (.soleField "java/lang/Throwable" "cause" : Cond) ∈ wsU := List.mem_of_getElem? (i := 140) rfl
set_option maxRecDepth 100000 in
theorem u141 : (.soleField "java/lang/Throwable" "stackTrace" : Cond) ∈ wsU := List.mem_of_getElem? (i := 141) rfl
set_option maxRecDepth 100000 in
theorem u142 : (.lays "java/lang/IllegalArgumentException" "java/lang/Throwable" "depth" "I" : Cond) ∈ wsU := List.mem_of_getElem? (i := 142) rfl
set_option maxRecDepth 100000 in
theorem u143 : (.soleField "java/lang/Throwable" "depth" : Cond) ∈ wsU := List.mem_of_getElem? (i := 143) rfl
set_option maxRecDepth 100000 in
theorem u144 : (.soleField "java/lang/Throwable" "suppressedExceptions" : Cond) ∈ wsU := List.mem_of_getElem? (i := 144) rfl
set_option maxRecDepth 100000 in
theorem u145 : (.superclass "java/lang/IllegalArgumentException" "java/lang/RuntimeException" : Cond) ∈ wsU := List.mem_of_getElem? (i := 145) rfl
set_option maxRecDepth 100000 in
theorem u146 : (.arrayClass .byte : Cond) ∈ wsU := List.mem_of_getElem? (i := 146) rfl
set_option maxRecDepth 100000 in
theorem u147 : (.methodLink "NoiseRingLaw" 73 ⟨"NoiseRingLaw", "set", "(LNoiseRing;III[J)I"⟩ : Cond) ∈ wsU := List.mem_of_getElem? (i := 147) rfl
set_option maxRecDepth 100000 in
theorem u148 : (.static ⟨"NoiseRingLaw", "set", "(LNoiseRing;III[J)I"⟩ : Cond) ∈ wsU := List.mem_of_getElem? (i := 148) rfl
set_option maxRecDepth 100000 in
theorem u149 : (.codeWith ⟨"NoiseRingLaw", "set", "(LNoiseRing;III[J)I"⟩ method_4_code 6 (some .int) [(0, 12, 15, 19)] : Cond) ∈ wsU := List.mem_of_getElem? (i := 149) rfl
set_option maxRecDepth 100000 in
theorem u150 : (.classLink "NoiseRingLaw" 19 "java/util/NoSuchElementException" : Cond) ∈ wsU := List.mem_of_getElem? (i := 150) rfl
set_option maxRecDepth 100000 in
theorem u151 : (.methodLink "NoiseRingLaw" 15 ⟨"NoiseRing", "set", "(III)I"⟩ : Cond) ∈ wsU := List.mem_of_getElem? (i := 151) rfl
set_option maxRecDepth 100000 in
theorem u152 : (.instanceMethod ⟨"NoiseRing", "set", "(III)I"⟩ : Cond) ∈ wsU := List.mem_of_getElem? (i := 152) rfl
set_option maxRecDepth 100000 in
theorem u153 : (.selects "NoiseRing" ⟨"NoiseRing", "set", "(III)I"⟩ ⟨"NoiseRing", "set", "(III)I"⟩ : Cond) ∈ wsU := List.mem_of_getElem? (i := 153) rfl
set_option maxRecDepth 100000 in
theorem u154 : (.code ⟨"NoiseRing", "set", "(III)I"⟩ prog_1_method_3_code 5 (some .int) : Cond) ∈ wsU := List.mem_of_getElem? (i := 154) rfl
set_option maxRecDepth 100000 in
theorem u155 : (.methodLink "NoiseRing" 33 ⟨"NoiseRing", "needRegister", "(I)V"⟩ : Cond) ∈ wsU := List.mem_of_getElem? (i := 155) rfl
set_option maxRecDepth 100000 in
theorem u156 : (.static ⟨"NoiseRing", "needRegister", "(I)V"⟩ : Cond) ∈ wsU := List.mem_of_getElem? (i := 156) rfl
set_option maxRecDepth 100000 in
theorem u157 : (.code ⟨"NoiseRing", "needRegister", "(I)V"⟩ prog_1_method_16_code 1 (none : Option Jvm.ClassFile.FieldType) : Cond) ∈ wsU := List.mem_of_getElem? (i := 157) rfl
set_option maxRecDepth 100000 in
theorem u158 : (.classLink "NoiseRing" 113 "java/util/NoSuchElementException" : Cond) ∈ wsU := List.mem_of_getElem? (i := 158) rfl
set_option maxRecDepth 100000 in
theorem u159 : (.instantiable "java/util/NoSuchElementException" 6 : Cond) ∈ wsU := List.mem_of_getElem? (i := 159) rfl
set_option maxRecDepth 100000 in
theorem u160 : (.selects "java/util/NoSuchElementException" ⟨"java/lang/Throwable", "fillInStackTrace", "(I)Ljava/lang/Throwable;"⟩ ⟨"java/lang/Throwable", "fillInStackTrace", "(I)Ljava/lang/Throwable;"⟩ : Cond) ∈ wsU := List.mem_of_getElem? (i := 160) rfl
set_option maxRecDepth 100000 in
theorem u161 : (.lays "java/util/NoSuchElementException" "java/lang/Throwable" "cause" "Ljava/lang/Throwable;" : Cond) ∈ wsU := List.mem_of_getElem? (i := 161) rfl
set_option maxRecDepth 100000 in
theorem u162 : (.lays "java/util/NoSuchElementException" "java/lang/Throwable" "stackTrace" "[Ljava/lang/StackTraceElement;" : Cond) ∈ wsU := List.mem_of_getElem? (i := 162) rfl
set_option maxRecDepth 100000 in
theorem u163 : (.lays "java/util/NoSuchElementException" "java/lang/Throwable" "suppressedExceptions" "Ljava/util/List;" : Cond) ∈ wsU := List.mem_of_getElem? (i := 163) rfl
set_option maxRecDepth 100000 in
theorem u164 : (.lays "java/util/NoSuchElementException" "java/lang/Throwable" "detailMessage" "Ljava/lang/String;" : Cond) ∈ wsU := List.mem_of_getElem? (i := 164) rfl
set_option maxRecDepth 100000 in
theorem u165 : (.lays "java/util/NoSuchElementException" "java/lang/Throwable" "backtrace" "Ljava/lang/Object;" : Cond) ∈ wsU := List.mem_of_getElem? (i := 165) rfl
set_option maxRecDepth 100000 in
theorem u166 : (.methodLink "NoiseRing" 117 ⟨"java/util/NoSuchElementException", "<init>", "(Ljava/lang/String;)V"⟩ : Cond) ∈ wsU := List.mem_of_getElem? (i := 166) rfl
set_option maxRecDepth 100000 in
theorem u167 : (.instanceMethod ⟨"java/util/NoSuchElementException", "<init>", "(Ljava/lang/String;)V"⟩ : Cond) ∈ wsU := List.mem_of_getElem? (i := 167) rfl
set_option maxRecDepth 100000 in
theorem u168 : (.code ⟨"java/util/NoSuchElementException", "<init>", "(Ljava/lang/String;)V"⟩ prog_11_method_4_code 2 (none : Option Jvm.ClassFile.FieldType) : Cond) ∈ wsU := List.mem_of_getElem? (i := 168) rfl
set_option maxRecDepth 100000 in
theorem u169 : (.methodLink "java/util/NoSuchElementException" 13 ⟨"java/lang/RuntimeException", "<init>", "(Ljava/lang/String;)V"⟩ : Cond) ∈ wsU := List.mem_of_getElem? (i := 169) rfl
set_option maxRecDepth 100000 in
theorem u170 : (.lays "java/util/NoSuchElementException" "java/lang/Throwable" "depth" "I" : Cond) ∈ wsU := List.mem_of_getElem? (i := 170) rfl
set_option maxRecDepth 100000 in
theorem u171 : (.superclass "java/util/NoSuchElementException" "java/lang/RuntimeException" : Cond) ∈ wsU := List.mem_of_getElem? (i := 171) rfl
set_option maxRecDepth 100000 in
theorem u172 : (.methodLink "NoiseRing" 36 ⟨"NoiseRing", "needPlace", "(I)V"⟩ : Cond) ∈ wsU := List.mem_of_getElem? (i := 172) rfl
set_option maxRecDepth 100000 in
theorem u173 : (.static ⟨"NoiseRing", "needPlace", "(I)V"⟩ : Cond) ∈ wsU := List.mem_of_getElem? (i := 173) rfl
set_option maxRecDepth 100000 in
theorem u174 : (.code ⟨"NoiseRing", "needPlace", "(I)V"⟩ prog_1_method_17_code 1 (none : Option Jvm.ClassFile.FieldType) : Cond) ∈ wsU := List.mem_of_getElem? (i := 174) rfl
set_option maxRecDepth 100000 in
theorem u175 : (.methodLink "NoiseRing" 39 ⟨"java/lang/Math", "floorMod", "(II)I"⟩ : Cond) ∈ wsU := List.mem_of_getElem? (i := 175) rfl
set_option maxRecDepth 100000 in
theorem u176 : (.static ⟨"java/lang/Math", "floorMod", "(II)I"⟩ : Cond) ∈ wsU := List.mem_of_getElem? (i := 176) rfl
set_option maxRecDepth 100000 in
theorem u177 : (.code ⟨"java/lang/Math", "floorMod", "(II)I"⟩ prog_6_method_50_code 3 (some .int) : Cond) ∈ wsU := List.mem_of_getElem? (i := 177) rfl
set_option maxRecDepth 100000 in
theorem u178 : (.methodLink "NoiseRingLaw" 77 ⟨"NoiseRingLaw", "get", "(LNoiseRing;II[J)I"⟩ : Cond) ∈ wsU := List.mem_of_getElem? (i := 178) rfl
set_option maxRecDepth 100000 in
theorem u179 : (.static ⟨"NoiseRingLaw", "get", "(LNoiseRing;II[J)I"⟩ : Cond) ∈ wsU := List.mem_of_getElem? (i := 179) rfl
set_option maxRecDepth 100000 in
theorem u180 : (.codeWith ⟨"NoiseRingLaw", "get", "(LNoiseRing;II[J)I"⟩ method_5_code 5 (some .int) [(0, 10, 13, 19)] : Cond) ∈ wsU := List.mem_of_getElem? (i := 180) rfl
set_option maxRecDepth 100000 in
theorem u181 : (.methodLink "NoiseRingLaw" 21 ⟨"NoiseRing", "get", "(II)I"⟩ : Cond) ∈ wsU := List.mem_of_getElem? (i := 181) rfl
set_option maxRecDepth 100000 in
theorem u182 : (.instanceMethod ⟨"NoiseRing", "get", "(II)I"⟩ : Cond) ∈ wsU := List.mem_of_getElem? (i := 182) rfl
set_option maxRecDepth 100000 in
theorem u183 : (.selects "NoiseRing" ⟨"NoiseRing", "get", "(II)I"⟩ ⟨"NoiseRing", "get", "(II)I"⟩ : Cond) ∈ wsU := List.mem_of_getElem? (i := 183) rfl
set_option maxRecDepth 100000 in
theorem u184 : (.code ⟨"NoiseRing", "get", "(II)I"⟩ prog_1_method_4_code 3 (some .int) : Cond) ∈ wsU := List.mem_of_getElem? (i := 184) rfl
set_option maxRecDepth 100000 in
theorem u185 : (.methodLink "NoiseRingLaw" 81 ⟨"NoiseRingLaw", "join", "(LNoiseRing;IIII[J)I"⟩ : Cond) ∈ wsU := List.mem_of_getElem? (i := 185) rfl
set_option maxRecDepth 100000 in
theorem u186 : (.static ⟨"NoiseRingLaw", "join", "(LNoiseRing;IIII[J)I"⟩ : Cond) ∈ wsU := List.mem_of_getElem? (i := 186) rfl
set_option maxRecDepth 100000 in
theorem u187 : (.codeWith ⟨"NoiseRingLaw", "join", "(LNoiseRing;IIII[J)I"⟩ method_6_code 7 (some .int) [(0, 14, 17, 19), (0, 14, 21, 13)] : Cond) ∈ wsU := List.mem_of_getElem? (i := 187) rfl
set_option maxRecDepth 100000 in
theorem u188 : (.methodLink "NoiseRingLaw" 25 ⟨"NoiseRing", "join", "(IIII)I"⟩ : Cond) ∈ wsU := List.mem_of_getElem? (i := 188) rfl
set_option maxRecDepth 100000 in
theorem u189 : (.instanceMethod ⟨"NoiseRing", "join", "(IIII)I"⟩ : Cond) ∈ wsU := List.mem_of_getElem? (i := 189) rfl
set_option maxRecDepth 100000 in
theorem u190 : (.selects "NoiseRing" ⟨"NoiseRing", "join", "(IIII)I"⟩ ⟨"NoiseRing", "join", "(IIII)I"⟩ : Cond) ∈ wsU := List.mem_of_getElem? (i := 190) rfl
set_option maxRecDepth 100000 in
theorem u191 : (.code ⟨"NoiseRing", "join", "(IIII)I"⟩ prog_1_method_5_code 6 (some .int) : Cond) ∈ wsU := List.mem_of_getElem? (i := 191) rfl
set_option maxRecDepth 100000 in
theorem u192 : (.methodLink "NoiseRing" 45 ⟨"NoiseRing", "joined", "(I[I[II)I"⟩ : Cond) ∈ wsU := List.mem_of_getElem? (i := 192) rfl
set_option maxRecDepth 100000 in
theorem u193 : (.instanceMethod ⟨"NoiseRing", "joined", "(I[I[II)I"⟩ : Cond) ∈ wsU := List.mem_of_getElem? (i := 193) rfl
set_option maxRecDepth 100000 in
theorem u194 : (.code ⟨"NoiseRing", "joined", "(I[I[II)I"⟩ prog_1_method_21_code 5 (some .int) : Cond) ∈ wsU := List.mem_of_getElem? (i := 194) rfl
set_option maxRecDepth 100000 in
theorem u195 : (.methodLink "NoiseRing" 127 ⟨"NoiseRing", "productAt", "([I[II)I"⟩ : Cond) ∈ wsU := List.mem_of_getElem? (i := 195) rfl
set_option maxRecDepth 100000 in
theorem u196 : (.instanceMethod ⟨"NoiseRing", "productAt", "([I[II)I"⟩ : Cond) ∈ wsU := List.mem_of_getElem? (i := 196) rfl
set_option maxRecDepth 100000 in
theorem u197 : (.code ⟨"NoiseRing", "productAt", "([I[II)I"⟩ prog_1_method_22_code 7 (some .int) : Cond) ∈ wsU := List.mem_of_getElem? (i := 197) rfl
set_option maxRecDepth 100000 in
theorem u198 : (.methodLink "NoiseRing" 131 ⟨"java/lang/Math", "floorMod", "(JJ)J"⟩ : Cond) ∈ wsU := List.mem_of_getElem? (i := 198) rfl
set_option maxRecDepth 100000 in
theorem u199 : (.static ⟨"java/lang/Math", "floorMod", "(JJ)J"⟩ : Cond) ∈ wsU := List.mem_of_getElem? (i := 199) rfl
set_option maxRecDepth 100000 in
theorem u200 : (.code ⟨"java/lang/Math", "floorMod", "(JJ)J"⟩ prog_6_method_52_code 6 (some .long) : Cond) ∈ wsU := List.mem_of_getElem? (i := 200) rfl
set_option maxRecDepth 100000 in
theorem u201 : (.methodLink "NoiseRing" 49 ⟨"java/lang/System", "arraycopy", "(Ljava/lang/Object;ILjava/lang/Object;II)V"⟩ : Cond) ∈ wsU := List.mem_of_getElem? (i := 201) rfl
set_option maxRecDepth 100000 in
theorem u202 : (.static ⟨"java/lang/System", "arraycopy", "(Ljava/lang/Object;ILjava/lang/Object;II)V"⟩ : Cond) ∈ wsU := List.mem_of_getElem? (i := 202) rfl
set_option maxRecDepth 100000 in
theorem u203 : (.native ⟨"java/lang/System", "arraycopy", "(Ljava/lang/Object;ILjava/lang/Object;II)V"⟩ : Cond) ∈ wsU := List.mem_of_getElem? (i := 203) rfl
set_option maxRecDepth 100000 in
theorem u204 : (.methodLink "NoiseRing" 55 ⟨"NoiseRing", "greatestSize", "([I)I"⟩ : Cond) ∈ wsU := List.mem_of_getElem? (i := 204) rfl
set_option maxRecDepth 100000 in
theorem u205 : (.instanceMethod ⟨"NoiseRing", "greatestSize", "([I)I"⟩ : Cond) ∈ wsU := List.mem_of_getElem? (i := 205) rfl
set_option maxRecDepth 100000 in
theorem u206 : (.code ⟨"NoiseRing", "greatestSize", "([I)I"⟩ prog_1_method_24_code 4 (some .int) : Cond) ∈ wsU := List.mem_of_getElem? (i := 206) rfl
set_option maxRecDepth 100000 in
theorem u207 : (.methodLink "NoiseRing" 85 ⟨"NoiseRing", "centredSize", "(I)I"⟩ : Cond) ∈ wsU := List.mem_of_getElem? (i := 207) rfl
set_option maxRecDepth 100000 in
theorem u208 : (.instanceMethod ⟨"NoiseRing", "centredSize", "(I)I"⟩ : Cond) ∈ wsU := List.mem_of_getElem? (i := 208) rfl
set_option maxRecDepth 100000 in
theorem u209 : (.code ⟨"NoiseRing", "centredSize", "(I)I"⟩ prog_1_method_23_code 2 (some .int) : Cond) ∈ wsU := List.mem_of_getElem? (i := 209) rfl
set_option maxRecDepth 100000 in
theorem u210 : (.methodLink "NoiseRing" 134 ⟨"java/lang/Math", "min", "(II)I"⟩ : Cond) ∈ wsU := List.mem_of_getElem? (i := 210) rfl
set_option maxRecDepth 100000 in
theorem u211 : (.static ⟨"java/lang/Math", "min", "(II)I"⟩ : Cond) ∈ wsU := List.mem_of_getElem? (i := 211) rfl
set_option maxRecDepth 100000 in
theorem u212 : (.code ⟨"java/lang/Math", "min", "(II)I"⟩ prog_6_method_69_code 2 (some .int) : Cond) ∈ wsU := List.mem_of_getElem? (i := 212) rfl
set_option maxRecDepth 100000 in
theorem u213 : (.methodLink "NoiseRing" 137 ⟨"java/lang/Math", "max", "(II)I"⟩ : Cond) ∈ wsU := List.mem_of_getElem? (i := 213) rfl
set_option maxRecDepth 100000 in
theorem u214 : (.static ⟨"java/lang/Math", "max", "(II)I"⟩ : Cond) ∈ wsU := List.mem_of_getElem? (i := 214) rfl
set_option maxRecDepth 100000 in
theorem u215 : (.code ⟨"java/lang/Math", "max", "(II)I"⟩ prog_6_method_65_code 2 (some .int) : Cond) ∈ wsU := List.mem_of_getElem? (i := 215) rfl
set_option maxRecDepth 100000 in
theorem u216 : (.methodLink "NoiseRingLaw" 85 ⟨"NoiseRingLaw", "round", "(LNoiseRing;IIII[J)I"⟩ : Cond) ∈ wsU := List.mem_of_getElem? (i := 216) rfl
set_option maxRecDepth 100000 in
theorem u217 : (.static ⟨"NoiseRingLaw", "round", "(LNoiseRing;IIII[J)I"⟩ : Cond) ∈ wsU := List.mem_of_getElem? (i := 217) rfl
set_option maxRecDepth 100000 in
theorem u218 : (.codeWith ⟨"NoiseRingLaw", "round", "(LNoiseRing;IIII[J)I"⟩ method_7_code 7 (some .int) [(0, 14, 17, 19), (0, 14, 21, 13)] : Cond) ∈ wsU := List.mem_of_getElem? (i := 218) rfl
set_option maxRecDepth 100000 in
theorem u219 : (.methodLink "NoiseRingLaw" 29 ⟨"NoiseRing", "round", "(IIII)I"⟩ : Cond) ∈ wsU := List.mem_of_getElem? (i := 219) rfl
set_option maxRecDepth 100000 in
theorem u220 : (.instanceMethod ⟨"NoiseRing", "round", "(IIII)I"⟩ : Cond) ∈ wsU := List.mem_of_getElem? (i := 220) rfl
set_option maxRecDepth 100000 in
theorem u221 : (.selects "NoiseRing" ⟨"NoiseRing", "round", "(IIII)I"⟩ ⟨"NoiseRing", "round", "(IIII)I"⟩ : Cond) ∈ wsU := List.mem_of_getElem? (i := 221) rfl
set_option maxRecDepth 100000 in
theorem u222 : (.code ⟨"NoiseRing", "round", "(IIII)I"⟩ prog_1_method_6_code 6 (some .int) : Cond) ∈ wsU := List.mem_of_getElem? (i := 222) rfl
set_option maxRecDepth 100000 in
theorem u223 : (.fieldLink "NoiseRing" 59 "NoiseRing" "MOST_BITS" "[I" : Cond) ∈ wsU := List.mem_of_getElem? (i := 223) rfl
set_option maxRecDepth 100000 in
theorem u224 : (.methodLink "NoiseRing" 65 ⟨"NoiseRing", "rounded", "(III)I"⟩ : Cond) ∈ wsU := List.mem_of_getElem? (i := 224) rfl
set_option maxRecDepth 100000 in
theorem u225 : (.instanceMethod ⟨"NoiseRing", "rounded", "(III)I"⟩ : Cond) ∈ wsU := List.mem_of_getElem? (i := 225) rfl
set_option maxRecDepth 100000 in
theorem u226 : (.code ⟨"NoiseRing", "rounded", "(III)I"⟩ prog_1_method_27_code 4 (some .int) : Cond) ∈ wsU := List.mem_of_getElem? (i := 226) rfl
set_option maxRecDepth 100000 in
theorem u227 : (.methodLink "NoiseRing" 140 ⟨"NoiseRing", "fewerBits", "(II)I"⟩ : Cond) ∈ wsU := List.mem_of_getElem? (i := 227) rfl
set_option maxRecDepth 100000 in
theorem u228 : (.instanceMethod ⟨"NoiseRing", "fewerBits", "(II)I"⟩ : Cond) ∈ wsU := List.mem_of_getElem? (i := 228) rfl
set_option maxRecDepth 100000 in
theorem u229 : (.code ⟨"NoiseRing", "fewerBits", "(II)I"⟩ prog_1_method_29_code 5 (some .int) : Cond) ∈ wsU := List.mem_of_getElem? (i := 229) rfl
set_option maxRecDepth 100000 in
theorem u230 : (.constantLong "NoiseRing" 152 (2 : Int64) : Cond) ∈ wsU := List.mem_of_getElem? (i := 230) rfl
set_option maxRecDepth 100000 in
theorem u231 : (.methodLink "NoiseRing" 143 ⟨"NoiseRing", "lowMask", "(I)I"⟩ : Cond) ∈ wsU := List.mem_of_getElem? (i := 231) rfl
set_option maxRecDepth 100000 in
theorem u232 : (.static ⟨"NoiseRing", "lowMask", "(I)I"⟩ : Cond) ∈ wsU := List.mem_of_getElem? (i := 232) rfl
set_option maxRecDepth 100000 in
theorem u233 : (.code ⟨"NoiseRing", "lowMask", "(I)I"⟩ prog_1_method_28_code 1 (some .int) : Cond) ∈ wsU := List.mem_of_getElem? (i := 233) rfl
set_option maxRecDepth 100000 in
theorem u234 : (.methodLink "NoiseRing" 146 ⟨"NoiseRing", "moreBits", "(II)I"⟩ : Cond) ∈ wsU := List.mem_of_getElem? (i := 234) rfl
set_option maxRecDepth 100000 in
theorem u235 : (.instanceMethod ⟨"NoiseRing", "moreBits", "(II)I"⟩ : Cond) ∈ wsU := List.mem_of_getElem? (i := 235) rfl
set_option maxRecDepth 100000 in
theorem u236 : (.code ⟨"NoiseRing", "moreBits", "(II)I"⟩ prog_1_method_30_code 3 (some .int) : Cond) ∈ wsU := List.mem_of_getElem? (i := 236) rfl
set_option maxRecDepth 100000 in
theorem u237 : (.methodLink "NoiseRing" 149 ⟨"NoiseRing", "lowBits", "(II)I"⟩ : Cond) ∈ wsU := List.mem_of_getElem? (i := 237) rfl
set_option maxRecDepth 100000 in
theorem u238 : (.static ⟨"NoiseRing", "lowBits", "(II)I"⟩ : Cond) ∈ wsU := List.mem_of_getElem? (i := 238) rfl
set_option maxRecDepth 100000 in
theorem u239 : (.code ⟨"NoiseRing", "lowBits", "(II)I"⟩ prog_1_method_31_code 3 (some .int) : Cond) ∈ wsU := List.mem_of_getElem? (i := 239) rfl
set_option maxRecDepth 100000 in
theorem u240 : (.methodLink "NoiseRingLaw" 88 ⟨"NoiseRingLaw", "part", "(LNoiseRing;IIIZ[J)I"⟩ : Cond) ∈ wsU := List.mem_of_getElem? (i := 240) rfl
set_option maxRecDepth 100000 in
theorem u241 : (.static ⟨"NoiseRingLaw", "part", "(LNoiseRing;IIIZ[J)I"⟩ : Cond) ∈ wsU := List.mem_of_getElem? (i := 241) rfl
set_option maxRecDepth 100000 in
theorem u242 : (.codeWith ⟨"NoiseRingLaw", "part", "(LNoiseRing;IIIZ[J)I"⟩ method_8_code 7 (some .int) [(0, 14, 17, 19), (0, 14, 21, 13)] : Cond) ∈ wsU := List.mem_of_getElem? (i := 242) rfl
set_option maxRecDepth 100000 in
theorem u243 : (.methodLink "NoiseRingLaw" 32 ⟨"NoiseRing", "part", "(IIIZ)I"⟩ : Cond) ∈ wsU := List.mem_of_getElem? (i := 243) rfl
set_option maxRecDepth 100000 in
theorem u244 : (.instanceMethod ⟨"NoiseRing", "part", "(IIIZ)I"⟩ : Cond) ∈ wsU := List.mem_of_getElem? (i := 244) rfl
set_option maxRecDepth 100000 in
theorem u245 : (.selects "NoiseRing" ⟨"NoiseRing", "part", "(IIIZ)I"⟩ ⟨"NoiseRing", "part", "(IIIZ)I"⟩ : Cond) ∈ wsU := List.mem_of_getElem? (i := 245) rfl
set_option maxRecDepth 100000 in
theorem u246 : (.code ⟨"NoiseRing", "part", "(IIIZ)I"⟩ prog_1_method_7_code 7 (some .int) : Cond) ∈ wsU := List.mem_of_getElem? (i := 246) rfl
set_option maxRecDepth 100000 in
theorem u247 : (.methodLink "NoiseRing" 72 ⟨"NoiseRing", "isAlpha", "(I)Z"⟩ : Cond) ∈ wsU := List.mem_of_getElem? (i := 247) rfl
set_option maxRecDepth 100000 in
theorem u248 : (.instanceMethod ⟨"NoiseRing", "isAlpha", "(I)Z"⟩ : Cond) ∈ wsU := List.mem_of_getElem? (i := 248) rfl
set_option maxRecDepth 100000 in
theorem u249 : (.code ⟨"NoiseRing", "isAlpha", "(I)Z"⟩ prog_1_method_32_code 2 (some .boolean) : Cond) ∈ wsU := List.mem_of_getElem? (i := 249) rfl
set_option maxRecDepth 100000 in
theorem u250 : (.methodLink "NoiseRing" 76 ⟨"NoiseRing", "partOf", "(II)I"⟩ : Cond) ∈ wsU := List.mem_of_getElem? (i := 250) rfl
set_option maxRecDepth 100000 in
theorem u251 : (.instanceMethod ⟨"NoiseRing", "partOf", "(II)I"⟩ : Cond) ∈ wsU := List.mem_of_getElem? (i := 251) rfl
set_option maxRecDepth 100000 in
theorem u252 : (.code ⟨"NoiseRing", "partOf", "(II)I"⟩ prog_1_method_35_code 4 (some .int) : Cond) ∈ wsU := List.mem_of_getElem? (i := 252) rfl
set_option maxRecDepth 100000 in
theorem u253 : (.methodLink "NoiseRing" 154 ⟨"NoiseRing", "nearRest", "(II)I"⟩ : Cond) ∈ wsU := List.mem_of_getElem? (i := 253) rfl
set_option maxRecDepth 100000 in
theorem u254 : (.static ⟨"NoiseRing", "nearRest", "(II)I"⟩ : Cond) ∈ wsU := List.mem_of_getElem? (i := 254) rfl
set_option maxRecDepth 100000 in
theorem u255 : (.code ⟨"NoiseRing", "nearRest", "(II)I"⟩ prog_1_method_33_code 3 (some .int) : Cond) ∈ wsU := List.mem_of_getElem? (i := 255) rfl
set_option maxRecDepth 100000 in
theorem u256 : (.methodLink "NoiseRing" 79 ⟨"NoiseRing", "restOf", "(II)I"⟩ : Cond) ∈ wsU := List.mem_of_getElem? (i := 256) rfl
set_option maxRecDepth 100000 in
theorem u257 : (.instanceMethod ⟨"NoiseRing", "restOf", "(II)I"⟩ : Cond) ∈ wsU := List.mem_of_getElem? (i := 257) rfl
set_option maxRecDepth 100000 in
theorem u258 : (.code ⟨"NoiseRing", "restOf", "(II)I"⟩ prog_1_method_34_code 4 (some .int) : Cond) ∈ wsU := List.mem_of_getElem? (i := 258) rfl
set_option maxRecDepth 100000 in
theorem u259 : (.methodLink "NoiseRingLaw" 92 ⟨"NoiseRingLaw", "hint", "(LNoiseRing;IIII[J)I"⟩ : Cond) ∈ wsU := List.mem_of_getElem? (i := 259) rfl
set_option maxRecDepth 100000 in
theorem u260 : (.static ⟨"NoiseRingLaw", "hint", "(LNoiseRing;IIII[J)I"⟩ : Cond) ∈ wsU := List.mem_of_getElem? (i := 260) rfl
set_option maxRecDepth 100000 in
theorem u261 : (.codeWith ⟨"NoiseRingLaw", "hint", "(LNoiseRing;IIII[J)I"⟩ method_9_code 7 (some .int) [(0, 14, 17, 19), (0, 14, 21, 13)] : Cond) ∈ wsU := List.mem_of_getElem? (i := 261) rfl
set_option maxRecDepth 100000 in
theorem u262 : (.methodLink "NoiseRingLaw" 36 ⟨"NoiseRing", "hint", "(IIII)I"⟩ : Cond) ∈ wsU := List.mem_of_getElem? (i := 262) rfl
set_option maxRecDepth 100000 in
theorem u263 : (.instanceMethod ⟨"NoiseRing", "hint", "(IIII)I"⟩ : Cond) ∈ wsU := List.mem_of_getElem? (i := 263) rfl
set_option maxRecDepth 100000 in
theorem u264 : (.selects "NoiseRing" ⟨"NoiseRing", "hint", "(IIII)I"⟩ ⟨"NoiseRing", "hint", "(IIII)I"⟩ : Cond) ∈ wsU := List.mem_of_getElem? (i := 264) rfl
set_option maxRecDepth 100000 in
theorem u265 : (.code ⟨"NoiseRing", "hint", "(IIII)I"⟩ prog_1_method_8_code 8 (some .int) : Cond) ∈ wsU := List.mem_of_getElem? (i := 265) rfl
set_option maxRecDepth 100000 in
theorem u266 : (.methodLink "NoiseRingLaw" 95 ⟨"NoiseRingLaw", "use", "(LNoiseRing;IIII[J)I"⟩ : Cond) ∈ wsU := List.mem_of_getElem? (i := 266) rfl
set_option maxRecDepth 100000 in
theorem u267 : (.static ⟨"NoiseRingLaw", "use", "(LNoiseRing;IIII[J)I"⟩ : Cond) ∈ wsU := List.mem_of_getElem? (i := 267) rfl
set_option maxRecDepth 100000 in
theorem u268 : (.codeWith ⟨"NoiseRingLaw", "use", "(LNoiseRing;IIII[J)I"⟩ method_10_code 7 (some .int) [(0, 14, 17, 19), (0, 14, 21, 13)] : Cond) ∈ wsU := List.mem_of_getElem? (i := 268) rfl
set_option maxRecDepth 100000 in
theorem u269 : (.methodLink "NoiseRingLaw" 39 ⟨"NoiseRing", "use", "(IIII)I"⟩ : Cond) ∈ wsU := List.mem_of_getElem? (i := 269) rfl
set_option maxRecDepth 100000 in
theorem u270 : (.instanceMethod ⟨"NoiseRing", "use", "(IIII)I"⟩ : Cond) ∈ wsU := List.mem_of_getElem? (i := 270) rfl
set_option maxRecDepth 100000 in
theorem u271 : (.selects "NoiseRing" ⟨"NoiseRing", "use", "(IIII)I"⟩ ⟨"NoiseRing", "use", "(IIII)I"⟩ : Cond) ∈ wsU := List.mem_of_getElem? (i := 271) rfl
set_option maxRecDepth 100000 in
theorem u272 : (.code ⟨"NoiseRing", "use", "(IIII)I"⟩ prog_1_method_9_code 10 (some .int) : Cond) ∈ wsU := List.mem_of_getElem? (i := 272) rfl
set_option maxRecDepth 100000 in
theorem u273 : (.methodLink "NoiseRing" 82 ⟨"NoiseRing", "movedPart", "(II)I"⟩ : Cond) ∈ wsU := List.mem_of_getElem? (i := 273) rfl
set_option maxRecDepth 100000 in
theorem u274 : (.instanceMethod ⟨"NoiseRing", "movedPart", "(II)I"⟩ : Cond) ∈ wsU := List.mem_of_getElem? (i := 274) rfl
set_option maxRecDepth 100000 in
theorem u275 : (.code ⟨"NoiseRing", "movedPart", "(II)I"⟩ prog_1_method_36_code 4 (some .int) : Cond) ∈ wsU := List.mem_of_getElem? (i := 275) rfl
set_option maxRecDepth 100000 in
theorem u276 : (.methodLink "NoiseRingLaw" 98 ⟨"NoiseRingLaw", "size", "(LNoiseRing;I[J)I"⟩ : Cond) ∈ wsU := List.mem_of_getElem? (i := 276) rfl
set_option maxRecDepth 100000 in
theorem u277 : (.static ⟨"NoiseRingLaw", "size", "(LNoiseRing;I[J)I"⟩ : Cond) ∈ wsU := List.mem_of_getElem? (i := 277) rfl
set_option maxRecDepth 100000 in
theorem u278 : (.codeWith ⟨"NoiseRingLaw", "size", "(LNoiseRing;I[J)I"⟩ method_11_code 4 (some .int) [(0, 9, 12, 19)] : Cond) ∈ wsU := List.mem_of_getElem? (i := 278) rfl
set_option maxRecDepth 100000 in
theorem u279 : (.methodLink "NoiseRingLaw" 42 ⟨"NoiseRing", "size", "(I)I"⟩ : Cond) ∈ wsU := List.mem_of_getElem? (i := 279) rfl
set_option maxRecDepth 100000 in
theorem u280 : (.instanceMethod ⟨"NoiseRing", "size", "(I)I"⟩ : Cond) ∈ wsU := List.mem_of_getElem? (i := 280) rfl
set_option maxRecDepth 100000 in
theorem u281 : (.selects "NoiseRing" ⟨"NoiseRing", "size", "(I)I"⟩ ⟨"NoiseRing", "size", "(I)I"⟩ : Cond) ∈ wsU := List.mem_of_getElem? (i := 281) rfl
set_option maxRecDepth 100000 in
theorem u282 : (.code ⟨"NoiseRing", "size", "(I)I"⟩ prog_1_method_10_code 2 (some .int) : Cond) ∈ wsU := List.mem_of_getElem? (i := 282) rfl
set_option maxRecDepth 100000 in
theorem u283 : (.methodLink "NoiseRingLaw" 101 ⟨"NoiseRingLaw", "far", "(LNoiseRing;II[J)I"⟩ : Cond) ∈ wsU := List.mem_of_getElem? (i := 283) rfl
set_option maxRecDepth 100000 in
theorem u284 : (.static ⟨"NoiseRingLaw", "far", "(LNoiseRing;II[J)I"⟩ : Cond) ∈ wsU := List.mem_of_getElem? (i := 284) rfl
set_option maxRecDepth 100000 in
theorem u285 : (.codeWith ⟨"NoiseRingLaw", "far", "(LNoiseRing;II[J)I"⟩ method_12_code 5 (some .int) [(0, 10, 13, 19)] : Cond) ∈ wsU := List.mem_of_getElem? (i := 285) rfl
set_option maxRecDepth 100000 in
theorem u286 : (.methodLink "NoiseRingLaw" 45 ⟨"NoiseRing", "far", "(II)I"⟩ : Cond) ∈ wsU := List.mem_of_getElem? (i := 286) rfl
set_option maxRecDepth 100000 in
theorem u287 : (.instanceMethod ⟨"NoiseRing", "far", "(II)I"⟩ : Cond) ∈ wsU := List.mem_of_getElem? (i := 287) rfl
set_option maxRecDepth 100000 in
theorem u288 : (.selects "NoiseRing" ⟨"NoiseRing", "far", "(II)I"⟩ ⟨"NoiseRing", "far", "(II)I"⟩ : Cond) ∈ wsU := List.mem_of_getElem? (i := 288) rfl
set_option maxRecDepth 100000 in
theorem u289 : (.code ⟨"NoiseRing", "far", "(II)I"⟩ prog_1_method_11_code 5 (some .int) : Cond) ∈ wsU := List.mem_of_getElem? (i := 289) rfl
set_option maxRecDepth 100000 in
theorem u290 : (.methodLink "NoiseRingLaw" 106 ⟨"NoiseRingLaw", "noise", "(LNoiseRing;IIJJ[J)I"⟩ : Cond) ∈ wsU := List.mem_of_getElem? (i := 290) rfl
set_option maxRecDepth 100000 in
theorem u291 : (.static ⟨"NoiseRingLaw", "noise", "(LNoiseRing;IIJJ[J)I"⟩ : Cond) ∈ wsU := List.mem_of_getElem? (i := 291) rfl
set_option maxRecDepth 100000 in
theorem u292 : (.codeWith ⟨"NoiseRingLaw", "noise", "(LNoiseRing;IIJJ[J)I"⟩ method_13_code 9 (some .int) [(0, 14, 17, 19), (0, 14, 21, 13)] : Cond) ∈ wsU := List.mem_of_getElem? (i := 292) rfl
set_option maxRecDepth 100000 in
theorem u293 : (.methodLink "NoiseRingLaw" 48 ⟨"NoiseRing", "noise", "(IIJJ)I"⟩ : Cond) ∈ wsU := List.mem_of_getElem? (i := 293) rfl
set_option maxRecDepth 100000 in
theorem u294 : (.instanceMethod ⟨"NoiseRing", "noise", "(IIJJ)I"⟩ : Cond) ∈ wsU := List.mem_of_getElem? (i := 294) rfl
set_option maxRecDepth 100000 in
theorem u295 : (.selects "NoiseRing" ⟨"NoiseRing", "noise", "(IIJJ)I"⟩ ⟨"NoiseRing", "noise", "(IIJJ)I"⟩ : Cond) ∈ wsU := List.mem_of_getElem? (i := 295) rfl
set_option maxRecDepth 100000 in
theorem u296 : (.code ⟨"NoiseRing", "noise", "(IIJJ)I"⟩ prog_1_method_12_code 11 (some .int) : Cond) ∈ wsU := List.mem_of_getElem? (i := 296) rfl
set_option maxRecDepth 100000 in
theorem u297 : (.methodLink "NoiseRing" 89 ⟨"NoiseRing", "ones", "(IIJJ)I"⟩ : Cond) ∈ wsU := List.mem_of_getElem? (i := 297) rfl
set_option maxRecDepth 100000 in
theorem u298 : (.static ⟨"NoiseRing", "ones", "(IIJJ)I"⟩ : Cond) ∈ wsU := List.mem_of_getElem? (i := 298) rfl
set_option maxRecDepth 100000 in
theorem u299 : (.code ⟨"NoiseRing", "ones", "(IIJJ)I"⟩ prog_1_method_37_code 10 (some .int) : Cond) ∈ wsU := List.mem_of_getElem? (i := 299) rfl
set_option maxRecDepth 100000 in
theorem u300 : (.methodLink "NoiseRingLaw" 110 ⟨"NoiseRingLaw", "value", "(LNoiseRing;II[J)I"⟩ : Cond) ∈ wsU := List.mem_of_getElem? (i := 300) rfl
set_option maxRecDepth 100000 in
theorem u301 : (.static ⟨"NoiseRingLaw", "value", "(LNoiseRing;II[J)I"⟩ : Cond) ∈ wsU := List.mem_of_getElem? (i := 301) rfl
set_option maxRecDepth 100000 in
theorem u302 : (.codeWith ⟨"NoiseRingLaw", "value", "(LNoiseRing;II[J)I"⟩ method_14_code 5 (some .int) [(0, 10, 13, 19)] : Cond) ∈ wsU := List.mem_of_getElem? (i := 302) rfl
set_option maxRecDepth 100000 in
theorem u303 : (.methodLink "NoiseRingLaw" 52 ⟨"NoiseRing", "value", "(II)I"⟩ : Cond) ∈ wsU := List.mem_of_getElem? (i := 303) rfl
set_option maxRecDepth 100000 in
theorem u304 : (.instanceMethod ⟨"NoiseRing", "value", "(II)I"⟩ : Cond) ∈ wsU := List.mem_of_getElem? (i := 304) rfl
set_option maxRecDepth 100000 in
theorem u305 : (.selects "NoiseRing" ⟨"NoiseRing", "value", "(II)I"⟩ ⟨"NoiseRing", "value", "(II)I"⟩ : Cond) ∈ wsU := List.mem_of_getElem? (i := 305) rfl
set_option maxRecDepth 100000 in
theorem u306 : (.code ⟨"NoiseRing", "value", "(II)I"⟩ prog_1_method_13_code 3 (some .int) : Cond) ∈ wsU := List.mem_of_getElem? (i := 306) rfl
set_option maxRecDepth 100000 in
theorem u307 : (.methodLink "NoiseRing" 99 ⟨"NoiseRing", "valueAt", "([IIII)I"⟩ : Cond) ∈ wsU := List.mem_of_getElem? (i := 307) rfl
set_option maxRecDepth 100000 in
theorem u308 : (.instanceMethod ⟨"NoiseRing", "valueAt", "([IIII)I"⟩ : Cond) ∈ wsU := List.mem_of_getElem? (i := 308) rfl
set_option maxRecDepth 100000 in
theorem u309 : (.code ⟨"NoiseRing", "valueAt", "([IIII)I"⟩ prog_1_method_38_code 10 (some .int) : Cond) ∈ wsU := List.mem_of_getElem? (i := 309) rfl
set_option maxRecDepth 100000 in
theorem u310 : (.methodLink "NoiseRingLaw" 113 ⟨"NoiseRingLaw", "unit", "(LNoiseRing;I[J)I"⟩ : Cond) ∈ wsU := List.mem_of_getElem? (i := 310) rfl
set_option maxRecDepth 100000 in
theorem u311 : (.static ⟨"NoiseRingLaw", "unit", "(LNoiseRing;I[J)I"⟩ : Cond) ∈ wsU := List.mem_of_getElem? (i := 311) rfl
set_option maxRecDepth 100000 in
theorem u312 : (.codeWith ⟨"NoiseRingLaw", "unit", "(LNoiseRing;I[J)I"⟩ method_15_code 4 (some .int) [(0, 16, 19, 19)] : Cond) ∈ wsU := List.mem_of_getElem? (i := 312) rfl
set_option maxRecDepth 100000 in
theorem u313 : (.methodLink "NoiseRingLaw" 55 ⟨"NoiseRing", "unit", "(I)Z"⟩ : Cond) ∈ wsU := List.mem_of_getElem? (i := 313) rfl
set_option maxRecDepth 100000 in
theorem u314 : (.instanceMethod ⟨"NoiseRing", "unit", "(I)Z"⟩ : Cond) ∈ wsU := List.mem_of_getElem? (i := 314) rfl
set_option maxRecDepth 100000 in
theorem u315 : (.selects "NoiseRing" ⟨"NoiseRing", "unit", "(I)Z"⟩ ⟨"NoiseRing", "unit", "(I)Z"⟩ : Cond) ∈ wsU := List.mem_of_getElem? (i := 315) rfl
set_option maxRecDepth 100000 in
theorem u316 : (.code ⟨"NoiseRing", "unit", "(I)Z"⟩ prog_1_method_14_code 4 (some .boolean) : Cond) ∈ wsU := List.mem_of_getElem? (i := 316) rfl
set_option maxRecDepth 100000 in
theorem u317 : (.fieldLink "NoiseRing" 106 "NoiseRing" "ZERO_EXPONENT" "[I" : Cond) ∈ wsU := List.mem_of_getElem? (i := 317) rfl
set_option maxRecDepth 100000 in
theorem u318 : (.classLink "NoiseRingLaw" 60 "NoiseRingModel" : Cond) ∈ wsU := List.mem_of_getElem? (i := 318) rfl
set_option maxRecDepth 100000 in
theorem u319 : (.instantiable "NoiseRingModel" 5 : Cond) ∈ wsU := List.mem_of_getElem? (i := 319) rfl
set_option maxRecDepth 100000 in
theorem u320 : (.methodLink "NoiseRingLaw" 62 ⟨"NoiseRingModel", "<init>", "()V"⟩ : Cond) ∈ wsU := List.mem_of_getElem? (i := 320) rfl
set_option maxRecDepth 100000 in
theorem u321 : (.instanceMethod ⟨"NoiseRingModel", "<init>", "()V"⟩ : Cond) ∈ wsU := List.mem_of_getElem? (i := 321) rfl
set_option maxRecDepth 100000 in
theorem u322 : (.code ⟨"NoiseRingModel", "<init>", "()V"⟩ prog_3_method_1_code 1 (none : Option Jvm.ClassFile.FieldType) : Cond) ∈ wsU := List.mem_of_getElem? (i := 322) rfl
set_option maxRecDepth 100000 in
theorem u323 : (.methodLink "NoiseRingModel" 1 ⟨"java/lang/Object", "<init>", "()V"⟩ : Cond) ∈ wsU := List.mem_of_getElem? (i := 323) rfl
set_option maxRecDepth 100000 in
theorem u324 : (.fieldLink "NoiseRingModel" 20 "NoiseRingModel" "thrown" "I" : Cond) ∈ wsU := List.mem_of_getElem? (i := 324) rfl
set_option maxRecDepth 100000 in
theorem u325 : (.fieldLink "NoiseRingModel" 37 "NoiseRingModel" "kind" "I" : Cond) ∈ wsU := List.mem_of_getElem? (i := 325) rfl
set_option maxRecDepth 100000 in
theorem u326 : (.fieldLink "NoiseRingModel" 7 "NoiseRingModel" "q" "I" : Cond) ∈ wsU := List.mem_of_getElem? (i := 326) rfl
set_option maxRecDepth 100000 in
theorem u327 : (.fieldLink "NoiseRingModel" 13 "NoiseRingModel" "register" "[I" : Cond) ∈ wsU := List.mem_of_getElem? (i := 327) rfl
set_option maxRecDepth 100000 in
theorem u328 : (.fieldLink "NoiseRingModel" 17 "NoiseRingModel" "made" "[I" : Cond) ∈ wsU := List.mem_of_getElem? (i := 328) rfl
set_option maxRecDepth 100000 in
theorem u329 : (.lays "NoiseRingModel" "NoiseRingModel" "thrown" "I" : Cond) ∈ wsU := List.mem_of_getElem? (i := 329) rfl
set_option maxRecDepth 100000 in
theorem u330 : (.soleField "NoiseRingModel" "thrown" : Cond) ∈ wsU := List.mem_of_getElem? (i := 330) rfl
set_option maxRecDepth 100000 in
theorem u331 : (.lays "NoiseRingModel" "NoiseRingModel" "kind" "I" : Cond) ∈ wsU := List.mem_of_getElem? (i := 331) rfl
set_option maxRecDepth 100000 in
theorem u332 : (.soleField "NoiseRingModel" "kind" : Cond) ∈ wsU := List.mem_of_getElem? (i := 332) rfl
set_option maxRecDepth 100000 in
theorem u333 : (.lays "NoiseRingModel" "NoiseRingModel" "q" "I" : Cond) ∈ wsU := List.mem_of_getElem? (i := 333) rfl
set_option maxRecDepth 100000 in
theorem u334 : (.soleField "NoiseRingModel" "q" : Cond) ∈ wsU := List.mem_of_getElem? (i := 334) rfl
set_option maxRecDepth 100000 in
theorem u335 : (.laysFinal "NoiseRingModel" "NoiseRingModel" "register" "[I" : Cond) ∈ wsU := List.mem_of_getElem? (i := 335) rfl
set_option maxRecDepth 100000 in
theorem u336 : (.soleField "NoiseRingModel" "register" : Cond) ∈ wsU := List.mem_of_getElem? (i := 336) rfl
set_option maxRecDepth 100000 in
theorem u337 : (.laysFinal "NoiseRingModel" "NoiseRingModel" "made" "[I" : Cond) ∈ wsU := List.mem_of_getElem? (i := 337) rfl
set_option maxRecDepth 100000 in
theorem u338 : (.soleField "NoiseRingModel" "made" : Cond) ∈ wsU := List.mem_of_getElem? (i := 338) rfl
set_option maxRecDepth 100000 in
theorem u339 : (.superclass "NoiseRingModel" "java/lang/Object" : Cond) ∈ wsU := List.mem_of_getElem? (i := 339) rfl
set_option maxRecDepth 100000 in
theorem u340 : (.methodLink "NoiseRingLaw" 69 ⟨"NoiseRingModel", "thrown", "()I"⟩ : Cond) ∈ wsU := List.mem_of_getElem? (i := 340) rfl
set_option maxRecDepth 100000 in
theorem u341 : (.instanceMethod ⟨"NoiseRingModel", "thrown", "()I"⟩ : Cond) ∈ wsU := List.mem_of_getElem? (i := 341) rfl
set_option maxRecDepth 100000 in
theorem u342 : (.selects "NoiseRingModel" ⟨"NoiseRingModel", "thrown", "()I"⟩ ⟨"NoiseRingModel", "thrown", "()I"⟩ : Cond) ∈ wsU := List.mem_of_getElem? (i := 342) rfl
set_option maxRecDepth 100000 in
theorem u343 : (.code ⟨"NoiseRingModel", "thrown", "()I"⟩ prog_3_method_2_code 1 (some .int) : Cond) ∈ wsU := List.mem_of_getElem? (i := 343) rfl
set_option maxRecDepth 100000 in
theorem u344 : (.methodLink "NoiseRingLaw" 68 ⟨"NoiseRingModel", "begin", "(I)I"⟩ : Cond) ∈ wsU := List.mem_of_getElem? (i := 344) rfl
set_option maxRecDepth 100000 in
theorem u345 : (.instanceMethod ⟨"NoiseRingModel", "begin", "(I)I"⟩ : Cond) ∈ wsU := List.mem_of_getElem? (i := 345) rfl
set_option maxRecDepth 100000 in
theorem u346 : (.selects "NoiseRingModel" ⟨"NoiseRingModel", "begin", "(I)I"⟩ ⟨"NoiseRingModel", "begin", "(I)I"⟩ : Cond) ∈ wsU := List.mem_of_getElem? (i := 346) rfl
set_option maxRecDepth 100000 in
theorem u347 : (.code ⟨"NoiseRingModel", "begin", "(I)I"⟩ prog_3_method_10_code 3 (some .int) : Cond) ∈ wsU := List.mem_of_getElem? (i := 347) rfl
set_option maxRecDepth 100000 in
theorem u348 : (.constant "NoiseRingModel" 40 (8380417 : Int32) : Cond) ∈ wsU := List.mem_of_getElem? (i := 348) rfl
set_option maxRecDepth 100000 in
theorem u349 : (.methodLink "NoiseRingLaw" 76 ⟨"NoiseRingModel", "set", "(III)I"⟩ : Cond) ∈ wsU := List.mem_of_getElem? (i := 349) rfl
set_option maxRecDepth 100000 in
theorem u350 : (.instanceMethod ⟨"NoiseRingModel", "set", "(III)I"⟩ : Cond) ∈ wsU := List.mem_of_getElem? (i := 350) rfl
set_option maxRecDepth 100000 in
theorem u351 : (.selects "NoiseRingModel" ⟨"NoiseRingModel", "set", "(III)I"⟩ ⟨"NoiseRingModel", "set", "(III)I"⟩ : Cond) ∈ wsU := List.mem_of_getElem? (i := 351) rfl
set_option maxRecDepth 100000 in
theorem u352 : (.code ⟨"NoiseRingModel", "set", "(III)I"⟩ prog_3_method_11_code 5 (some .int) : Cond) ∈ wsU := List.mem_of_getElem? (i := 352) rfl
set_option maxRecDepth 100000 in
theorem u353 : (.methodLink "NoiseRingModel" 41 ⟨"NoiseRingModel", "none", "(I)Z"⟩ : Cond) ∈ wsU := List.mem_of_getElem? (i := 353) rfl
set_option maxRecDepth 100000 in
theorem u354 : (.static ⟨"NoiseRingModel", "none", "(I)Z"⟩ : Cond) ∈ wsU := List.mem_of_getElem? (i := 354) rfl
set_option maxRecDepth 100000 in
theorem u355 : (.code ⟨"NoiseRingModel", "none", "(I)Z"⟩ prog_3_method_4_code 1 (some .boolean) : Cond) ∈ wsU := List.mem_of_getElem? (i := 355) rfl
set_option maxRecDepth 100000 in
theorem u356 : (.methodLink "NoiseRingModel" 45 ⟨"NoiseRingModel", "at", "(II)I"⟩ : Cond) ∈ wsU := List.mem_of_getElem? (i := 356) rfl
set_option maxRecDepth 100000 in
theorem u357 : (.instanceMethod ⟨"NoiseRingModel", "at", "(II)I"⟩ : Cond) ∈ wsU := List.mem_of_getElem? (i := 357) rfl
set_option maxRecDepth 100000 in
theorem u358 : (.code ⟨"NoiseRingModel", "at", "(II)I"⟩ prog_3_method_5_code 3 (some .int) : Cond) ∈ wsU := List.mem_of_getElem? (i := 358) rfl
set_option maxRecDepth 100000 in
theorem u359 : (.methodLink "NoiseRingModel" 48 ⟨"NoiseRingModel", "of", "(J)I"⟩ : Cond) ∈ wsU := List.mem_of_getElem? (i := 359) rfl
set_option maxRecDepth 100000 in
theorem u360 : (.instanceMethod ⟨"NoiseRingModel", "of", "(J)I"⟩ : Cond) ∈ wsU := List.mem_of_getElem? (i := 360) rfl
set_option maxRecDepth 100000 in
theorem u361 : (.code ⟨"NoiseRingModel", "of", "(J)I"⟩ prog_3_method_6_code 3 (some .int) : Cond) ∈ wsU := List.mem_of_getElem? (i := 361) rfl
set_option maxRecDepth 100000 in
theorem u362 : (.methodLink "NoiseRingModel" 23 ⟨"java/lang/Math", "floorMod", "(JJ)J"⟩ : Cond) ∈ wsU := List.mem_of_getElem? (i := 362) rfl
set_option maxRecDepth 100000 in
theorem u363 : (.methodLink "NoiseRingLaw" 80 ⟨"NoiseRingModel", "get", "(II)I"⟩ : Cond) ∈ wsU := List.mem_of_getElem? (i := 363) rfl
set_option maxRecDepth 100000 in
theorem u364 : (.instanceMethod ⟨"NoiseRingModel", "get", "(II)I"⟩ : Cond) ∈ wsU := List.mem_of_getElem? (i := 364) rfl
set_option maxRecDepth 100000 in
theorem u365 : (.selects "NoiseRingModel" ⟨"NoiseRingModel", "get", "(II)I"⟩ ⟨"NoiseRingModel", "get", "(II)I"⟩ : Cond) ∈ wsU := List.mem_of_getElem? (i := 365) rfl
set_option maxRecDepth 100000 in
theorem u366 : (.code ⟨"NoiseRingModel", "get", "(II)I"⟩ prog_3_method_12_code 3 (some .int) : Cond) ∈ wsU := List.mem_of_getElem? (i := 366) rfl
set_option maxRecDepth 100000 in
theorem u367 : (.methodLink "NoiseRingLaw" 84 ⟨"NoiseRingModel", "join", "(IIII)I"⟩ : Cond) ∈ wsU := List.mem_of_getElem? (i := 367) rfl
set_option maxRecDepth 100000 in
theorem u368 : (.instanceMethod ⟨"NoiseRingModel", "join", "(IIII)I"⟩ : Cond) ∈ wsU := List.mem_of_getElem? (i := 368) rfl
set_option maxRecDepth 100000 in
theorem u369 : (.selects "NoiseRingModel" ⟨"NoiseRingModel", "join", "(IIII)I"⟩ ⟨"NoiseRingModel", "join", "(IIII)I"⟩ : Cond) ∈ wsU := List.mem_of_getElem? (i := 369) rfl
set_option maxRecDepth 100000 in
theorem u370 : (.code ⟨"NoiseRingModel", "join", "(IIII)I"⟩ prog_3_method_13_code 11 (some .int) : Cond) ∈ wsU := List.mem_of_getElem? (i := 370) rfl
set_option maxRecDepth 100000 in
theorem u371 : (.methodLink "NoiseRingModel" 52 ⟨"NoiseRingModel", "put", "(I)I"⟩ : Cond) ∈ wsU := List.mem_of_getElem? (i := 371) rfl
set_option maxRecDepth 100000 in
theorem u372 : (.instanceMethod ⟨"NoiseRingModel", "put", "(I)I"⟩ : Cond) ∈ wsU := List.mem_of_getElem? (i := 372) rfl
set_option maxRecDepth 100000 in
theorem u373 : (.code ⟨"NoiseRingModel", "put", "(I)I"⟩ prog_3_method_9_code 4 (some .int) : Cond) ∈ wsU := List.mem_of_getElem? (i := 373) rfl
set_option maxRecDepth 100000 in
theorem u374 : (.methodLink "NoiseRingModel" 55 ⟨"NoiseRingModel", "most", "([I)I"⟩ : Cond) ∈ wsU := List.mem_of_getElem? (i := 374) rfl
set_option maxRecDepth 100000 in
theorem u375 : (.instanceMethod ⟨"NoiseRingModel", "most", "([I)I"⟩ : Cond) ∈ wsU := List.mem_of_getElem? (i := 375) rfl
set_option maxRecDepth 100000 in
theorem u376 : (.code ⟨"NoiseRingModel", "most", "([I)I"⟩ prog_3_method_8_code 4 (some .int) : Cond) ∈ wsU := List.mem_of_getElem? (i := 376) rfl
set_option maxRecDepth 100000 in
theorem u377 : (.methodLink "NoiseRingModel" 29 ⟨"NoiseRingModel", "size0", "(I)I"⟩ : Cond) ∈ wsU := List.mem_of_getElem? (i := 377) rfl
set_option maxRecDepth 100000 in
theorem u378 : (.instanceMethod ⟨"NoiseRingModel", "size0", "(I)I"⟩ : Cond) ∈ wsU := List.mem_of_getElem? (i := 378) rfl
set_option maxRecDepth 100000 in
theorem u379 : (.code ⟨"NoiseRingModel", "size0", "(I)I"⟩ prog_3_method_7_code 2 (some .int) : Cond) ∈ wsU := List.mem_of_getElem? (i := 379) rfl
set_option maxRecDepth 100000 in
theorem u380 : (.methodLink "NoiseRingModel" 33 ⟨"java/lang/Math", "max", "(II)I"⟩ : Cond) ∈ wsU := List.mem_of_getElem? (i := 380) rfl
set_option maxRecDepth 100000 in
theorem u381 : (.methodLink "NoiseRingLaw" 87 ⟨"NoiseRingModel", "round", "(IIII)I"⟩ : Cond) ∈ wsU := List.mem_of_getElem? (i := 381) rfl
set_option maxRecDepth 100000 in
theorem u382 : (.instanceMethod ⟨"NoiseRingModel", "round", "(IIII)I"⟩ : Cond) ∈ wsU := List.mem_of_getElem? (i := 382) rfl
set_option maxRecDepth 100000 in
theorem u383 : (.selects "NoiseRingModel" ⟨"NoiseRingModel", "round", "(IIII)I"⟩ ⟨"NoiseRingModel", "round", "(IIII)I"⟩ : Cond) ∈ wsU := List.mem_of_getElem? (i := 383) rfl
set_option maxRecDepth 100000 in
theorem u384 : (.code ⟨"NoiseRingModel", "round", "(IIII)I"⟩ prog_3_method_15_code 11 (some .int) : Cond) ∈ wsU := List.mem_of_getElem? (i := 384) rfl
set_option maxRecDepth 100000 in
theorem u385 : (.methodLink "NoiseRingModel" 59 ⟨"NoiseRingModel", "rest", "(II)I"⟩ : Cond) ∈ wsU := List.mem_of_getElem? (i := 385) rfl
set_option maxRecDepth 100000 in
theorem u386 : (.static ⟨"NoiseRingModel", "rest", "(II)I"⟩ : Cond) ∈ wsU := List.mem_of_getElem? (i := 386) rfl
set_option maxRecDepth 100000 in
theorem u387 : (.code ⟨"NoiseRingModel", "rest", "(II)I"⟩ prog_3_method_14_code 3 (some .int) : Cond) ∈ wsU := List.mem_of_getElem? (i := 387) rfl
set_option maxRecDepth 100000 in
theorem u388 : (.constantLong "NoiseRingModel" 62 (2 : Int64) : Cond) ∈ wsU := List.mem_of_getElem? (i := 388) rfl
set_option maxRecDepth 100000 in
theorem u389 : (.methodLink "NoiseRingLaw" 91 ⟨"NoiseRingModel", "part", "(IIIZ)I"⟩ : Cond) ∈ wsU := List.mem_of_getElem? (i := 389) rfl
set_option maxRecDepth 100000 in
theorem u390 : (.instanceMethod ⟨"NoiseRingModel", "part", "(IIIZ)I"⟩ : Cond) ∈ wsU := List.mem_of_getElem? (i := 390) rfl
set_option maxRecDepth 100000 in
theorem u391 : (.selects "NoiseRingModel" ⟨"NoiseRingModel", "part", "(IIIZ)I"⟩ ⟨"NoiseRingModel", "part", "(IIIZ)I"⟩ : Cond) ∈ wsU := List.mem_of_getElem? (i := 391) rfl
set_option maxRecDepth 100000 in
theorem u392 : (.code ⟨"NoiseRingModel", "part", "(IIIZ)I"⟩ prog_3_method_19_code 6 (some .int) : Cond) ∈ wsU := List.mem_of_getElem? (i := 392) rfl
set_option maxRecDepth 100000 in
theorem u393 : (.methodLink "NoiseRingModel" 64 ⟨"NoiseRingModel", "isAlpha", "(I)Z"⟩ : Cond) ∈ wsU := List.mem_of_getElem? (i := 393) rfl
set_option maxRecDepth 100000 in
theorem u394 : (.instanceMethod ⟨"NoiseRingModel", "isAlpha", "(I)Z"⟩ : Cond) ∈ wsU := List.mem_of_getElem? (i := 394) rfl
set_option maxRecDepth 100000 in
theorem u395 : (.code ⟨"NoiseRingModel", "isAlpha", "(I)Z"⟩ prog_3_method_16_code 2 (some .boolean) : Cond) ∈ wsU := List.mem_of_getElem? (i := 395) rfl
set_option maxRecDepth 100000 in
theorem u396 : (.methodLink "NoiseRingModel" 67 ⟨"NoiseRingModel", "partOf", "(II)I"⟩ : Cond) ∈ wsU := List.mem_of_getElem? (i := 396) rfl
set_option maxRecDepth 100000 in
theorem u397 : (.instanceMethod ⟨"NoiseRingModel", "partOf", "(II)I"⟩ : Cond) ∈ wsU := List.mem_of_getElem? (i := 397) rfl
set_option maxRecDepth 100000 in
theorem u398 : (.code ⟨"NoiseRingModel", "partOf", "(II)I"⟩ prog_3_method_17_code 4 (some .int) : Cond) ∈ wsU := List.mem_of_getElem? (i := 398) rfl
set_option maxRecDepth 100000 in
theorem u399 : (.methodLink "NoiseRingModel" 70 ⟨"NoiseRingModel", "restOf", "(II)I"⟩ : Cond) ∈ wsU := List.mem_of_getElem? (i := 399) rfl
set_option maxRecDepth 100000 in
theorem u400 : (.instanceMethod ⟨"NoiseRingModel", "restOf", "(II)I"⟩ : Cond) ∈ wsU := List.mem_of_getElem? (i := 400) rfl
set_option maxRecDepth 100000 in
theorem u401 : (.code ⟨"NoiseRingModel", "restOf", "(II)I"⟩ prog_3_method_18_code 4 (some .int) : Cond) ∈ wsU := List.mem_of_getElem? (i := 401) rfl
set_option maxRecDepth 100000 in
theorem u402 : (.methodLink "NoiseRingLaw" 94 ⟨"NoiseRingModel", "hint", "(IIII)I"⟩ : Cond) ∈ wsU := List.mem_of_getElem? (i := 402) rfl
set_option maxRecDepth 100000 in
theorem u403 : (.instanceMethod ⟨"NoiseRingModel", "hint", "(IIII)I"⟩ : Cond) ∈ wsU := List.mem_of_getElem? (i := 403) rfl
set_option maxRecDepth 100000 in
theorem u404 : (.selects "NoiseRingModel" ⟨"NoiseRingModel", "hint", "(IIII)I"⟩ ⟨"NoiseRingModel", "hint", "(IIII)I"⟩ : Cond) ∈ wsU := List.mem_of_getElem? (i := 404) rfl
set_option maxRecDepth 100000 in
theorem u405 : (.code ⟨"NoiseRingModel", "hint", "(IIII)I"⟩ prog_3_method_20_code 6 (some .int) : Cond) ∈ wsU := List.mem_of_getElem? (i := 405) rfl
set_option maxRecDepth 100000 in
theorem u406 : (.methodLink "NoiseRingLaw" 97 ⟨"NoiseRingModel", "use", "(IIII)I"⟩ : Cond) ∈ wsU := List.mem_of_getElem? (i := 406) rfl
set_option maxRecDepth 100000 in
theorem u407 : (.instanceMethod ⟨"NoiseRingModel", "use", "(IIII)I"⟩ : Cond) ∈ wsU := List.mem_of_getElem? (i := 407) rfl
set_option maxRecDepth 100000 in
theorem u408 : (.selects "NoiseRingModel" ⟨"NoiseRingModel", "use", "(IIII)I"⟩ ⟨"NoiseRingModel", "use", "(IIII)I"⟩ : Cond) ∈ wsU := List.mem_of_getElem? (i := 408) rfl
set_option maxRecDepth 100000 in
theorem u409 : (.code ⟨"NoiseRingModel", "use", "(IIII)I"⟩ prog_3_method_21_code 9 (some .int) : Cond) ∈ wsU := List.mem_of_getElem? (i := 409) rfl
set_option maxRecDepth 100000 in
theorem u410 : (.methodLink "NoiseRingModel" 73 ⟨"java/lang/Math", "floorMod", "(II)I"⟩ : Cond) ∈ wsU := List.mem_of_getElem? (i := 410) rfl
set_option maxRecDepth 100000 in
theorem u411 : (.methodLink "NoiseRingLaw" 100 ⟨"NoiseRingModel", "size", "(I)I"⟩ : Cond) ∈ wsU := List.mem_of_getElem? (i := 411) rfl
set_option maxRecDepth 100000 in
theorem u412 : (.instanceMethod ⟨"NoiseRingModel", "size", "(I)I"⟩ : Cond) ∈ wsU := List.mem_of_getElem? (i := 412) rfl
set_option maxRecDepth 100000 in
theorem u413 : (.selects "NoiseRingModel" ⟨"NoiseRingModel", "size", "(I)I"⟩ ⟨"NoiseRingModel", "size", "(I)I"⟩ : Cond) ∈ wsU := List.mem_of_getElem? (i := 413) rfl
set_option maxRecDepth 100000 in
theorem u414 : (.code ⟨"NoiseRingModel", "size", "(I)I"⟩ prog_3_method_22_code 4 (some .int) : Cond) ∈ wsU := List.mem_of_getElem? (i := 414) rfl
set_option maxRecDepth 100000 in
theorem u415 : (.methodLink "NoiseRingLaw" 103 ⟨"NoiseRingModel", "far", "(II)I"⟩ : Cond) ∈ wsU := List.mem_of_getElem? (i := 415) rfl
set_option maxRecDepth 100000 in
theorem u416 : (.instanceMethod ⟨"NoiseRingModel", "far", "(II)I"⟩ : Cond) ∈ wsU := List.mem_of_getElem? (i := 416) rfl
set_option maxRecDepth 100000 in
theorem u417 : (.selects "NoiseRingModel" ⟨"NoiseRingModel", "far", "(II)I"⟩ ⟨"NoiseRingModel", "far", "(II)I"⟩ : Cond) ∈ wsU := List.mem_of_getElem? (i := 417) rfl
set_option maxRecDepth 100000 in
theorem u418 : (.code ⟨"NoiseRingModel", "far", "(II)I"⟩ prog_3_method_23_code 5 (some .int) : Cond) ∈ wsU := List.mem_of_getElem? (i := 418) rfl
set_option maxRecDepth 100000 in
theorem u419 : (.methodLink "NoiseRingLaw" 109 ⟨"NoiseRingModel", "noise", "(IIJJ)I"⟩ : Cond) ∈ wsU := List.mem_of_getElem? (i := 419) rfl
set_option maxRecDepth 100000 in
theorem u420 : (.instanceMethod ⟨"NoiseRingModel", "noise", "(IIJJ)I"⟩ : Cond) ∈ wsU := List.mem_of_getElem? (i := 420) rfl
set_option maxRecDepth 100000 in
theorem u421 : (.selects "NoiseRingModel" ⟨"NoiseRingModel", "noise", "(IIJJ)I"⟩ ⟨"NoiseRingModel", "noise", "(IIJJ)I"⟩ : Cond) ∈ wsU := List.mem_of_getElem? (i := 421) rfl
set_option maxRecDepth 100000 in
theorem u422 : (.code ⟨"NoiseRingModel", "noise", "(IIJJ)I"⟩ prog_3_method_25_code 10 (some .int) : Cond) ∈ wsU := List.mem_of_getElem? (i := 422) rfl
set_option maxRecDepth 100000 in
theorem u423 : (.methodLink "NoiseRingModel" 75 ⟨"NoiseRingModel", "bit", "(JJI)I"⟩ : Cond) ∈ wsU := List.mem_of_getElem? (i := 423) rfl
set_option maxRecDepth 100000 in
theorem u424 : (.static ⟨"NoiseRingModel", "bit", "(JJI)I"⟩ : Cond) ∈ wsU := List.mem_of_getElem? (i := 424) rfl
set_option maxRecDepth 100000 in
theorem u425 : (.code ⟨"NoiseRingModel", "bit", "(JJI)I"⟩ prog_3_method_24_code 5 (some .int) : Cond) ∈ wsU := List.mem_of_getElem? (i := 425) rfl
set_option maxRecDepth 100000 in
theorem u426 : (.methodLink "NoiseRingLaw" 112 ⟨"NoiseRingModel", "value", "(II)I"⟩ : Cond) ∈ wsU := List.mem_of_getElem? (i := 426) rfl
set_option maxRecDepth 100000 in
theorem u427 : (.instanceMethod ⟨"NoiseRingModel", "value", "(II)I"⟩ : Cond) ∈ wsU := List.mem_of_getElem? (i := 427) rfl
set_option maxRecDepth 100000 in
theorem u428 : (.selects "NoiseRingModel" ⟨"NoiseRingModel", "value", "(II)I"⟩ ⟨"NoiseRingModel", "value", "(II)I"⟩ : Cond) ∈ wsU := List.mem_of_getElem? (i := 428) rfl
set_option maxRecDepth 100000 in
theorem u429 : (.code ⟨"NoiseRingModel", "value", "(II)I"⟩ prog_3_method_30_code 3 (some .int) : Cond) ∈ wsU := List.mem_of_getElem? (i := 429) rfl
set_option maxRecDepth 100000 in
theorem u430 : (.methodLink "NoiseRingModel" 90 ⟨"NoiseRingModel", "valueOf", "(II)I"⟩ : Cond) ∈ wsU := List.mem_of_getElem? (i := 430) rfl
set_option maxRecDepth 100000 in
theorem u431 : (.instanceMethod ⟨"NoiseRingModel", "valueOf", "(II)I"⟩ : Cond) ∈ wsU := List.mem_of_getElem? (i := 431) rfl
set_option maxRecDepth 100000 in
theorem u432 : (.code ⟨"NoiseRingModel", "valueOf", "(II)I"⟩ prog_3_method_29_code 4 (some .int) : Cond) ∈ wsU := List.mem_of_getElem? (i := 432) rfl
set_option maxRecDepth 100000 in
theorem u433 : (.methodLink "NoiseRingModel" 82 ⟨"NoiseRingModel", "root", "()I"⟩ : Cond) ∈ wsU := List.mem_of_getElem? (i := 433) rfl
set_option maxRecDepth 100000 in
theorem u434 : (.instanceMethod ⟨"NoiseRingModel", "root", "()I"⟩ : Cond) ∈ wsU := List.mem_of_getElem? (i := 434) rfl
set_option maxRecDepth 100000 in
theorem u435 : (.code ⟨"NoiseRingModel", "root", "()I"⟩ prog_3_method_27_code 1 (some .int) : Cond) ∈ wsU := List.mem_of_getElem? (i := 435) rfl
set_option maxRecDepth 100000 in
theorem u436 : (.methodLink "NoiseRingModel" 79 ⟨"NoiseRingModel", "power", "(II)I"⟩ : Cond) ∈ wsU := List.mem_of_getElem? (i := 436) rfl
set_option maxRecDepth 100000 in
theorem u437 : (.instanceMethod ⟨"NoiseRingModel", "power", "(II)I"⟩ : Cond) ∈ wsU := List.mem_of_getElem? (i := 437) rfl
set_option maxRecDepth 100000 in
theorem u438 : (.code ⟨"NoiseRingModel", "power", "(II)I"⟩ prog_3_method_26_code 6 (some .int) : Cond) ∈ wsU := List.mem_of_getElem? (i := 438) rfl
set_option maxRecDepth 100000 in
theorem u439 : (.methodLink "NoiseRingModel" 86 ⟨"NoiseRingModel", "along", "(IIIJ)I"⟩ : Cond) ∈ wsU := List.mem_of_getElem? (i := 439) rfl
set_option maxRecDepth 100000 in
theorem u440 : (.instanceMethod ⟨"NoiseRingModel", "along", "(IIIJ)I"⟩ : Cond) ∈ wsU := List.mem_of_getElem? (i := 440) rfl
set_option maxRecDepth 100000 in
theorem u441 : (.code ⟨"NoiseRingModel", "along", "(IIIJ)I"⟩ prog_3_method_28_code 9 (some .int) : Cond) ∈ wsU := List.mem_of_getElem? (i := 441) rfl
set_option maxRecDepth 100000 in
theorem u442 : (.methodLink "NoiseRingLaw" 115 ⟨"NoiseRingModel", "unit", "(I)Z"⟩ : Cond) ∈ wsU := List.mem_of_getElem? (i := 442) rfl
set_option maxRecDepth 100000 in
theorem u443 : (.instanceMethod ⟨"NoiseRingModel", "unit", "(I)Z"⟩ : Cond) ∈ wsU := List.mem_of_getElem? (i := 443) rfl
set_option maxRecDepth 100000 in
theorem u444 : (.selects "NoiseRingModel" ⟨"NoiseRingModel", "unit", "(I)Z"⟩ ⟨"NoiseRingModel", "unit", "(I)Z"⟩ : Cond) ∈ wsU := List.mem_of_getElem? (i := 444) rfl
set_option maxRecDepth 100000 in
theorem u445 : (.code ⟨"NoiseRingModel", "unit", "(I)Z"⟩ prog_3_method_31_code 7 (some .boolean) : Cond) ∈ wsU := List.mem_of_getElem? (i := 445) rfl
set_option maxRecDepth 100000 in
theorem u446 : (.methodLink "NoiseRingLaw" 119 ⟨"NoiseRingModel", "count", "(I)I"⟩ : Cond) ∈ wsU := List.mem_of_getElem? (i := 446) rfl
set_option maxRecDepth 100000 in
theorem u447 : (.instanceMethod ⟨"NoiseRingModel", "count", "(I)I"⟩ : Cond) ∈ wsU := List.mem_of_getElem? (i := 447) rfl
set_option maxRecDepth 100000 in
theorem u448 : (.selects "NoiseRingModel" ⟨"NoiseRingModel", "count", "(I)I"⟩ ⟨"NoiseRingModel", "count", "(I)I"⟩ : Cond) ∈ wsU := List.mem_of_getElem? (i := 448) rfl
set_option maxRecDepth 100000 in
theorem u449 : (.code ⟨"NoiseRingModel", "count", "(I)I"⟩ prog_3_method_32_code 6 (some .int) : Cond) ∈ wsU := List.mem_of_getElem? (i := 449) rfl
set_option maxRecDepth 100000 in
theorem u450 : (.constantLong "NoiseRingLaw" 104 (4294967295 : Int64) : Cond) ∈ wsU := List.mem_of_getElem? (i := 450) rfl
set_option maxRecDepth 100000 in
theorem u451 : (.arrayClass .long : Cond) ∈ wsU := List.mem_of_getElem? (i := 451) rfl
set_option maxRecDepth 100000 in
theorem inX0 : ∀ w ∈ u_ws RX0 TX0 5, w ∈ wsU := by decide +kernel
set_option maxRecDepth 100000 in
theorem inX1 : ∀ w ∈ u_ws RX1 TX1 5, w ∈ wsU := by decide +kernel
theorem gU {hd : List Cond} {w0 : Cond} (h : ∀ w ∈ hd, w ∈ wsU) (h0 : w0 ∈ wsU) : GoodIn wsU (hd ++ (w0 :: wsU)) := by
  have key : ∀ w ∈ wsU, w ∈ wsU ∧ ((w.onTables && w.keeps) = true ∨ ∃ ty, w = .arrayClass ty) := fun w hw => ⟨hw, good_of_word (List.all_eq_true.mp wsU_good w hw)⟩
  intro w hw
  rcases List.mem_append.mp hw with hw | hw
  · exact key w (h w hw)
  · rcases List.mem_cons.mp hw with hw | hw
    · rw [hw]; exact key w0 h0
    · exact key w hw
theorem gU1 {w0 : Cond} (h0 : w0 ∈ wsU) : GoodIn wsU (w0 :: wsU) := gU (hd := []) (fun _ h => by cases h) h0
abbrev cX0_init : ByteArray := prog_1_method_1_code
abbrev yX0_init : MethodName := ⟨"NoiseRing", "<init>", "()V"⟩
abbrev wsX0_init : List Cond := .code yX0_init cX0_init 1 (none : Option Jvm.ClassFile.FieldType) :: wsU
abbrev cX0_begin : ByteArray := prog_1_method_2_code
abbrev yX0_begin : MethodName := ⟨"NoiseRing", "begin", "(I)I"⟩
abbrev wsX0_begin : List Cond := .code yX0_begin cX0_begin 4 (some .int) :: wsU
abbrev cX0_set : ByteArray := prog_1_method_3_code
abbrev yX0_set : MethodName := ⟨"NoiseRing", "set", "(III)I"⟩
abbrev wsX0_set : List Cond := .code yX0_set cX0_set 5 (some .int) :: wsU
abbrev cX0_get : ByteArray := prog_1_method_4_code
abbrev yX0_get : MethodName := ⟨"NoiseRing", "get", "(II)I"⟩
abbrev wsX0_get : List Cond := .code yX0_get cX0_get 3 (some .int) :: wsU
abbrev cX0_join : ByteArray := prog_1_method_5_code
abbrev yX0_join : MethodName := ⟨"NoiseRing", "join", "(IIII)I"⟩
abbrev wsX0_join : List Cond := .code yX0_join cX0_join 6 (some .int) :: wsU
abbrev cX0_round : ByteArray := prog_1_method_6_code
abbrev yX0_round : MethodName := ⟨"NoiseRing", "round", "(IIII)I"⟩
abbrev wsX0_round : List Cond := .code yX0_round cX0_round 6 (some .int) :: wsU
abbrev cX0_part : ByteArray := prog_1_method_7_code
abbrev yX0_part : MethodName := ⟨"NoiseRing", "part", "(IIIZ)I"⟩
abbrev wsX0_part : List Cond := .code yX0_part cX0_part 7 (some .int) :: wsU
abbrev cX0_hint : ByteArray := prog_1_method_8_code
abbrev yX0_hint : MethodName := ⟨"NoiseRing", "hint", "(IIII)I"⟩
abbrev wsX0_hint : List Cond := .code yX0_hint cX0_hint 8 (some .int) :: wsU
abbrev cX0_use : ByteArray := prog_1_method_9_code
abbrev yX0_use : MethodName := ⟨"NoiseRing", "use", "(IIII)I"⟩
abbrev wsX0_use : List Cond := .code yX0_use cX0_use 10 (some .int) :: wsU
abbrev cX0_size : ByteArray := prog_1_method_10_code
abbrev yX0_size : MethodName := ⟨"NoiseRing", "size", "(I)I"⟩
abbrev wsX0_size : List Cond := .code yX0_size cX0_size 2 (some .int) :: wsU
abbrev cX0_far : ByteArray := prog_1_method_11_code
abbrev yX0_far : MethodName := ⟨"NoiseRing", "far", "(II)I"⟩
abbrev wsX0_far : List Cond := .code yX0_far cX0_far 5 (some .int) :: wsU
abbrev cX0_noise : ByteArray := prog_1_method_12_code
abbrev yX0_noise : MethodName := ⟨"NoiseRing", "noise", "(IIJJ)I"⟩
abbrev wsX0_noise : List Cond := .code yX0_noise cX0_noise 11 (some .int) :: wsU
abbrev cX0_value : ByteArray := prog_1_method_13_code
abbrev yX0_value : MethodName := ⟨"NoiseRing", "value", "(II)I"⟩
abbrev wsX0_value : List Cond := .code yX0_value cX0_value 3 (some .int) :: wsU
abbrev cX0_unit : ByteArray := prog_1_method_14_code
abbrev yX0_unit : MethodName := ⟨"NoiseRing", "unit", "(I)Z"⟩
abbrev wsX0_unit : List Cond := .code yX0_unit cX0_unit 4 (some .boolean) :: wsU
abbrev cX0_count : ByteArray := prog_1_method_15_code
abbrev yX0_count : MethodName := ⟨"NoiseRing", "count", "(I)I"⟩
abbrev wsX0_count : List Cond := .code yX0_count cX0_count 2 (some .int) :: wsU
abbrev cX0_needRegister : ByteArray := prog_1_method_16_code
abbrev yX0_needRegister : MethodName := ⟨"NoiseRing", "needRegister", "(I)V"⟩
abbrev wsX0_needRegister : List Cond := .code yX0_needRegister cX0_needRegister 1 (none : Option Jvm.ClassFile.FieldType) :: wsU
abbrev cX0_needPlace : ByteArray := prog_1_method_17_code
abbrev yX0_needPlace : MethodName := ⟨"NoiseRing", "needPlace", "(I)V"⟩
abbrev wsX0_needPlace : List Cond := .code yX0_needPlace cX0_needPlace 1 (none : Option Jvm.ClassFile.FieldType) :: wsU
abbrev cX0_needArgument : ByteArray := prog_1_method_18_code
abbrev yX0_needArgument : MethodName := ⟨"NoiseRing", "needArgument", "(Z)V"⟩
abbrev wsX0_needArgument : List Cond := .code yX0_needArgument cX0_needArgument 1 (none : Option Jvm.ClassFile.FieldType) :: wsU
abbrev cX0_takeKind : ByteArray := prog_1_method_19_code
abbrev yX0_takeKind : MethodName := ⟨"NoiseRing", "takeKind", "(I)V"⟩
abbrev wsX0_takeKind : List Cond := .code yX0_takeKind cX0_takeKind 2 (none : Option Jvm.ClassFile.FieldType) :: wsU
abbrev cX0_power : ByteArray := prog_1_method_20_code
abbrev yX0_power : MethodName := ⟨"NoiseRing", "power", "(II)I"⟩
abbrev wsX0_power : List Cond := .code yX0_power cX0_power 6 (some .int) :: wsU
abbrev cX0_joined : ByteArray := prog_1_method_21_code
abbrev yX0_joined : MethodName := ⟨"NoiseRing", "joined", "(I[I[II)I"⟩
abbrev wsX0_joined : List Cond := .code yX0_joined cX0_joined 5 (some .int) :: wsU
abbrev cX0_productAt : ByteArray := prog_1_method_22_code
abbrev yX0_productAt : MethodName := ⟨"NoiseRing", "productAt", "([I[II)I"⟩
abbrev wsX0_productAt : List Cond := .code yX0_productAt cX0_productAt 7 (some .int) :: wsU
abbrev cX0_centredSize : ByteArray := prog_1_method_23_code
abbrev yX0_centredSize : MethodName := ⟨"NoiseRing", "centredSize", "(I)I"⟩
abbrev wsX0_centredSize : List Cond := .code yX0_centredSize cX0_centredSize 2 (some .int) :: wsU
abbrev cX0_greatestSize : ByteArray := prog_1_method_24_code
abbrev yX0_greatestSize : MethodName := ⟨"NoiseRing", "greatestSize", "([I)I"⟩
abbrev wsX0_greatestSize : List Cond := .code yX0_greatestSize cX0_greatestSize 4 (some .int) :: wsU
abbrev cX0_notZero : ByteArray := prog_1_method_25_code
abbrev yX0_notZero : MethodName := ⟨"NoiseRing", "notZero", "([I)I"⟩
abbrev wsX0_notZero : List Cond := .code yX0_notZero cX0_notZero 3 (some .int) :: wsU
abbrev cX0_emptyRegisters : ByteArray := prog_1_method_26_code
abbrev yX0_emptyRegisters : MethodName := ⟨"NoiseRing", "emptyRegisters", "()I"⟩
abbrev wsX0_emptyRegisters : List Cond := .code yX0_emptyRegisters cX0_emptyRegisters 3 (some .int) :: wsU
abbrev cX0_rounded : ByteArray := prog_1_method_27_code
abbrev yX0_rounded : MethodName := ⟨"NoiseRing", "rounded", "(III)I"⟩
abbrev wsX0_rounded : List Cond := .code yX0_rounded cX0_rounded 4 (some .int) :: wsU
abbrev cX0_lowMask : ByteArray := prog_1_method_28_code
abbrev yX0_lowMask : MethodName := ⟨"NoiseRing", "lowMask", "(I)I"⟩
abbrev wsX0_lowMask : List Cond := .code yX0_lowMask cX0_lowMask 1 (some .int) :: wsU
abbrev cX0_fewerBits : ByteArray := prog_1_method_29_code
abbrev yX0_fewerBits : MethodName := ⟨"NoiseRing", "fewerBits", "(II)I"⟩
abbrev wsX0_fewerBits : List Cond := .code yX0_fewerBits cX0_fewerBits 5 (some .int) :: wsU
abbrev cX0_moreBits : ByteArray := prog_1_method_30_code
abbrev yX0_moreBits : MethodName := ⟨"NoiseRing", "moreBits", "(II)I"⟩
abbrev wsX0_moreBits : List Cond := .code yX0_moreBits cX0_moreBits 3 (some .int) :: wsU
abbrev cX0_lowBits : ByteArray := prog_1_method_31_code
abbrev yX0_lowBits : MethodName := ⟨"NoiseRing", "lowBits", "(II)I"⟩
abbrev wsX0_lowBits : List Cond := .code yX0_lowBits cX0_lowBits 3 (some .int) :: wsU
abbrev cX0_isAlpha : ByteArray := prog_1_method_32_code
abbrev yX0_isAlpha : MethodName := ⟨"NoiseRing", "isAlpha", "(I)Z"⟩
abbrev wsX0_isAlpha : List Cond := .code yX0_isAlpha cX0_isAlpha 2 (some .boolean) :: wsU
abbrev cX0_nearRest : ByteArray := prog_1_method_33_code
abbrev yX0_nearRest : MethodName := ⟨"NoiseRing", "nearRest", "(II)I"⟩
abbrev wsX0_nearRest : List Cond := .code yX0_nearRest cX0_nearRest 3 (some .int) :: wsU
abbrev cX0_restOf : ByteArray := prog_1_method_34_code
abbrev yX0_restOf : MethodName := ⟨"NoiseRing", "restOf", "(II)I"⟩
abbrev wsX0_restOf : List Cond := .code yX0_restOf cX0_restOf 4 (some .int) :: wsU
abbrev cX0_partOf : ByteArray := prog_1_method_35_code
abbrev yX0_partOf : MethodName := ⟨"NoiseRing", "partOf", "(II)I"⟩
abbrev wsX0_partOf : List Cond := .code yX0_partOf cX0_partOf 4 (some .int) :: wsU
abbrev cX0_movedPart : ByteArray := prog_1_method_36_code
abbrev yX0_movedPart : MethodName := ⟨"NoiseRing", "movedPart", "(II)I"⟩
abbrev wsX0_movedPart : List Cond := .code yX0_movedPart cX0_movedPart 4 (some .int) :: wsU
abbrev cX0_ones : ByteArray := prog_1_method_37_code
abbrev yX0_ones : MethodName := ⟨"NoiseRing", "ones", "(IIJJ)I"⟩
abbrev wsX0_ones : List Cond := .code yX0_ones cX0_ones 10 (some .int) :: wsU
abbrev cX0_valueAt : ByteArray := prog_1_method_38_code
abbrev yX0_valueAt : MethodName := ⟨"NoiseRing", "valueAt", "([IIII)I"⟩
abbrev wsX0_valueAt : List Cond := .code yX0_valueAt cX0_valueAt 10 (some .int) :: wsU
abbrev cX1_init : ByteArray := prog_3_method_1_code
abbrev yX1_init : MethodName := ⟨"NoiseRingModel", "<init>", "()V"⟩
abbrev wsX1_init : List Cond := .code yX1_init cX1_init 1 (none : Option Jvm.ClassFile.FieldType) :: wsU
abbrev cX1_thrown : ByteArray := prog_3_method_2_code
abbrev yX1_thrown : MethodName := ⟨"NoiseRingModel", "thrown", "()I"⟩
abbrev wsX1_thrown : List Cond := .code yX1_thrown cX1_thrown 1 (some .int) :: wsU
abbrev cX1_none : ByteArray := prog_3_method_4_code
abbrev yX1_none : MethodName := ⟨"NoiseRingModel", "none", "(I)Z"⟩
abbrev wsX1_none : List Cond := .code yX1_none cX1_none 1 (some .boolean) :: wsU
abbrev cX1_at : ByteArray := prog_3_method_5_code
abbrev yX1_at : MethodName := ⟨"NoiseRingModel", "at", "(II)I"⟩
abbrev wsX1_at : List Cond := .code yX1_at cX1_at 3 (some .int) :: wsU
abbrev cX1_of : ByteArray := prog_3_method_6_code
abbrev yX1_of : MethodName := ⟨"NoiseRingModel", "of", "(J)I"⟩
abbrev wsX1_of : List Cond := .code yX1_of cX1_of 3 (some .int) :: wsU
abbrev cX1_size0 : ByteArray := prog_3_method_7_code
abbrev yX1_size0 : MethodName := ⟨"NoiseRingModel", "size0", "(I)I"⟩
abbrev wsX1_size0 : List Cond := .code yX1_size0 cX1_size0 2 (some .int) :: wsU
abbrev cX1_most : ByteArray := prog_3_method_8_code
abbrev yX1_most : MethodName := ⟨"NoiseRingModel", "most", "([I)I"⟩
abbrev wsX1_most : List Cond := .code yX1_most cX1_most 4 (some .int) :: wsU
abbrev cX1_put : ByteArray := prog_3_method_9_code
abbrev yX1_put : MethodName := ⟨"NoiseRingModel", "put", "(I)I"⟩
abbrev wsX1_put : List Cond := .code yX1_put cX1_put 4 (some .int) :: wsU
abbrev cX1_begin : ByteArray := prog_3_method_10_code
abbrev yX1_begin : MethodName := ⟨"NoiseRingModel", "begin", "(I)I"⟩
abbrev wsX1_begin : List Cond := .code yX1_begin cX1_begin 3 (some .int) :: wsU
abbrev cX1_set : ByteArray := prog_3_method_11_code
abbrev yX1_set : MethodName := ⟨"NoiseRingModel", "set", "(III)I"⟩
abbrev wsX1_set : List Cond := .code yX1_set cX1_set 5 (some .int) :: wsU
abbrev cX1_get : ByteArray := prog_3_method_12_code
abbrev yX1_get : MethodName := ⟨"NoiseRingModel", "get", "(II)I"⟩
abbrev wsX1_get : List Cond := .code yX1_get cX1_get 3 (some .int) :: wsU
abbrev cX1_join : ByteArray := prog_3_method_13_code
abbrev yX1_join : MethodName := ⟨"NoiseRingModel", "join", "(IIII)I"⟩
abbrev wsX1_join : List Cond := .code yX1_join cX1_join 11 (some .int) :: wsU
abbrev cX1_rest : ByteArray := prog_3_method_14_code
abbrev yX1_rest : MethodName := ⟨"NoiseRingModel", "rest", "(II)I"⟩
abbrev wsX1_rest : List Cond := .code yX1_rest cX1_rest 3 (some .int) :: wsU
abbrev cX1_round : ByteArray := prog_3_method_15_code
abbrev yX1_round : MethodName := ⟨"NoiseRingModel", "round", "(IIII)I"⟩
abbrev wsX1_round : List Cond := .code yX1_round cX1_round 11 (some .int) :: wsU
abbrev cX1_isAlpha : ByteArray := prog_3_method_16_code
abbrev yX1_isAlpha : MethodName := ⟨"NoiseRingModel", "isAlpha", "(I)Z"⟩
abbrev wsX1_isAlpha : List Cond := .code yX1_isAlpha cX1_isAlpha 2 (some .boolean) :: wsU
abbrev cX1_partOf : ByteArray := prog_3_method_17_code
abbrev yX1_partOf : MethodName := ⟨"NoiseRingModel", "partOf", "(II)I"⟩
abbrev wsX1_partOf : List Cond := .code yX1_partOf cX1_partOf 4 (some .int) :: wsU
abbrev cX1_restOf : ByteArray := prog_3_method_18_code
abbrev yX1_restOf : MethodName := ⟨"NoiseRingModel", "restOf", "(II)I"⟩
abbrev wsX1_restOf : List Cond := .code yX1_restOf cX1_restOf 4 (some .int) :: wsU
abbrev cX1_part : ByteArray := prog_3_method_19_code
abbrev yX1_part : MethodName := ⟨"NoiseRingModel", "part", "(IIIZ)I"⟩
abbrev wsX1_part : List Cond := .code yX1_part cX1_part 6 (some .int) :: wsU
abbrev cX1_hint : ByteArray := prog_3_method_20_code
abbrev yX1_hint : MethodName := ⟨"NoiseRingModel", "hint", "(IIII)I"⟩
abbrev wsX1_hint : List Cond := .code yX1_hint cX1_hint 6 (some .int) :: wsU
abbrev cX1_use : ByteArray := prog_3_method_21_code
abbrev yX1_use : MethodName := ⟨"NoiseRingModel", "use", "(IIII)I"⟩
abbrev wsX1_use : List Cond := .code yX1_use cX1_use 9 (some .int) :: wsU
abbrev cX1_size : ByteArray := prog_3_method_22_code
abbrev yX1_size : MethodName := ⟨"NoiseRingModel", "size", "(I)I"⟩
abbrev wsX1_size : List Cond := .code yX1_size cX1_size 4 (some .int) :: wsU
abbrev cX1_far : ByteArray := prog_3_method_23_code
abbrev yX1_far : MethodName := ⟨"NoiseRingModel", "far", "(II)I"⟩
abbrev wsX1_far : List Cond := .code yX1_far cX1_far 5 (some .int) :: wsU
abbrev cX1_bit : ByteArray := prog_3_method_24_code
abbrev yX1_bit : MethodName := ⟨"NoiseRingModel", "bit", "(JJI)I"⟩
abbrev wsX1_bit : List Cond := .code yX1_bit cX1_bit 5 (some .int) :: wsU
abbrev cX1_noise : ByteArray := prog_3_method_25_code
abbrev yX1_noise : MethodName := ⟨"NoiseRingModel", "noise", "(IIJJ)I"⟩
abbrev wsX1_noise : List Cond := .code yX1_noise cX1_noise 10 (some .int) :: wsU
abbrev cX1_power : ByteArray := prog_3_method_26_code
abbrev yX1_power : MethodName := ⟨"NoiseRingModel", "power", "(II)I"⟩
abbrev wsX1_power : List Cond := .code yX1_power cX1_power 6 (some .int) :: wsU
abbrev cX1_root : ByteArray := prog_3_method_27_code
abbrev yX1_root : MethodName := ⟨"NoiseRingModel", "root", "()I"⟩
abbrev wsX1_root : List Cond := .code yX1_root cX1_root 1 (some .int) :: wsU
abbrev cX1_along : ByteArray := prog_3_method_28_code
abbrev yX1_along : MethodName := ⟨"NoiseRingModel", "along", "(IIIJ)I"⟩
abbrev wsX1_along : List Cond := .code yX1_along cX1_along 9 (some .int) :: wsU
abbrev cX1_valueOf : ByteArray := prog_3_method_29_code
abbrev yX1_valueOf : MethodName := ⟨"NoiseRingModel", "valueOf", "(II)I"⟩
abbrev wsX1_valueOf : List Cond := .code yX1_valueOf cX1_valueOf 4 (some .int) :: wsU
abbrev cX1_value : ByteArray := prog_3_method_30_code
abbrev yX1_value : MethodName := ⟨"NoiseRingModel", "value", "(II)I"⟩
abbrev wsX1_value : List Cond := .code yX1_value cX1_value 3 (some .int) :: wsU
abbrev cX1_unit : ByteArray := prog_3_method_31_code
abbrev yX1_unit : MethodName := ⟨"NoiseRingModel", "unit", "(I)Z"⟩
abbrev wsX1_unit : List Cond := .code yX1_unit cX1_unit 7 (some .boolean) :: wsU
abbrev cX1_count : ByteArray := prog_3_method_32_code
abbrev yX1_count : MethodName := ⟨"NoiseRingModel", "count", "(I)I"⟩
abbrev wsX1_count : List Cond := .code yX1_count cX1_count 6 (some .int) :: wsU
abbrev cL_begin : ByteArray := method_3_code
abbrev yL_begin : MethodName := ⟨"NoiseRingLaw", "begin", "(LNoiseRing;I[J)I"⟩
abbrev wsL_begin : List Cond := .codeWith yL_begin cL_begin 4 (some .int) [(0, 9, 12, 13)] :: wsU
abbrev cL_set : ByteArray := method_4_code
abbrev yL_set : MethodName := ⟨"NoiseRingLaw", "set", "(LNoiseRing;III[J)I"⟩
abbrev wsL_set : List Cond := .codeWith yL_set cL_set 6 (some .int) [(0, 12, 15, 19)] :: wsU
abbrev cL_get : ByteArray := method_5_code
abbrev yL_get : MethodName := ⟨"NoiseRingLaw", "get", "(LNoiseRing;II[J)I"⟩
abbrev wsL_get : List Cond := .codeWith yL_get cL_get 5 (some .int) [(0, 10, 13, 19)] :: wsU
abbrev cL_join : ByteArray := method_6_code
abbrev yL_join : MethodName := ⟨"NoiseRingLaw", "join", "(LNoiseRing;IIII[J)I"⟩
abbrev wsL_join : List Cond := .codeWith yL_join cL_join 7 (some .int) [(0, 14, 17, 19), (0, 14, 21, 13)] :: wsU
abbrev cL_round : ByteArray := method_7_code
abbrev yL_round : MethodName := ⟨"NoiseRingLaw", "round", "(LNoiseRing;IIII[J)I"⟩
abbrev wsL_round : List Cond := .codeWith yL_round cL_round 7 (some .int) [(0, 14, 17, 19), (0, 14, 21, 13)] :: wsU
abbrev cL_part : ByteArray := method_8_code
abbrev yL_part : MethodName := ⟨"NoiseRingLaw", "part", "(LNoiseRing;IIIZ[J)I"⟩
abbrev wsL_part : List Cond := .codeWith yL_part cL_part 7 (some .int) [(0, 14, 17, 19), (0, 14, 21, 13)] :: wsU
abbrev cL_hint : ByteArray := method_9_code
abbrev yL_hint : MethodName := ⟨"NoiseRingLaw", "hint", "(LNoiseRing;IIII[J)I"⟩
abbrev wsL_hint : List Cond := .codeWith yL_hint cL_hint 7 (some .int) [(0, 14, 17, 19), (0, 14, 21, 13)] :: wsU
abbrev cL_use : ByteArray := method_10_code
abbrev yL_use : MethodName := ⟨"NoiseRingLaw", "use", "(LNoiseRing;IIII[J)I"⟩
abbrev wsL_use : List Cond := .codeWith yL_use cL_use 7 (some .int) [(0, 14, 17, 19), (0, 14, 21, 13)] :: wsU
abbrev cL_size : ByteArray := method_11_code
abbrev yL_size : MethodName := ⟨"NoiseRingLaw", "size", "(LNoiseRing;I[J)I"⟩
abbrev wsL_size : List Cond := .codeWith yL_size cL_size 4 (some .int) [(0, 9, 12, 19)] :: wsU
abbrev cL_far : ByteArray := method_12_code
abbrev yL_far : MethodName := ⟨"NoiseRingLaw", "far", "(LNoiseRing;II[J)I"⟩
abbrev wsL_far : List Cond := .codeWith yL_far cL_far 5 (some .int) [(0, 10, 13, 19)] :: wsU
abbrev cL_noise : ByteArray := method_13_code
abbrev yL_noise : MethodName := ⟨"NoiseRingLaw", "noise", "(LNoiseRing;IIJJ[J)I"⟩
abbrev wsL_noise : List Cond := .codeWith yL_noise cL_noise 9 (some .int) [(0, 14, 17, 19), (0, 14, 21, 13)] :: wsU
abbrev cL_value : ByteArray := method_14_code
abbrev yL_value : MethodName := ⟨"NoiseRingLaw", "value", "(LNoiseRing;II[J)I"⟩
abbrev wsL_value : List Cond := .codeWith yL_value cL_value 5 (some .int) [(0, 10, 13, 19)] :: wsU
abbrev cL_unit : ByteArray := method_15_code
abbrev yL_unit : MethodName := ⟨"NoiseRingLaw", "unit", "(LNoiseRing;I[J)I"⟩
abbrev wsL_unit : List Cond := .codeWith yL_unit cL_unit 4 (some .int) [(0, 16, 19, 19)] :: wsU
abbrev cL_law : ByteArray := code
abbrev yL_law : MethodName := ⟨"NoiseRingLaw", "law", "([I)Z"⟩
abbrev wsL_law : List Cond := .code yL_law cL_law 7 (some .boolean) :: wsU
abbrev cJ_floorModI : ByteArray := prog_6_method_50_code
abbrev yJ_floorModI : MethodName := ⟨"java/lang/Math", "floorMod", "(II)I"⟩
abbrev wsJ_floorModI : List Cond := .code yJ_floorModI cJ_floorModI 3 (some .int) :: wsU
abbrev cJ_floorModL : ByteArray := prog_6_method_52_code
abbrev yJ_floorModL : MethodName := ⟨"java/lang/Math", "floorMod", "(JJ)J"⟩
abbrev wsJ_floorModL : List Cond := .code yJ_floorModL cJ_floorModL 6 (some .long) :: wsU
abbrev cJ_max : ByteArray := prog_6_method_65_code
abbrev yJ_max : MethodName := ⟨"java/lang/Math", "max", "(II)I"⟩
abbrev wsJ_max : List Cond := .code yJ_max cJ_max 2 (some .int) :: wsU
abbrev cJ_min : ByteArray := prog_6_method_69_code
abbrev yJ_min : MethodName := ⟨"java/lang/Math", "min", "(II)I"⟩
abbrev wsJ_min : List Cond := .code yJ_min cJ_min 2 (some .int) :: wsU
end
section
theorem dX0_init_0 : decode cX0_init 0 = .ok (.aload_n 0, 1) := by decide +kernel
theorem dX0_init_1 : decode cX0_init 1 = .ok (.invokespecial 1, 3) := by decide +kernel
theorem dX0_init_4 : decode cX0_init 4 = .ok (.aload_n 0, 1) := by decide +kernel
theorem dX0_init_5 : decode cX0_init 5 = .ok (.bipush 12, 2) := by decide +kernel
theorem dX0_init_7 : decode cX0_init 7 = .ok (.bipush 16, 2) := by decide +kernel
theorem dX0_init_9 : decode cX0_init 9 = .ok (.multianewarray 9 2, 4) := by decide +kernel
theorem dX0_init_13 : decode cX0_init 13 = .ok (.putfield 11, 3) := by decide +kernel
theorem dX0_init_16 : decode cX0_init 16 = .ok (.aload_n 0, 1) := by decide +kernel
theorem dX0_init_17 : decode cX0_init 17 = .ok (.bipush 16, 2) := by decide +kernel
theorem dX0_init_19 : decode cX0_init 19 = .ok (.newarray .int, 2) := by decide +kernel
theorem dX0_init_21 : decode cX0_init 21 = .ok (.putfield 14, 3) := by decide +kernel
theorem dX0_init_24 : decode cX0_init 24 = .ok (.aload_n 0, 1) := by decide +kernel
theorem dX0_init_25 : decode cX0_init 25 = .ok (.iconst 0, 1) := by decide +kernel
theorem dX0_init_26 : decode cX0_init 26 = .ok (.invokevirtual 18, 3) := by decide +kernel
theorem dX0_init_29 : decode cX0_init 29 = .ok (.return_, 1) := by decide +kernel
theorem dX0_begin_0 : decode cX0_begin 0 = .ok (.iload_n 1, 1) := by decide +kernel
theorem dX0_begin_1 : decode cX0_begin 1 = .ok (.ifCond .lt 15, 3) := by decide +kernel
theorem dX0_begin_4 : decode cX0_begin 4 = .ok (.iload_n 1, 1) := by decide +kernel
theorem dX0_begin_5 : decode cX0_begin 5 = .ok (.getstatic 22, 3) := by decide +kernel
theorem dX0_begin_8 : decode cX0_begin 8 = .ok (.arraylength, 1) := by decide +kernel
theorem dX0_begin_9 : decode cX0_begin 9 = .ok (.if_icmp .ge 7, 3) := by decide +kernel
theorem dX0_begin_12 : decode cX0_begin 12 = .ok (.iconst 1, 1) := by decide +kernel
theorem dX0_begin_13 : decode cX0_begin 13 = .ok (.goto 4, 3) := by decide +kernel
theorem dX0_begin_16 : decode cX0_begin 16 = .ok (.iconst 0, 1) := by decide +kernel
theorem dX0_begin_17 : decode cX0_begin 17 = .ok (.invokestatic 25, 3) := by decide +kernel
theorem dX0_begin_20 : decode cX0_begin 20 = .ok (.aload_n 0, 1) := by decide +kernel
theorem dX0_begin_21 : decode cX0_begin 21 = .ok (.iload_n 1, 1) := by decide +kernel
theorem dX0_begin_22 : decode cX0_begin 22 = .ok (.invokevirtual 18, 3) := by decide +kernel
theorem dX0_begin_25 : decode cX0_begin 25 = .ok (.iconst 0, 1) := by decide +kernel
theorem dX0_begin_26 : decode cX0_begin 26 = .ok (.istore_n 2, 1) := by decide +kernel
theorem dX0_begin_27 : decode cX0_begin 27 = .ok (.iload_n 2, 1) := by decide +kernel
theorem dX0_begin_28 : decode cX0_begin 28 = .ok (.bipush 12, 2) := by decide +kernel
theorem dX0_begin_30 : decode cX0_begin 30 = .ok (.if_icmp .ge 32, 3) := by decide +kernel
theorem dX0_begin_33 : decode cX0_begin 33 = .ok (.iconst 0, 1) := by decide +kernel
theorem dX0_begin_34 : decode cX0_begin 34 = .ok (.istore_n 3, 1) := by decide +kernel
theorem dX0_begin_35 : decode cX0_begin 35 = .ok (.iload_n 3, 1) := by decide +kernel
theorem dX0_begin_36 : decode cX0_begin 36 = .ok (.bipush 16, 2) := by decide +kernel
theorem dX0_begin_38 : decode cX0_begin 38 = .ok (.if_icmp .ge 18, 3) := by decide +kernel
theorem dX0_begin_41 : decode cX0_begin 41 = .ok (.aload_n 0, 1) := by decide +kernel
theorem dX0_begin_42 : decode cX0_begin 42 = .ok (.getfield 11, 3) := by decide +kernel
theorem dX0_begin_45 : decode cX0_begin 45 = .ok (.iload_n 2, 1) := by decide +kernel
theorem dX0_begin_46 : decode cX0_begin 46 = .ok (.aaload, 1) := by decide +kernel
theorem dX0_begin_47 : decode cX0_begin 47 = .ok (.iload_n 3, 1) := by decide +kernel
theorem dX0_begin_48 : decode cX0_begin 48 = .ok (.iconst 0, 1) := by decide +kernel
theorem dX0_begin_49 : decode cX0_begin 49 = .ok (.iastore, 1) := by decide +kernel
theorem dX0_begin_50 : decode cX0_begin 50 = .ok (.iinc 3 1, 3) := by decide +kernel
theorem dX0_begin_53 : decode cX0_begin 53 = .ok (.goto (-18), 3) := by decide +kernel
theorem dX0_begin_56 : decode cX0_begin 56 = .ok (.iinc 2 1, 3) := by decide +kernel
theorem dX0_begin_59 : decode cX0_begin 59 = .ok (.goto (-32), 3) := by decide +kernel
theorem dX0_begin_62 : decode cX0_begin 62 = .ok (.aload_n 0, 1) := by decide +kernel
theorem dX0_begin_63 : decode cX0_begin 63 = .ok (.getfield 29, 3) := by decide +kernel
theorem dX0_begin_66 : decode cX0_begin 66 = .ok (.ireturn, 1) := by decide +kernel
theorem dX0_set_0 : decode cX0_set 0 = .ok (.iload_n 1, 1) := by decide +kernel
theorem dX0_set_1 : decode cX0_set 1 = .ok (.invokestatic 33, 3) := by decide +kernel
theorem dX0_set_4 : decode cX0_set 4 = .ok (.iload_n 2, 1) := by decide +kernel
theorem dX0_set_5 : decode cX0_set 5 = .ok (.invokestatic 36, 3) := by decide +kernel
theorem dX0_set_8 : decode cX0_set 8 = .ok (.aload_n 0, 1) := by decide +kernel
theorem dX0_set_9 : decode cX0_set 9 = .ok (.getfield 11, 3) := by decide +kernel
theorem dX0_set_12 : decode cX0_set 12 = .ok (.iload_n 1, 1) := by decide +kernel
theorem dX0_set_13 : decode cX0_set 13 = .ok (.aaload, 1) := by decide +kernel
theorem dX0_set_14 : decode cX0_set 14 = .ok (.iload_n 2, 1) := by decide +kernel
theorem dX0_set_15 : decode cX0_set 15 = .ok (.iaload, 1) := by decide +kernel
theorem dX0_set_16 : decode cX0_set 16 = .ok (.istore 4, 2) := by decide +kernel
theorem dX0_set_18 : decode cX0_set 18 = .ok (.aload_n 0, 1) := by decide +kernel
theorem dX0_set_19 : decode cX0_set 19 = .ok (.getfield 11, 3) := by decide +kernel
theorem dX0_set_22 : decode cX0_set 22 = .ok (.iload_n 1, 1) := by decide +kernel
theorem dX0_set_23 : decode cX0_set 23 = .ok (.aaload, 1) := by decide +kernel
theorem dX0_set_24 : decode cX0_set 24 = .ok (.iload_n 2, 1) := by decide +kernel
theorem dX0_set_25 : decode cX0_set 25 = .ok (.iload_n 3, 1) := by decide +kernel
theorem dX0_set_26 : decode cX0_set 26 = .ok (.aload_n 0, 1) := by decide +kernel
theorem dX0_set_27 : decode cX0_set 27 = .ok (.getfield 29, 3) := by decide +kernel
theorem dX0_set_30 : decode cX0_set 30 = .ok (.invokestatic 39, 3) := by decide +kernel
theorem dX0_set_33 : decode cX0_set 33 = .ok (.iastore, 1) := by decide +kernel
theorem dX0_set_34 : decode cX0_set 34 = .ok (.iload 4, 2) := by decide +kernel
theorem dX0_set_36 : decode cX0_set 36 = .ok (.ireturn, 1) := by decide +kernel
theorem dX0_get_0 : decode cX0_get 0 = .ok (.iload_n 1, 1) := by decide +kernel
theorem dX0_get_1 : decode cX0_get 1 = .ok (.invokestatic 33, 3) := by decide +kernel
theorem dX0_get_4 : decode cX0_get 4 = .ok (.iload_n 2, 1) := by decide +kernel
theorem dX0_get_5 : decode cX0_get 5 = .ok (.invokestatic 36, 3) := by decide +kernel
theorem dX0_get_8 : decode cX0_get 8 = .ok (.aload_n 0, 1) := by decide +kernel
theorem dX0_get_9 : decode cX0_get 9 = .ok (.getfield 11, 3) := by decide +kernel
theorem dX0_get_12 : decode cX0_get 12 = .ok (.iload_n 1, 1) := by decide +kernel
theorem dX0_get_13 : decode cX0_get 13 = .ok (.aaload, 1) := by decide +kernel
theorem dX0_get_14 : decode cX0_get 14 = .ok (.iload_n 2, 1) := by decide +kernel
theorem dX0_get_15 : decode cX0_get 15 = .ok (.iaload, 1) := by decide +kernel
theorem dX0_get_16 : decode cX0_get 16 = .ok (.ireturn, 1) := by decide +kernel
theorem dX0_join_0 : decode cX0_join 0 = .ok (.iload_n 1, 1) := by decide +kernel
theorem dX0_join_1 : decode cX0_join 1 = .ok (.invokestatic 33, 3) := by decide +kernel
theorem dX0_join_4 : decode cX0_join 4 = .ok (.iload_n 3, 1) := by decide +kernel
theorem dX0_join_5 : decode cX0_join 5 = .ok (.invokestatic 33, 3) := by decide +kernel
theorem dX0_join_8 : decode cX0_join 8 = .ok (.iload 4, 2) := by decide +kernel
theorem dX0_join_10 : decode cX0_join 10 = .ok (.invokestatic 33, 3) := by decide +kernel
theorem dX0_join_13 : decode cX0_join 13 = .ok (.iload_n 2, 1) := by decide +kernel
theorem dX0_join_14 : decode cX0_join 14 = .ok (.ifCond .lt 12, 3) := by decide +kernel
theorem dX0_join_17 : decode cX0_join 17 = .ok (.iload_n 2, 1) := by decide +kernel
theorem dX0_join_18 : decode cX0_join 18 = .ok (.iconst 2, 1) := by decide +kernel
theorem dX0_join_19 : decode cX0_join 19 = .ok (.if_icmp .gt 7, 3) := by decide +kernel
theorem dX0_join_22 : decode cX0_join 22 = .ok (.iconst 1, 1) := by decide +kernel
theorem dX0_join_23 : decode cX0_join 23 = .ok (.goto 4, 3) := by decide +kernel
theorem dX0_join_26 : decode cX0_join 26 = .ok (.iconst 0, 1) := by decide +kernel
theorem dX0_join_27 : decode cX0_join 27 = .ok (.invokestatic 25, 3) := by decide +kernel
theorem dX0_join_30 : decode cX0_join 30 = .ok (.iconst 0, 1) := by decide +kernel
theorem dX0_join_31 : decode cX0_join 31 = .ok (.istore 5, 2) := by decide +kernel
theorem dX0_join_33 : decode cX0_join 33 = .ok (.iload 5, 2) := by decide +kernel
theorem dX0_join_35 : decode cX0_join 35 = .ok (.bipush 16, 2) := by decide +kernel
theorem dX0_join_37 : decode cX0_join 37 = .ok (.if_icmp .ge 36, 3) := by decide +kernel
theorem dX0_join_40 : decode cX0_join 40 = .ok (.aload_n 0, 1) := by decide +kernel
theorem dX0_join_41 : decode cX0_join 41 = .ok (.getfield 14, 3) := by decide +kernel
theorem dX0_join_44 : decode cX0_join 44 = .ok (.iload 5, 2) := by decide +kernel
theorem dX0_join_46 : decode cX0_join 46 = .ok (.aload_n 0, 1) := by decide +kernel
theorem dX0_join_47 : decode cX0_join 47 = .ok (.iload_n 2, 1) := by decide +kernel
theorem dX0_join_48 : decode cX0_join 48 = .ok (.aload_n 0, 1) := by decide +kernel
theorem dX0_join_49 : decode cX0_join 49 = .ok (.getfield 11, 3) := by decide +kernel
theorem dX0_join_52 : decode cX0_join 52 = .ok (.iload_n 3, 1) := by decide +kernel
theorem dX0_join_53 : decode cX0_join 53 = .ok (.aaload, 1) := by decide +kernel
theorem dX0_join_54 : decode cX0_join 54 = .ok (.aload_n 0, 1) := by decide +kernel
theorem dX0_join_55 : decode cX0_join 55 = .ok (.getfield 11, 3) := by decide +kernel
theorem dX0_join_58 : decode cX0_join 58 = .ok (.iload 4, 2) := by decide +kernel
theorem dX0_join_60 : decode cX0_join 60 = .ok (.aaload, 1) := by decide +kernel
theorem dX0_join_61 : decode cX0_join 61 = .ok (.iload 5, 2) := by decide +kernel
theorem dX0_join_63 : decode cX0_join 63 = .ok (.invokevirtual 45, 3) := by decide +kernel
theorem dX0_join_66 : decode cX0_join 66 = .ok (.iastore, 1) := by decide +kernel
theorem dX0_join_67 : decode cX0_join 67 = .ok (.iinc 5 1, 3) := by decide +kernel
theorem dX0_join_70 : decode cX0_join 70 = .ok (.goto (-37), 3) := by decide +kernel
theorem dX0_join_73 : decode cX0_join 73 = .ok (.aload_n 0, 1) := by decide +kernel
theorem dX0_join_74 : decode cX0_join 74 = .ok (.getfield 14, 3) := by decide +kernel
theorem dX0_join_77 : decode cX0_join 77 = .ok (.iconst 0, 1) := by decide +kernel
theorem dX0_join_78 : decode cX0_join 78 = .ok (.aload_n 0, 1) := by decide +kernel
theorem dX0_join_79 : decode cX0_join 79 = .ok (.getfield 11, 3) := by decide +kernel
theorem dX0_join_82 : decode cX0_join 82 = .ok (.iload_n 1, 1) := by decide +kernel
theorem dX0_join_83 : decode cX0_join 83 = .ok (.aaload, 1) := by decide +kernel
theorem dX0_join_84 : decode cX0_join 84 = .ok (.iconst 0, 1) := by decide +kernel
theorem dX0_join_85 : decode cX0_join 85 = .ok (.bipush 16, 2) := by decide +kernel
theorem dX0_join_87 : decode cX0_join 87 = .ok (.invokestatic 49, 3) := by decide +kernel
theorem dX0_join_90 : decode cX0_join 90 = .ok (.aload_n 0, 1) := by decide +kernel
theorem dX0_join_91 : decode cX0_join 91 = .ok (.aload_n 0, 1) := by decide +kernel
theorem dX0_join_92 : decode cX0_join 92 = .ok (.getfield 11, 3) := by decide +kernel
theorem dX0_join_95 : decode cX0_join 95 = .ok (.iload_n 1, 1) := by decide +kernel
theorem dX0_join_96 : decode cX0_join 96 = .ok (.aaload, 1) := by decide +kernel
theorem dX0_join_97 : decode cX0_join 97 = .ok (.invokevirtual 55, 3) := by decide +kernel
theorem dX0_join_100 : decode cX0_join 100 = .ok (.ireturn, 1) := by decide +kernel
theorem dX0_round_0 : decode cX0_round 0 = .ok (.iload_n 1, 1) := by decide +kernel
theorem dX0_round_1 : decode cX0_round 1 = .ok (.invokestatic 33, 3) := by decide +kernel
theorem dX0_round_4 : decode cX0_round 4 = .ok (.iload_n 3, 1) := by decide +kernel
theorem dX0_round_5 : decode cX0_round 5 = .ok (.invokestatic 33, 3) := by decide +kernel
theorem dX0_round_8 : decode cX0_round 8 = .ok (.iload_n 2, 1) := by decide +kernel
theorem dX0_round_9 : decode cX0_round 9 = .ok (.ifCond .lt 12, 3) := by decide +kernel
theorem dX0_round_12 : decode cX0_round 12 = .ok (.iload_n 2, 1) := by decide +kernel
theorem dX0_round_13 : decode cX0_round 13 = .ok (.iconst 3, 1) := by decide +kernel
theorem dX0_round_14 : decode cX0_round 14 = .ok (.if_icmp .gt 7, 3) := by decide +kernel
theorem dX0_round_17 : decode cX0_round 17 = .ok (.iconst 1, 1) := by decide +kernel
theorem dX0_round_18 : decode cX0_round 18 = .ok (.goto 4, 3) := by decide +kernel
theorem dX0_round_21 : decode cX0_round 21 = .ok (.iconst 0, 1) := by decide +kernel
theorem dX0_round_22 : decode cX0_round 22 = .ok (.invokestatic 25, 3) := by decide +kernel
theorem dX0_round_25 : decode cX0_round 25 = .ok (.iload 4, 2) := by decide +kernel
theorem dX0_round_27 : decode cX0_round 27 = .ok (.iconst 1, 1) := by decide +kernel
theorem dX0_round_28 : decode cX0_round 28 = .ok (.if_icmp .lt 20, 3) := by decide +kernel
theorem dX0_round_31 : decode cX0_round 31 = .ok (.iload 4, 2) := by decide +kernel
theorem dX0_round_33 : decode cX0_round 33 = .ok (.getstatic 59, 3) := by decide +kernel
theorem dX0_round_36 : decode cX0_round 36 = .ok (.aload_n 0, 1) := by decide +kernel
theorem dX0_round_37 : decode cX0_round 37 = .ok (.getfield 62, 3) := by decide +kernel
theorem dX0_round_40 : decode cX0_round 40 = .ok (.iaload, 1) := by decide +kernel
theorem dX0_round_41 : decode cX0_round 41 = .ok (.if_icmp .gt 7, 3) := by decide +kernel
theorem dX0_round_44 : decode cX0_round 44 = .ok (.iconst 1, 1) := by decide +kernel
theorem dX0_round_45 : decode cX0_round 45 = .ok (.goto 4, 3) := by decide +kernel
theorem dX0_round_48 : decode cX0_round 48 = .ok (.iconst 0, 1) := by decide +kernel
theorem dX0_round_49 : decode cX0_round 49 = .ok (.invokestatic 25, 3) := by decide +kernel
theorem dX0_round_52 : decode cX0_round 52 = .ok (.iconst 0, 1) := by decide +kernel
theorem dX0_round_53 : decode cX0_round 53 = .ok (.istore 5, 2) := by decide +kernel
theorem dX0_round_55 : decode cX0_round 55 = .ok (.iload 5, 2) := by decide +kernel
theorem dX0_round_57 : decode cX0_round 57 = .ok (.bipush 16, 2) := by decide +kernel
theorem dX0_round_59 : decode cX0_round 59 = .ok (.if_icmp .ge 34, 3) := by decide +kernel
theorem dX0_round_62 : decode cX0_round 62 = .ok (.aload_n 0, 1) := by decide +kernel
theorem dX0_round_63 : decode cX0_round 63 = .ok (.getfield 11, 3) := by decide +kernel
theorem dX0_round_66 : decode cX0_round 66 = .ok (.iload_n 1, 1) := by decide +kernel
theorem dX0_round_67 : decode cX0_round 67 = .ok (.aaload, 1) := by decide +kernel
theorem dX0_round_68 : decode cX0_round 68 = .ok (.iload 5, 2) := by decide +kernel
theorem dX0_round_70 : decode cX0_round 70 = .ok (.aload_n 0, 1) := by decide +kernel
theorem dX0_round_71 : decode cX0_round 71 = .ok (.iload_n 2, 1) := by decide +kernel
theorem dX0_round_72 : decode cX0_round 72 = .ok (.aload_n 0, 1) := by decide +kernel
theorem dX0_round_73 : decode cX0_round 73 = .ok (.getfield 11, 3) := by decide +kernel
theorem dX0_round_76 : decode cX0_round 76 = .ok (.iload_n 3, 1) := by decide +kernel
theorem dX0_round_77 : decode cX0_round 77 = .ok (.aaload, 1) := by decide +kernel
theorem dX0_round_78 : decode cX0_round 78 = .ok (.iload 5, 2) := by decide +kernel
theorem dX0_round_80 : decode cX0_round 80 = .ok (.iaload, 1) := by decide +kernel
theorem dX0_round_81 : decode cX0_round 81 = .ok (.iload 4, 2) := by decide +kernel
theorem dX0_round_83 : decode cX0_round 83 = .ok (.invokevirtual 65, 3) := by decide +kernel
theorem dX0_round_86 : decode cX0_round 86 = .ok (.iastore, 1) := by decide +kernel
theorem dX0_round_87 : decode cX0_round 87 = .ok (.iinc 5 1, 3) := by decide +kernel
theorem dX0_round_90 : decode cX0_round 90 = .ok (.goto (-35), 3) := by decide +kernel
theorem dX0_round_93 : decode cX0_round 93 = .ok (.aload_n 0, 1) := by decide +kernel
theorem dX0_round_94 : decode cX0_round 94 = .ok (.getfield 11, 3) := by decide +kernel
theorem dX0_round_97 : decode cX0_round 97 = .ok (.iload_n 1, 1) := by decide +kernel
theorem dX0_round_98 : decode cX0_round 98 = .ok (.aaload, 1) := by decide +kernel
theorem dX0_round_99 : decode cX0_round 99 = .ok (.invokestatic 69, 3) := by decide +kernel
theorem dX0_round_102 : decode cX0_round 102 = .ok (.ireturn, 1) := by decide +kernel
theorem dX0_part_0 : decode cX0_part 0 = .ok (.iload_n 1, 1) := by decide +kernel
theorem dX0_part_1 : decode cX0_part 1 = .ok (.invokestatic 33, 3) := by decide +kernel
theorem dX0_part_4 : decode cX0_part 4 = .ok (.iload_n 2, 1) := by decide +kernel
theorem dX0_part_5 : decode cX0_part 5 = .ok (.invokestatic 33, 3) := by decide +kernel
theorem dX0_part_8 : decode cX0_part 8 = .ok (.aload_n 0, 1) := by decide +kernel
theorem dX0_part_9 : decode cX0_part 9 = .ok (.iload_n 3, 1) := by decide +kernel
theorem dX0_part_10 : decode cX0_part 10 = .ok (.invokevirtual 72, 3) := by decide +kernel
theorem dX0_part_13 : decode cX0_part 13 = .ok (.invokestatic 25, 3) := by decide +kernel
theorem dX0_part_16 : decode cX0_part 16 = .ok (.iconst 0, 1) := by decide +kernel
theorem dX0_part_17 : decode cX0_part 17 = .ok (.istore 5, 2) := by decide +kernel
theorem dX0_part_19 : decode cX0_part 19 = .ok (.iload 5, 2) := by decide +kernel
theorem dX0_part_21 : decode cX0_part 21 = .ok (.bipush 16, 2) := by decide +kernel
theorem dX0_part_23 : decode cX0_part 23 = .ok (.if_icmp .ge 58, 3) := by decide +kernel
theorem dX0_part_26 : decode cX0_part 26 = .ok (.aload_n 0, 1) := by decide +kernel
theorem dX0_part_27 : decode cX0_part 27 = .ok (.getfield 11, 3) := by decide +kernel
theorem dX0_part_30 : decode cX0_part 30 = .ok (.iload_n 2, 1) := by decide +kernel
theorem dX0_part_31 : decode cX0_part 31 = .ok (.aaload, 1) := by decide +kernel
theorem dX0_part_32 : decode cX0_part 32 = .ok (.iload 5, 2) := by decide +kernel
theorem dX0_part_34 : decode cX0_part 34 = .ok (.iaload, 1) := by decide +kernel
theorem dX0_part_35 : decode cX0_part 35 = .ok (.istore 6, 2) := by decide +kernel
theorem dX0_part_37 : decode cX0_part 37 = .ok (.aload_n 0, 1) := by decide +kernel
theorem dX0_part_38 : decode cX0_part 38 = .ok (.getfield 11, 3) := by decide +kernel
theorem dX0_part_41 : decode cX0_part 41 = .ok (.iload_n 1, 1) := by decide +kernel
theorem dX0_part_42 : decode cX0_part 42 = .ok (.aaload, 1) := by decide +kernel
theorem dX0_part_43 : decode cX0_part 43 = .ok (.iload 5, 2) := by decide +kernel
theorem dX0_part_45 : decode cX0_part 45 = .ok (.iload 4, 2) := by decide +kernel
theorem dX0_part_47 : decode cX0_part 47 = .ok (.ifCond .eq 13, 3) := by decide +kernel
theorem dX0_part_50 : decode cX0_part 50 = .ok (.aload_n 0, 1) := by decide +kernel
theorem dX0_part_51 : decode cX0_part 51 = .ok (.iload 6, 2) := by decide +kernel
theorem dX0_part_53 : decode cX0_part 53 = .ok (.iload_n 3, 1) := by decide +kernel
theorem dX0_part_54 : decode cX0_part 54 = .ok (.invokevirtual 76, 3) := by decide +kernel
theorem dX0_part_57 : decode cX0_part 57 = .ok (.goto 17, 3) := by decide +kernel
theorem dX0_part_60 : decode cX0_part 60 = .ok (.aload_n 0, 1) := by decide +kernel
theorem dX0_part_61 : decode cX0_part 61 = .ok (.iload 6, 2) := by decide +kernel
theorem dX0_part_63 : decode cX0_part 63 = .ok (.iload_n 3, 1) := by decide +kernel
theorem dX0_part_64 : decode cX0_part 64 = .ok (.invokevirtual 79, 3) := by decide +kernel
theorem dX0_part_67 : decode cX0_part 67 = .ok (.aload_n 0, 1) := by decide +kernel
theorem dX0_part_68 : decode cX0_part 68 = .ok (.getfield 29, 3) := by decide +kernel
theorem dX0_part_71 : decode cX0_part 71 = .ok (.invokestatic 39, 3) := by decide +kernel
theorem dX0_part_74 : decode cX0_part 74 = .ok (.iastore, 1) := by decide +kernel
theorem dX0_part_75 : decode cX0_part 75 = .ok (.iinc 5 1, 3) := by decide +kernel
theorem dX0_part_78 : decode cX0_part 78 = .ok (.goto (-59), 3) := by decide +kernel
theorem dX0_part_81 : decode cX0_part 81 = .ok (.aload_n 0, 1) := by decide +kernel
theorem dX0_part_82 : decode cX0_part 82 = .ok (.getfield 11, 3) := by decide +kernel
theorem dX0_part_85 : decode cX0_part 85 = .ok (.iload_n 1, 1) := by decide +kernel
theorem dX0_part_86 : decode cX0_part 86 = .ok (.aaload, 1) := by decide +kernel
theorem dX0_part_87 : decode cX0_part 87 = .ok (.invokestatic 69, 3) := by decide +kernel
theorem dX0_part_90 : decode cX0_part 90 = .ok (.ireturn, 1) := by decide +kernel
theorem dX0_hint_0 : decode cX0_hint 0 = .ok (.iload_n 1, 1) := by decide +kernel
theorem dX0_hint_1 : decode cX0_hint 1 = .ok (.invokestatic 33, 3) := by decide +kernel
theorem dX0_hint_4 : decode cX0_hint 4 = .ok (.iload_n 2, 1) := by decide +kernel
theorem dX0_hint_5 : decode cX0_hint 5 = .ok (.invokestatic 33, 3) := by decide +kernel
theorem dX0_hint_8 : decode cX0_hint 8 = .ok (.iload_n 3, 1) := by decide +kernel
theorem dX0_hint_9 : decode cX0_hint 9 = .ok (.invokestatic 33, 3) := by decide +kernel
theorem dX0_hint_12 : decode cX0_hint 12 = .ok (.aload_n 0, 1) := by decide +kernel
theorem dX0_hint_13 : decode cX0_hint 13 = .ok (.iload 4, 2) := by decide +kernel
theorem dX0_hint_15 : decode cX0_hint 15 = .ok (.invokevirtual 72, 3) := by decide +kernel
theorem dX0_hint_18 : decode cX0_hint 18 = .ok (.invokestatic 25, 3) := by decide +kernel
theorem dX0_hint_21 : decode cX0_hint 21 = .ok (.iconst 0, 1) := by decide +kernel
theorem dX0_hint_22 : decode cX0_hint 22 = .ok (.istore 5, 2) := by decide +kernel
theorem dX0_hint_24 : decode cX0_hint 24 = .ok (.iload 5, 2) := by decide +kernel
theorem dX0_hint_26 : decode cX0_hint 26 = .ok (.bipush 16, 2) := by decide +kernel
theorem dX0_hint_28 : decode cX0_hint 28 = .ok (.if_icmp .ge 72, 3) := by decide +kernel
theorem dX0_hint_31 : decode cX0_hint 31 = .ok (.aload_n 0, 1) := by decide +kernel
theorem dX0_hint_32 : decode cX0_hint 32 = .ok (.getfield 11, 3) := by decide +kernel
theorem dX0_hint_35 : decode cX0_hint 35 = .ok (.iload_n 2, 1) := by decide +kernel
theorem dX0_hint_36 : decode cX0_hint 36 = .ok (.aaload, 1) := by decide +kernel
theorem dX0_hint_37 : decode cX0_hint 37 = .ok (.iload 5, 2) := by decide +kernel
theorem dX0_hint_39 : decode cX0_hint 39 = .ok (.iaload, 1) := by decide +kernel
theorem dX0_hint_40 : decode cX0_hint 40 = .ok (.istore 6, 2) := by decide +kernel
theorem dX0_hint_42 : decode cX0_hint 42 = .ok (.iload 6, 2) := by decide +kernel
theorem dX0_hint_44 : decode cX0_hint 44 = .ok (.aload_n 0, 1) := by decide +kernel
theorem dX0_hint_45 : decode cX0_hint 45 = .ok (.getfield 11, 3) := by decide +kernel
theorem dX0_hint_48 : decode cX0_hint 48 = .ok (.iload_n 3, 1) := by decide +kernel
theorem dX0_hint_49 : decode cX0_hint 49 = .ok (.aaload, 1) := by decide +kernel
theorem dX0_hint_50 : decode cX0_hint 50 = .ok (.iload 5, 2) := by decide +kernel
theorem dX0_hint_52 : decode cX0_hint 52 = .ok (.iaload, 1) := by decide +kernel
theorem dX0_hint_53 : decode cX0_hint 53 = .ok (.iadd, 1) := by decide +kernel
theorem dX0_hint_54 : decode cX0_hint 54 = .ok (.aload_n 0, 1) := by decide +kernel
theorem dX0_hint_55 : decode cX0_hint 55 = .ok (.getfield 29, 3) := by decide +kernel
theorem dX0_hint_58 : decode cX0_hint 58 = .ok (.irem, 1) := by decide +kernel
theorem dX0_hint_59 : decode cX0_hint 59 = .ok (.istore 7, 2) := by decide +kernel
theorem dX0_hint_61 : decode cX0_hint 61 = .ok (.aload_n 0, 1) := by decide +kernel
theorem dX0_hint_62 : decode cX0_hint 62 = .ok (.getfield 11, 3) := by decide +kernel
theorem dX0_hint_65 : decode cX0_hint 65 = .ok (.iload_n 1, 1) := by decide +kernel
theorem dX0_hint_66 : decode cX0_hint 66 = .ok (.aaload, 1) := by decide +kernel
theorem dX0_hint_67 : decode cX0_hint 67 = .ok (.iload 5, 2) := by decide +kernel
theorem dX0_hint_69 : decode cX0_hint 69 = .ok (.aload_n 0, 1) := by decide +kernel
theorem dX0_hint_70 : decode cX0_hint 70 = .ok (.iload 6, 2) := by decide +kernel
theorem dX0_hint_72 : decode cX0_hint 72 = .ok (.iload 4, 2) := by decide +kernel
theorem dX0_hint_74 : decode cX0_hint 74 = .ok (.invokevirtual 76, 3) := by decide +kernel
theorem dX0_hint_77 : decode cX0_hint 77 = .ok (.aload_n 0, 1) := by decide +kernel
theorem dX0_hint_78 : decode cX0_hint 78 = .ok (.iload 7, 2) := by decide +kernel
theorem dX0_hint_80 : decode cX0_hint 80 = .ok (.iload 4, 2) := by decide +kernel
theorem dX0_hint_82 : decode cX0_hint 82 = .ok (.invokevirtual 76, 3) := by decide +kernel
theorem dX0_hint_85 : decode cX0_hint 85 = .ok (.if_icmp .eq 7, 3) := by decide +kernel
theorem dX0_hint_88 : decode cX0_hint 88 = .ok (.iconst 1, 1) := by decide +kernel
theorem dX0_hint_89 : decode cX0_hint 89 = .ok (.goto 4, 3) := by decide +kernel
theorem dX0_hint_92 : decode cX0_hint 92 = .ok (.iconst 0, 1) := by decide +kernel
theorem dX0_hint_93 : decode cX0_hint 93 = .ok (.iastore, 1) := by decide +kernel
theorem dX0_hint_94 : decode cX0_hint 94 = .ok (.iinc 5 1, 3) := by decide +kernel
theorem dX0_hint_97 : decode cX0_hint 97 = .ok (.goto (-73), 3) := by decide +kernel
theorem dX0_hint_100 : decode cX0_hint 100 = .ok (.aload_n 0, 1) := by decide +kernel
theorem dX0_hint_101 : decode cX0_hint 101 = .ok (.getfield 11, 3) := by decide +kernel
theorem dX0_hint_104 : decode cX0_hint 104 = .ok (.iload_n 1, 1) := by decide +kernel
theorem dX0_hint_105 : decode cX0_hint 105 = .ok (.aaload, 1) := by decide +kernel
theorem dX0_hint_106 : decode cX0_hint 106 = .ok (.invokestatic 69, 3) := by decide +kernel
theorem dX0_hint_109 : decode cX0_hint 109 = .ok (.ireturn, 1) := by decide +kernel
theorem dX0_use_0 : decode cX0_use 0 = .ok (.iload_n 1, 1) := by decide +kernel
theorem dX0_use_1 : decode cX0_use 1 = .ok (.invokestatic 33, 3) := by decide +kernel
theorem dX0_use_4 : decode cX0_use 4 = .ok (.iload_n 2, 1) := by decide +kernel
theorem dX0_use_5 : decode cX0_use 5 = .ok (.invokestatic 33, 3) := by decide +kernel
theorem dX0_use_8 : decode cX0_use 8 = .ok (.iload_n 3, 1) := by decide +kernel
theorem dX0_use_9 : decode cX0_use 9 = .ok (.invokestatic 33, 3) := by decide +kernel
theorem dX0_use_12 : decode cX0_use 12 = .ok (.aload_n 0, 1) := by decide +kernel
theorem dX0_use_13 : decode cX0_use 13 = .ok (.iload 4, 2) := by decide +kernel
theorem dX0_use_15 : decode cX0_use 15 = .ok (.invokevirtual 72, 3) := by decide +kernel
theorem dX0_use_18 : decode cX0_use 18 = .ok (.invokestatic 25, 3) := by decide +kernel
theorem dX0_use_21 : decode cX0_use 21 = .ok (.iconst 0, 1) := by decide +kernel
theorem dX0_use_22 : decode cX0_use 22 = .ok (.istore 5, 2) := by decide +kernel
theorem dX0_use_24 : decode cX0_use 24 = .ok (.iconst 0, 1) := by decide +kernel
theorem dX0_use_25 : decode cX0_use 25 = .ok (.istore 6, 2) := by decide +kernel
theorem dX0_use_27 : decode cX0_use 27 = .ok (.iload 6, 2) := by decide +kernel
theorem dX0_use_29 : decode cX0_use 29 = .ok (.bipush 16, 2) := by decide +kernel
theorem dX0_use_31 : decode cX0_use 31 = .ok (.if_icmp .ge 78, 3) := by decide +kernel
theorem dX0_use_34 : decode cX0_use 34 = .ok (.aload_n 0, 1) := by decide +kernel
theorem dX0_use_35 : decode cX0_use 35 = .ok (.getfield 11, 3) := by decide +kernel
theorem dX0_use_38 : decode cX0_use 38 = .ok (.iload_n 2, 1) := by decide +kernel
theorem dX0_use_39 : decode cX0_use 39 = .ok (.aaload, 1) := by decide +kernel
theorem dX0_use_40 : decode cX0_use 40 = .ok (.iload 6, 2) := by decide +kernel
theorem dX0_use_42 : decode cX0_use 42 = .ok (.iaload, 1) := by decide +kernel
theorem dX0_use_43 : decode cX0_use 43 = .ok (.istore 7, 2) := by decide +kernel
theorem dX0_use_45 : decode cX0_use 45 = .ok (.aload_n 0, 1) := by decide +kernel
theorem dX0_use_46 : decode cX0_use 46 = .ok (.iload 7, 2) := by decide +kernel
theorem dX0_use_48 : decode cX0_use 48 = .ok (.iload 4, 2) := by decide +kernel
theorem dX0_use_50 : decode cX0_use 50 = .ok (.invokevirtual 76, 3) := by decide +kernel
theorem dX0_use_53 : decode cX0_use 53 = .ok (.istore 8, 2) := by decide +kernel
theorem dX0_use_55 : decode cX0_use 55 = .ok (.aload_n 0, 1) := by decide +kernel
theorem dX0_use_56 : decode cX0_use 56 = .ok (.getfield 11, 3) := by decide +kernel
theorem dX0_use_59 : decode cX0_use 59 = .ok (.iload_n 3, 1) := by decide +kernel
theorem dX0_use_60 : decode cX0_use 60 = .ok (.aaload, 1) := by decide +kernel
theorem dX0_use_61 : decode cX0_use 61 = .ok (.iload 6, 2) := by decide +kernel
theorem dX0_use_63 : decode cX0_use 63 = .ok (.iaload, 1) := by decide +kernel
theorem dX0_use_64 : decode cX0_use 64 = .ok (.ifCond .eq 14, 3) := by decide +kernel
theorem dX0_use_67 : decode cX0_use 67 = .ok (.aload_n 0, 1) := by decide +kernel
theorem dX0_use_68 : decode cX0_use 68 = .ok (.iload 7, 2) := by decide +kernel
theorem dX0_use_70 : decode cX0_use 70 = .ok (.iload 4, 2) := by decide +kernel
theorem dX0_use_72 : decode cX0_use 72 = .ok (.invokevirtual 82, 3) := by decide +kernel
theorem dX0_use_75 : decode cX0_use 75 = .ok (.goto 5, 3) := by decide +kernel
theorem dX0_use_78 : decode cX0_use 78 = .ok (.iload 8, 2) := by decide +kernel
theorem dX0_use_80 : decode cX0_use 80 = .ok (.istore 9, 2) := by decide +kernel
theorem dX0_use_82 : decode cX0_use 82 = .ok (.iload 9, 2) := by decide +kernel
theorem dX0_use_84 : decode cX0_use 84 = .ok (.iload 8, 2) := by decide +kernel
theorem dX0_use_86 : decode cX0_use 86 = .ok (.if_icmp .eq 6, 3) := by decide +kernel
theorem dX0_use_89 : decode cX0_use 89 = .ok (.iinc 5 1, 3) := by decide +kernel
theorem dX0_use_92 : decode cX0_use 92 = .ok (.aload_n 0, 1) := by decide +kernel
theorem dX0_use_93 : decode cX0_use 93 = .ok (.getfield 11, 3) := by decide +kernel
theorem dX0_use_96 : decode cX0_use 96 = .ok (.iload_n 1, 1) := by decide +kernel
theorem dX0_use_97 : decode cX0_use 97 = .ok (.aaload, 1) := by decide +kernel
theorem dX0_use_98 : decode cX0_use 98 = .ok (.iload 6, 2) := by decide +kernel
theorem dX0_use_100 : decode cX0_use 100 = .ok (.iload 9, 2) := by decide +kernel
theorem dX0_use_102 : decode cX0_use 102 = .ok (.iastore, 1) := by decide +kernel
theorem dX0_use_103 : decode cX0_use 103 = .ok (.iinc 6 1, 3) := by decide +kernel
theorem dX0_use_106 : decode cX0_use 106 = .ok (.goto (-79), 3) := by decide +kernel
theorem dX0_use_109 : decode cX0_use 109 = .ok (.iload 5, 2) := by decide +kernel
theorem dX0_use_111 : decode cX0_use 111 = .ok (.ireturn, 1) := by decide +kernel
theorem dX0_size_0 : decode cX0_size 0 = .ok (.iload_n 1, 1) := by decide +kernel
theorem dX0_size_1 : decode cX0_size 1 = .ok (.invokestatic 33, 3) := by decide +kernel
theorem dX0_size_4 : decode cX0_size 4 = .ok (.aload_n 0, 1) := by decide +kernel
theorem dX0_size_5 : decode cX0_size 5 = .ok (.aload_n 0, 1) := by decide +kernel
theorem dX0_size_6 : decode cX0_size 6 = .ok (.getfield 11, 3) := by decide +kernel
theorem dX0_size_9 : decode cX0_size 9 = .ok (.iload_n 1, 1) := by decide +kernel
theorem dX0_size_10 : decode cX0_size 10 = .ok (.aaload, 1) := by decide +kernel
theorem dX0_size_11 : decode cX0_size 11 = .ok (.invokevirtual 55, 3) := by decide +kernel
theorem dX0_size_14 : decode cX0_size 14 = .ok (.ireturn, 1) := by decide +kernel
theorem dX0_far_0 : decode cX0_far 0 = .ok (.iload_n 1, 1) := by decide +kernel
theorem dX0_far_1 : decode cX0_far 1 = .ok (.invokestatic 33, 3) := by decide +kernel
theorem dX0_far_4 : decode cX0_far 4 = .ok (.iload_n 2, 1) := by decide +kernel
theorem dX0_far_5 : decode cX0_far 5 = .ok (.invokestatic 33, 3) := by decide +kernel
theorem dX0_far_8 : decode cX0_far 8 = .ok (.iconst 0, 1) := by decide +kernel
theorem dX0_far_9 : decode cX0_far 9 = .ok (.istore_n 3, 1) := by decide +kernel
theorem dX0_far_10 : decode cX0_far 10 = .ok (.iconst 0, 1) := by decide +kernel
theorem dX0_far_11 : decode cX0_far 11 = .ok (.istore 4, 2) := by decide +kernel
theorem dX0_far_13 : decode cX0_far 13 = .ok (.iload 4, 2) := by decide +kernel
theorem dX0_far_15 : decode cX0_far 15 = .ok (.bipush 16, 2) := by decide +kernel
theorem dX0_far_17 : decode cX0_far 17 = .ok (.if_icmp .ge 42, 3) := by decide +kernel
theorem dX0_far_20 : decode cX0_far 20 = .ok (.iload_n 3, 1) := by decide +kernel
theorem dX0_far_21 : decode cX0_far 21 = .ok (.aload_n 0, 1) := by decide +kernel
theorem dX0_far_22 : decode cX0_far 22 = .ok (.aload_n 0, 1) := by decide +kernel
theorem dX0_far_23 : decode cX0_far 23 = .ok (.getfield 11, 3) := by decide +kernel
theorem dX0_far_26 : decode cX0_far 26 = .ok (.iload_n 1, 1) := by decide +kernel
theorem dX0_far_27 : decode cX0_far 27 = .ok (.aaload, 1) := by decide +kernel
theorem dX0_far_28 : decode cX0_far 28 = .ok (.iload 4, 2) := by decide +kernel
theorem dX0_far_30 : decode cX0_far 30 = .ok (.iaload, 1) := by decide +kernel
theorem dX0_far_31 : decode cX0_far 31 = .ok (.aload_n 0, 1) := by decide +kernel
theorem dX0_far_32 : decode cX0_far 32 = .ok (.getfield 11, 3) := by decide +kernel
theorem dX0_far_35 : decode cX0_far 35 = .ok (.iload_n 2, 1) := by decide +kernel
theorem dX0_far_36 : decode cX0_far 36 = .ok (.aaload, 1) := by decide +kernel
theorem dX0_far_37 : decode cX0_far 37 = .ok (.iload 4, 2) := by decide +kernel
theorem dX0_far_39 : decode cX0_far 39 = .ok (.iaload, 1) := by decide +kernel
theorem dX0_far_40 : decode cX0_far 40 = .ok (.isub, 1) := by decide +kernel
theorem dX0_far_41 : decode cX0_far 41 = .ok (.aload_n 0, 1) := by decide +kernel
theorem dX0_far_42 : decode cX0_far 42 = .ok (.getfield 29, 3) := by decide +kernel
theorem dX0_far_45 : decode cX0_far 45 = .ok (.invokestatic 39, 3) := by decide +kernel
theorem dX0_far_48 : decode cX0_far 48 = .ok (.invokevirtual 85, 3) := by decide +kernel
theorem dX0_far_51 : decode cX0_far 51 = .ok (.iadd, 1) := by decide +kernel
theorem dX0_far_52 : decode cX0_far 52 = .ok (.istore_n 3, 1) := by decide +kernel
theorem dX0_far_53 : decode cX0_far 53 = .ok (.iinc 4 1, 3) := by decide +kernel
theorem dX0_far_56 : decode cX0_far 56 = .ok (.goto (-43), 3) := by decide +kernel
theorem dX0_far_59 : decode cX0_far 59 = .ok (.iload_n 3, 1) := by decide +kernel
theorem dX0_far_60 : decode cX0_far 60 = .ok (.ireturn, 1) := by decide +kernel
theorem dX0_noise_0 : decode cX0_noise 0 = .ok (.iload_n 1, 1) := by decide +kernel
theorem dX0_noise_1 : decode cX0_noise 1 = .ok (.invokestatic 33, 3) := by decide +kernel
theorem dX0_noise_4 : decode cX0_noise 4 = .ok (.iload_n 2, 1) := by decide +kernel
theorem dX0_noise_5 : decode cX0_noise 5 = .ok (.iconst 1, 1) := by decide +kernel
theorem dX0_noise_6 : decode cX0_noise 6 = .ok (.if_icmp .lt 12, 3) := by decide +kernel
theorem dX0_noise_9 : decode cX0_noise 9 = .ok (.iload_n 2, 1) := by decide +kernel
theorem dX0_noise_10 : decode cX0_noise 10 = .ok (.iconst 3, 1) := by decide +kernel
theorem dX0_noise_11 : decode cX0_noise 11 = .ok (.if_icmp .gt 7, 3) := by decide +kernel
theorem dX0_noise_14 : decode cX0_noise 14 = .ok (.iconst 1, 1) := by decide +kernel
theorem dX0_noise_15 : decode cX0_noise 15 = .ok (.goto 4, 3) := by decide +kernel
theorem dX0_noise_18 : decode cX0_noise 18 = .ok (.iconst 0, 1) := by decide +kernel
theorem dX0_noise_19 : decode cX0_noise 19 = .ok (.invokestatic 25, 3) := by decide +kernel
theorem dX0_noise_22 : decode cX0_noise 22 = .ok (.iconst 0, 1) := by decide +kernel
theorem dX0_noise_23 : decode cX0_noise 23 = .ok (.istore 7, 2) := by decide +kernel
theorem dX0_noise_25 : decode cX0_noise 25 = .ok (.iload 7, 2) := by decide +kernel
theorem dX0_noise_27 : decode cX0_noise 27 = .ok (.bipush 16, 2) := by decide +kernel
theorem dX0_noise_29 : decode cX0_noise 29 = .ok (.if_icmp .ge 62, 3) := by decide +kernel
theorem dX0_noise_32 : decode cX0_noise 32 = .ok (.iconst 2, 1) := by decide +kernel
theorem dX0_noise_33 : decode cX0_noise 33 = .ok (.iload_n 2, 1) := by decide +kernel
theorem dX0_noise_34 : decode cX0_noise 34 = .ok (.imul, 1) := by decide +kernel
theorem dX0_noise_35 : decode cX0_noise 35 = .ok (.iload 7, 2) := by decide +kernel
theorem dX0_noise_37 : decode cX0_noise 37 = .ok (.imul, 1) := by decide +kernel
theorem dX0_noise_38 : decode cX0_noise 38 = .ok (.istore 8, 2) := by decide +kernel
theorem dX0_noise_40 : decode cX0_noise 40 = .ok (.iload 8, 2) := by decide +kernel
theorem dX0_noise_42 : decode cX0_noise 42 = .ok (.iload_n 2, 1) := by decide +kernel
theorem dX0_noise_43 : decode cX0_noise 43 = .ok (.lload_n 3, 1) := by decide +kernel
theorem dX0_noise_44 : decode cX0_noise 44 = .ok (.lload 5, 2) := by decide +kernel
theorem dX0_noise_46 : decode cX0_noise 46 = .ok (.invokestatic 89, 3) := by decide +kernel
theorem dX0_noise_49 : decode cX0_noise 49 = .ok (.istore 9, 2) := by decide +kernel
theorem dX0_noise_51 : decode cX0_noise 51 = .ok (.iload 8, 2) := by decide +kernel
theorem dX0_noise_53 : decode cX0_noise 53 = .ok (.iload_n 2, 1) := by decide +kernel
theorem dX0_noise_54 : decode cX0_noise 54 = .ok (.iadd, 1) := by decide +kernel
theorem dX0_noise_55 : decode cX0_noise 55 = .ok (.iload_n 2, 1) := by decide +kernel
theorem dX0_noise_56 : decode cX0_noise 56 = .ok (.lload_n 3, 1) := by decide +kernel
theorem dX0_noise_57 : decode cX0_noise 57 = .ok (.lload 5, 2) := by decide +kernel
theorem dX0_noise_59 : decode cX0_noise 59 = .ok (.invokestatic 89, 3) := by decide +kernel
theorem dX0_noise_62 : decode cX0_noise 62 = .ok (.istore 10, 2) := by decide +kernel
theorem dX0_noise_64 : decode cX0_noise 64 = .ok (.aload_n 0, 1) := by decide +kernel
theorem dX0_noise_65 : decode cX0_noise 65 = .ok (.getfield 11, 3) := by decide +kernel
theorem dX0_noise_68 : decode cX0_noise 68 = .ok (.iload_n 1, 1) := by decide +kernel
theorem dX0_noise_69 : decode cX0_noise 69 = .ok (.aaload, 1) := by decide +kernel
theorem dX0_noise_70 : decode cX0_noise 70 = .ok (.iload 7, 2) := by decide +kernel
theorem dX0_noise_72 : decode cX0_noise 72 = .ok (.iload 9, 2) := by decide +kernel
theorem dX0_noise_74 : decode cX0_noise 74 = .ok (.iload 10, 2) := by decide +kernel
theorem dX0_noise_76 : decode cX0_noise 76 = .ok (.isub, 1) := by decide +kernel
theorem dX0_noise_77 : decode cX0_noise 77 = .ok (.aload_n 0, 1) := by decide +kernel
theorem dX0_noise_78 : decode cX0_noise 78 = .ok (.getfield 29, 3) := by decide +kernel
theorem dX0_noise_81 : decode cX0_noise 81 = .ok (.invokestatic 39, 3) := by decide +kernel
theorem dX0_noise_84 : decode cX0_noise 84 = .ok (.iastore, 1) := by decide +kernel
theorem dX0_noise_85 : decode cX0_noise 85 = .ok (.iinc 7 1, 3) := by decide +kernel
theorem dX0_noise_88 : decode cX0_noise 88 = .ok (.goto (-63), 3) := by decide +kernel
theorem dX0_noise_91 : decode cX0_noise 91 = .ok (.aload_n 0, 1) := by decide +kernel
theorem dX0_noise_92 : decode cX0_noise 92 = .ok (.getfield 11, 3) := by decide +kernel
theorem dX0_noise_95 : decode cX0_noise 95 = .ok (.iload_n 1, 1) := by decide +kernel
theorem dX0_noise_96 : decode cX0_noise 96 = .ok (.aaload, 1) := by decide +kernel
theorem dX0_noise_97 : decode cX0_noise 97 = .ok (.invokestatic 69, 3) := by decide +kernel
theorem dX0_noise_100 : decode cX0_noise 100 = .ok (.ireturn, 1) := by decide +kernel
end
section
theorem dX0_value_0 : decode cX0_value 0 = .ok (.iload_n 1, 1) := by decide +kernel
theorem dX0_value_1 : decode cX0_value 1 = .ok (.invokestatic 33, 3) := by decide +kernel
theorem dX0_value_4 : decode cX0_value 4 = .ok (.iload_n 2, 1) := by decide +kernel
theorem dX0_value_5 : decode cX0_value 5 = .ok (.invokestatic 36, 3) := by decide +kernel
theorem dX0_value_8 : decode cX0_value 8 = .ok (.aload_n 0, 1) := by decide +kernel
theorem dX0_value_9 : decode cX0_value 9 = .ok (.getfield 62, 3) := by decide +kernel
theorem dX0_value_12 : decode cX0_value 12 = .ok (.ifCond .ne 33, 3) := by decide +kernel
theorem dX0_value_15 : decode cX0_value 15 = .ok (.aload_n 0, 1) := by decide +kernel
theorem dX0_value_16 : decode cX0_value 16 = .ok (.aload_n 0, 1) := by decide +kernel
theorem dX0_value_17 : decode cX0_value 17 = .ok (.getfield 11, 3) := by decide +kernel
theorem dX0_value_20 : decode cX0_value 20 = .ok (.iload_n 1, 1) := by decide +kernel
theorem dX0_value_21 : decode cX0_value 21 = .ok (.aaload, 1) := by decide +kernel
theorem dX0_value_22 : decode cX0_value 22 = .ok (.iload_n 2, 1) := by decide +kernel
theorem dX0_value_23 : decode cX0_value 23 = .ok (.iconst 2, 1) := by decide +kernel
theorem dX0_value_24 : decode cX0_value 24 = .ok (.irem, 1) := by decide +kernel
theorem dX0_value_25 : decode cX0_value 25 = .ok (.iconst 2, 1) := by decide +kernel
theorem dX0_value_26 : decode cX0_value 26 = .ok (.aload_n 0, 1) := by decide +kernel
theorem dX0_value_27 : decode cX0_value 27 = .ok (.aload_n 0, 1) := by decide +kernel
theorem dX0_value_28 : decode cX0_value 28 = .ok (.getfield 93, 3) := by decide +kernel
theorem dX0_value_31 : decode cX0_value 31 = .ok (.iconst 2, 1) := by decide +kernel
theorem dX0_value_32 : decode cX0_value 32 = .ok (.iload_n 2, 1) := by decide +kernel
theorem dX0_value_33 : decode cX0_value 33 = .ok (.iconst 2, 1) := by decide +kernel
theorem dX0_value_34 : decode cX0_value 34 = .ok (.idiv, 1) := by decide +kernel
theorem dX0_value_35 : decode cX0_value 35 = .ok (.imul, 1) := by decide +kernel
theorem dX0_value_36 : decode cX0_value 36 = .ok (.iconst 1, 1) := by decide +kernel
theorem dX0_value_37 : decode cX0_value 37 = .ok (.iadd, 1) := by decide +kernel
theorem dX0_value_38 : decode cX0_value 38 = .ok (.invokevirtual 96, 3) := by decide +kernel
theorem dX0_value_41 : decode cX0_value 41 = .ok (.invokevirtual 99, 3) := by decide +kernel
theorem dX0_value_44 : decode cX0_value 44 = .ok (.ireturn, 1) := by decide +kernel
theorem dX0_value_45 : decode cX0_value 45 = .ok (.aload_n 0, 1) := by decide +kernel
theorem dX0_value_46 : decode cX0_value 46 = .ok (.aload_n 0, 1) := by decide +kernel
theorem dX0_value_47 : decode cX0_value 47 = .ok (.getfield 11, 3) := by decide +kernel
theorem dX0_value_50 : decode cX0_value 50 = .ok (.iload_n 1, 1) := by decide +kernel
theorem dX0_value_51 : decode cX0_value 51 = .ok (.aaload, 1) := by decide +kernel
theorem dX0_value_52 : decode cX0_value 52 = .ok (.iconst 0, 1) := by decide +kernel
theorem dX0_value_53 : decode cX0_value 53 = .ok (.iconst 1, 1) := by decide +kernel
theorem dX0_value_54 : decode cX0_value 54 = .ok (.aload_n 0, 1) := by decide +kernel
theorem dX0_value_55 : decode cX0_value 55 = .ok (.aload_n 0, 1) := by decide +kernel
theorem dX0_value_56 : decode cX0_value 56 = .ok (.getfield 93, 3) := by decide +kernel
theorem dX0_value_59 : decode cX0_value 59 = .ok (.iconst 2, 1) := by decide +kernel
theorem dX0_value_60 : decode cX0_value 60 = .ok (.iload_n 2, 1) := by decide +kernel
theorem dX0_value_61 : decode cX0_value 61 = .ok (.imul, 1) := by decide +kernel
theorem dX0_value_62 : decode cX0_value 62 = .ok (.iconst 1, 1) := by decide +kernel
theorem dX0_value_63 : decode cX0_value 63 = .ok (.iadd, 1) := by decide +kernel
theorem dX0_value_64 : decode cX0_value 64 = .ok (.invokevirtual 96, 3) := by decide +kernel
theorem dX0_value_67 : decode cX0_value 67 = .ok (.invokevirtual 99, 3) := by decide +kernel
theorem dX0_value_70 : decode cX0_value 70 = .ok (.ireturn, 1) := by decide +kernel
theorem dX0_unit_0 : decode cX0_unit 0 = .ok (.iload_n 1, 1) := by decide +kernel
theorem dX0_unit_1 : decode cX0_unit 1 = .ok (.invokestatic 33, 3) := by decide +kernel
theorem dX0_unit_4 : decode cX0_unit 4 = .ok (.aload_n 0, 1) := by decide +kernel
theorem dX0_unit_5 : decode cX0_unit 5 = .ok (.getstatic 103, 3) := by decide +kernel
theorem dX0_unit_8 : decode cX0_unit 8 = .ok (.aload_n 0, 1) := by decide +kernel
theorem dX0_unit_9 : decode cX0_unit 9 = .ok (.getfield 62, 3) := by decide +kernel
theorem dX0_unit_12 : decode cX0_unit 12 = .ok (.iaload, 1) := by decide +kernel
theorem dX0_unit_13 : decode cX0_unit 13 = .ok (.getstatic 106, 3) := by decide +kernel
theorem dX0_unit_16 : decode cX0_unit 16 = .ok (.aload_n 0, 1) := by decide +kernel
theorem dX0_unit_17 : decode cX0_unit 17 = .ok (.getfield 62, 3) := by decide +kernel
theorem dX0_unit_20 : decode cX0_unit 20 = .ok (.iaload, 1) := by decide +kernel
theorem dX0_unit_21 : decode cX0_unit 21 = .ok (.invokevirtual 96, 3) := by decide +kernel
theorem dX0_unit_24 : decode cX0_unit 24 = .ok (.istore_n 2, 1) := by decide +kernel
theorem dX0_unit_25 : decode cX0_unit 25 = .ok (.iconst 0, 1) := by decide +kernel
theorem dX0_unit_26 : decode cX0_unit 26 = .ok (.istore_n 3, 1) := by decide +kernel
theorem dX0_unit_27 : decode cX0_unit 27 = .ok (.iload_n 3, 1) := by decide +kernel
theorem dX0_unit_28 : decode cX0_unit 28 = .ok (.bipush 16, 2) := by decide +kernel
theorem dX0_unit_30 : decode cX0_unit 30 = .ok (.if_icmp .ge 36, 3) := by decide +kernel
theorem dX0_unit_33 : decode cX0_unit 33 = .ok (.aload_n 0, 1) := by decide +kernel
theorem dX0_unit_34 : decode cX0_unit 34 = .ok (.aload_n 0, 1) := by decide +kernel
theorem dX0_unit_35 : decode cX0_unit 35 = .ok (.getfield 11, 3) := by decide +kernel
theorem dX0_unit_38 : decode cX0_unit 38 = .ok (.iload_n 1, 1) := by decide +kernel
theorem dX0_unit_39 : decode cX0_unit 39 = .ok (.aaload, 1) := by decide +kernel
theorem dX0_unit_40 : decode cX0_unit 40 = .ok (.iconst 0, 1) := by decide +kernel
theorem dX0_unit_41 : decode cX0_unit 41 = .ok (.iconst 1, 1) := by decide +kernel
theorem dX0_unit_42 : decode cX0_unit 42 = .ok (.aload_n 0, 1) := by decide +kernel
theorem dX0_unit_43 : decode cX0_unit 43 = .ok (.iload_n 2, 1) := by decide +kernel
theorem dX0_unit_44 : decode cX0_unit 44 = .ok (.iconst 2, 1) := by decide +kernel
theorem dX0_unit_45 : decode cX0_unit 45 = .ok (.iload_n 3, 1) := by decide +kernel
theorem dX0_unit_46 : decode cX0_unit 46 = .ok (.imul, 1) := by decide +kernel
theorem dX0_unit_47 : decode cX0_unit 47 = .ok (.iconst 1, 1) := by decide +kernel
theorem dX0_unit_48 : decode cX0_unit 48 = .ok (.iadd, 1) := by decide +kernel
theorem dX0_unit_49 : decode cX0_unit 49 = .ok (.invokevirtual 96, 3) := by decide +kernel
theorem dX0_unit_52 : decode cX0_unit 52 = .ok (.invokevirtual 99, 3) := by decide +kernel
theorem dX0_unit_55 : decode cX0_unit 55 = .ok (.ifCond .ne 5, 3) := by decide +kernel
theorem dX0_unit_58 : decode cX0_unit 58 = .ok (.iconst 0, 1) := by decide +kernel
theorem dX0_unit_59 : decode cX0_unit 59 = .ok (.ireturn, 1) := by decide +kernel
theorem dX0_unit_60 : decode cX0_unit 60 = .ok (.iinc 3 1, 3) := by decide +kernel
theorem dX0_unit_63 : decode cX0_unit 63 = .ok (.goto (-36), 3) := by decide +kernel
theorem dX0_unit_66 : decode cX0_unit 66 = .ok (.iconst 1, 1) := by decide +kernel
theorem dX0_unit_67 : decode cX0_unit 67 = .ok (.ireturn, 1) := by decide +kernel
theorem dX0_count_0 : decode cX0_count 0 = .ok (.iload_n 1, 1) := by decide +kernel
theorem dX0_count_1 : decode cX0_count 1 = .ok (.tableswitch 51 0 3 #[31, 36, 41, 46], 31) := by decide +kernel
theorem dX0_count_32 : decode cX0_count 32 = .ok (.aload_n 0, 1) := by decide +kernel
theorem dX0_count_33 : decode cX0_count 33 = .ok (.getfield 62, 3) := by decide +kernel
theorem dX0_count_36 : decode cX0_count 36 = .ok (.ireturn, 1) := by decide +kernel
theorem dX0_count_37 : decode cX0_count 37 = .ok (.aload_n 0, 1) := by decide +kernel
theorem dX0_count_38 : decode cX0_count 38 = .ok (.getfield 29, 3) := by decide +kernel
theorem dX0_count_41 : decode cX0_count 41 = .ok (.ireturn, 1) := by decide +kernel
theorem dX0_count_42 : decode cX0_count 42 = .ok (.aload_n 0, 1) := by decide +kernel
theorem dX0_count_43 : decode cX0_count 43 = .ok (.getfield 93, 3) := by decide +kernel
theorem dX0_count_46 : decode cX0_count 46 = .ok (.ireturn, 1) := by decide +kernel
theorem dX0_count_47 : decode cX0_count 47 = .ok (.aload_n 0, 1) := by decide +kernel
theorem dX0_count_48 : decode cX0_count 48 = .ok (.invokevirtual 109, 3) := by decide +kernel
theorem dX0_count_51 : decode cX0_count 51 = .ok (.ireturn, 1) := by decide +kernel
theorem dX0_count_52 : decode cX0_count 52 = .ok (.iconst (-1), 1) := by decide +kernel
theorem dX0_count_53 : decode cX0_count 53 = .ok (.ireturn, 1) := by decide +kernel
theorem dX0_needRegister_0 : decode cX0_needRegister 0 = .ok (.iload_n 0, 1) := by decide +kernel
theorem dX0_needRegister_1 : decode cX0_needRegister 1 = .ok (.ifCond .lt 9, 3) := by decide +kernel
theorem dX0_needRegister_4 : decode cX0_needRegister 4 = .ok (.iload_n 0, 1) := by decide +kernel
theorem dX0_needRegister_5 : decode cX0_needRegister 5 = .ok (.bipush 12, 2) := by decide +kernel
theorem dX0_needRegister_7 : decode cX0_needRegister 7 = .ok (.if_icmp .lt 13, 3) := by decide +kernel
theorem dX0_needRegister_10 : decode cX0_needRegister 10 = .ok (.new 113, 3) := by decide +kernel
theorem dX0_needRegister_13 : decode cX0_needRegister 13 = .ok (.dup, 1) := by decide +kernel
theorem dX0_needRegister_14 : decode cX0_needRegister 14 = .ok (.ldc 115, 2) := by decide +kernel
theorem dX0_needRegister_16 : decode cX0_needRegister 16 = .ok (.invokespecial 117, 3) := by decide +kernel
theorem dX0_needRegister_19 : decode cX0_needRegister 19 = .ok (.athrow, 1) := by decide +kernel
theorem dX0_needRegister_20 : decode cX0_needRegister 20 = .ok (.return_, 1) := by decide +kernel
theorem dX0_needPlace_0 : decode cX0_needPlace 0 = .ok (.iload_n 0, 1) := by decide +kernel
theorem dX0_needPlace_1 : decode cX0_needPlace 1 = .ok (.ifCond .lt 9, 3) := by decide +kernel
theorem dX0_needPlace_4 : decode cX0_needPlace 4 = .ok (.iload_n 0, 1) := by decide +kernel
theorem dX0_needPlace_5 : decode cX0_needPlace 5 = .ok (.bipush 16, 2) := by decide +kernel
theorem dX0_needPlace_7 : decode cX0_needPlace 7 = .ok (.if_icmp .lt 13, 3) := by decide +kernel
theorem dX0_needPlace_10 : decode cX0_needPlace 10 = .ok (.new 113, 3) := by decide +kernel
theorem dX0_needPlace_13 : decode cX0_needPlace 13 = .ok (.dup, 1) := by decide +kernel
theorem dX0_needPlace_14 : decode cX0_needPlace 14 = .ok (.ldc 120, 2) := by decide +kernel
theorem dX0_needPlace_16 : decode cX0_needPlace 16 = .ok (.invokespecial 117, 3) := by decide +kernel
theorem dX0_needPlace_19 : decode cX0_needPlace 19 = .ok (.athrow, 1) := by decide +kernel
theorem dX0_needPlace_20 : decode cX0_needPlace 20 = .ok (.return_, 1) := by decide +kernel
theorem dX0_needArgument_0 : decode cX0_needArgument 0 = .ok (.iload_n 0, 1) := by decide +kernel
theorem dX0_needArgument_1 : decode cX0_needArgument 1 = .ok (.ifCond .ne 13, 3) := by decide +kernel
theorem dX0_needArgument_4 : decode cX0_needArgument 4 = .ok (.new 122, 3) := by decide +kernel
theorem dX0_needArgument_7 : decode cX0_needArgument 7 = .ok (.dup, 1) := by decide +kernel
theorem dX0_needArgument_8 : decode cX0_needArgument 8 = .ok (.ldc 124, 2) := by decide +kernel
theorem dX0_needArgument_10 : decode cX0_needArgument 10 = .ok (.invokespecial 126, 3) := by decide +kernel
theorem dX0_needArgument_13 : decode cX0_needArgument 13 = .ok (.athrow, 1) := by decide +kernel
theorem dX0_needArgument_14 : decode cX0_needArgument 14 = .ok (.return_, 1) := by decide +kernel
theorem dX0_takeKind_0 : decode cX0_takeKind 0 = .ok (.aload_n 0, 1) := by decide +kernel
theorem dX0_takeKind_1 : decode cX0_takeKind 1 = .ok (.iload_n 1, 1) := by decide +kernel
theorem dX0_takeKind_2 : decode cX0_takeKind 2 = .ok (.putfield 62, 3) := by decide +kernel
theorem dX0_takeKind_5 : decode cX0_takeKind 5 = .ok (.aload_n 0, 1) := by decide +kernel
theorem dX0_takeKind_6 : decode cX0_takeKind 6 = .ok (.getstatic 22, 3) := by decide +kernel
theorem dX0_takeKind_9 : decode cX0_takeKind 9 = .ok (.iload_n 1, 1) := by decide +kernel
theorem dX0_takeKind_10 : decode cX0_takeKind 10 = .ok (.iaload, 1) := by decide +kernel
theorem dX0_takeKind_11 : decode cX0_takeKind 11 = .ok (.putfield 29, 3) := by decide +kernel
theorem dX0_takeKind_14 : decode cX0_takeKind 14 = .ok (.aload_n 0, 1) := by decide +kernel
theorem dX0_takeKind_15 : decode cX0_takeKind 15 = .ok (.aload_n 0, 1) := by decide +kernel
theorem dX0_takeKind_16 : decode cX0_takeKind 16 = .ok (.getstatic 103, 3) := by decide +kernel
theorem dX0_takeKind_19 : decode cX0_takeKind 19 = .ok (.iload_n 1, 1) := by decide +kernel
theorem dX0_takeKind_20 : decode cX0_takeKind 20 = .ok (.iaload, 1) := by decide +kernel
theorem dX0_takeKind_21 : decode cX0_takeKind 21 = .ok (.bipush 16, 2) := by decide +kernel
theorem dX0_takeKind_23 : decode cX0_takeKind 23 = .ok (.invokevirtual 96, 3) := by decide +kernel
theorem dX0_takeKind_26 : decode cX0_takeKind 26 = .ok (.putfield 93, 3) := by decide +kernel
theorem dX0_takeKind_29 : decode cX0_takeKind 29 = .ok (.return_, 1) := by decide +kernel
theorem dX0_power_0 : decode cX0_power 0 = .ok (.lconst 1, 1) := by decide +kernel
theorem dX0_power_1 : decode cX0_power 1 = .ok (.lstore_n 3, 1) := by decide +kernel
theorem dX0_power_2 : decode cX0_power 2 = .ok (.iconst 0, 1) := by decide +kernel
theorem dX0_power_3 : decode cX0_power 3 = .ok (.istore 5, 2) := by decide +kernel
theorem dX0_power_5 : decode cX0_power 5 = .ok (.iload 5, 2) := by decide +kernel
theorem dX0_power_7 : decode cX0_power 7 = .ok (.iload_n 2, 1) := by decide +kernel
theorem dX0_power_8 : decode cX0_power 8 = .ok (.if_icmp .ge 20, 3) := by decide +kernel
theorem dX0_power_11 : decode cX0_power 11 = .ok (.lload_n 3, 1) := by decide +kernel
theorem dX0_power_12 : decode cX0_power 12 = .ok (.iload_n 1, 1) := by decide +kernel
theorem dX0_power_13 : decode cX0_power 13 = .ok (.i2l, 1) := by decide +kernel
theorem dX0_power_14 : decode cX0_power 14 = .ok (.lmul, 1) := by decide +kernel
theorem dX0_power_15 : decode cX0_power 15 = .ok (.aload_n 0, 1) := by decide +kernel
theorem dX0_power_16 : decode cX0_power 16 = .ok (.getfield 29, 3) := by decide +kernel
theorem dX0_power_19 : decode cX0_power 19 = .ok (.i2l, 1) := by decide +kernel
theorem dX0_power_20 : decode cX0_power 20 = .ok (.lrem, 1) := by decide +kernel
theorem dX0_power_21 : decode cX0_power 21 = .ok (.lstore_n 3, 1) := by decide +kernel
theorem dX0_power_22 : decode cX0_power 22 = .ok (.iinc 5 1, 3) := by decide +kernel
theorem dX0_power_25 : decode cX0_power 25 = .ok (.goto (-20), 3) := by decide +kernel
theorem dX0_power_28 : decode cX0_power 28 = .ok (.lload_n 3, 1) := by decide +kernel
theorem dX0_power_29 : decode cX0_power 29 = .ok (.l2i, 1) := by decide +kernel
theorem dX0_power_30 : decode cX0_power 30 = .ok (.ireturn, 1) := by decide +kernel
theorem dX0_joined_0 : decode cX0_joined 0 = .ok (.iload_n 1, 1) := by decide +kernel
theorem dX0_joined_1 : decode cX0_joined 1 = .ok (.lookupswitch 59 #[(0, 27), (1, 42)], 27) := by decide +kernel
theorem dX0_joined_28 : decode cX0_joined 28 = .ok (.aload_n 2, 1) := by decide +kernel
theorem dX0_joined_29 : decode cX0_joined 29 = .ok (.iload 4, 2) := by decide +kernel
theorem dX0_joined_31 : decode cX0_joined 31 = .ok (.iaload, 1) := by decide +kernel
theorem dX0_joined_32 : decode cX0_joined 32 = .ok (.aload_n 3, 1) := by decide +kernel
theorem dX0_joined_33 : decode cX0_joined 33 = .ok (.iload 4, 2) := by decide +kernel
theorem dX0_joined_35 : decode cX0_joined 35 = .ok (.iaload, 1) := by decide +kernel
theorem dX0_joined_36 : decode cX0_joined 36 = .ok (.iadd, 1) := by decide +kernel
theorem dX0_joined_37 : decode cX0_joined 37 = .ok (.aload_n 0, 1) := by decide +kernel
theorem dX0_joined_38 : decode cX0_joined 38 = .ok (.getfield 29, 3) := by decide +kernel
theorem dX0_joined_41 : decode cX0_joined 41 = .ok (.irem, 1) := by decide +kernel
theorem dX0_joined_42 : decode cX0_joined 42 = .ok (.ireturn, 1) := by decide +kernel
theorem dX0_joined_43 : decode cX0_joined 43 = .ok (.aload_n 2, 1) := by decide +kernel
theorem dX0_joined_44 : decode cX0_joined 44 = .ok (.iload 4, 2) := by decide +kernel
theorem dX0_joined_46 : decode cX0_joined 46 = .ok (.iaload, 1) := by decide +kernel
theorem dX0_joined_47 : decode cX0_joined 47 = .ok (.aload_n 3, 1) := by decide +kernel
theorem dX0_joined_48 : decode cX0_joined 48 = .ok (.iload 4, 2) := by decide +kernel
theorem dX0_joined_50 : decode cX0_joined 50 = .ok (.iaload, 1) := by decide +kernel
theorem dX0_joined_51 : decode cX0_joined 51 = .ok (.isub, 1) := by decide +kernel
theorem dX0_joined_52 : decode cX0_joined 52 = .ok (.aload_n 0, 1) := by decide +kernel
theorem dX0_joined_53 : decode cX0_joined 53 = .ok (.getfield 29, 3) := by decide +kernel
theorem dX0_joined_56 : decode cX0_joined 56 = .ok (.invokestatic 39, 3) := by decide +kernel
theorem dX0_joined_59 : decode cX0_joined 59 = .ok (.ireturn, 1) := by decide +kernel
theorem dX0_joined_60 : decode cX0_joined 60 = .ok (.aload_n 0, 1) := by decide +kernel
theorem dX0_joined_61 : decode cX0_joined 61 = .ok (.aload_n 2, 1) := by decide +kernel
theorem dX0_joined_62 : decode cX0_joined 62 = .ok (.aload_n 3, 1) := by decide +kernel
theorem dX0_joined_63 : decode cX0_joined 63 = .ok (.iload 4, 2) := by decide +kernel
theorem dX0_joined_65 : decode cX0_joined 65 = .ok (.invokevirtual 127, 3) := by decide +kernel
theorem dX0_joined_68 : decode cX0_joined 68 = .ok (.ireturn, 1) := by decide +kernel
theorem dX0_productAt_0 : decode cX0_productAt 0 = .ok (.lconst 0, 1) := by decide +kernel
theorem dX0_productAt_1 : decode cX0_productAt 1 = .ok (.lstore 4, 2) := by decide +kernel
theorem dX0_productAt_3 : decode cX0_productAt 3 = .ok (.iconst 0, 1) := by decide +kernel
theorem dX0_productAt_4 : decode cX0_productAt 4 = .ok (.istore 6, 2) := by decide +kernel
theorem dX0_productAt_6 : decode cX0_productAt 6 = .ok (.iload 6, 2) := by decide +kernel
theorem dX0_productAt_8 : decode cX0_productAt 8 = .ok (.iload_n 3, 1) := by decide +kernel
theorem dX0_productAt_9 : decode cX0_productAt 9 = .ok (.if_icmp .gt 27, 3) := by decide +kernel
theorem dX0_productAt_12 : decode cX0_productAt 12 = .ok (.lload 4, 2) := by decide +kernel
theorem dX0_productAt_14 : decode cX0_productAt 14 = .ok (.aload_n 1, 1) := by decide +kernel
theorem dX0_productAt_15 : decode cX0_productAt 15 = .ok (.iload 6, 2) := by decide +kernel
theorem dX0_productAt_17 : decode cX0_productAt 17 = .ok (.iaload, 1) := by decide +kernel
theorem dX0_productAt_18 : decode cX0_productAt 18 = .ok (.i2l, 1) := by decide +kernel
theorem dX0_productAt_19 : decode cX0_productAt 19 = .ok (.aload_n 2, 1) := by decide +kernel
theorem dX0_productAt_20 : decode cX0_productAt 20 = .ok (.iload_n 3, 1) := by decide +kernel
theorem dX0_productAt_21 : decode cX0_productAt 21 = .ok (.iload 6, 2) := by decide +kernel
theorem dX0_productAt_23 : decode cX0_productAt 23 = .ok (.isub, 1) := by decide +kernel
theorem dX0_productAt_24 : decode cX0_productAt 24 = .ok (.iaload, 1) := by decide +kernel
theorem dX0_productAt_25 : decode cX0_productAt 25 = .ok (.i2l, 1) := by decide +kernel
theorem dX0_productAt_26 : decode cX0_productAt 26 = .ok (.lmul, 1) := by decide +kernel
theorem dX0_productAt_27 : decode cX0_productAt 27 = .ok (.ladd, 1) := by decide +kernel
theorem dX0_productAt_28 : decode cX0_productAt 28 = .ok (.lstore 4, 2) := by decide +kernel
theorem dX0_productAt_30 : decode cX0_productAt 30 = .ok (.iinc 6 1, 3) := by decide +kernel
theorem dX0_productAt_33 : decode cX0_productAt 33 = .ok (.goto (-27), 3) := by decide +kernel
theorem dX0_productAt_36 : decode cX0_productAt 36 = .ok (.iload_n 3, 1) := by decide +kernel
theorem dX0_productAt_37 : decode cX0_productAt 37 = .ok (.iconst 1, 1) := by decide +kernel
theorem dX0_productAt_38 : decode cX0_productAt 38 = .ok (.iadd, 1) := by decide +kernel
theorem dX0_productAt_39 : decode cX0_productAt 39 = .ok (.istore 6, 2) := by decide +kernel
theorem dX0_productAt_41 : decode cX0_productAt 41 = .ok (.iload 6, 2) := by decide +kernel
theorem dX0_productAt_43 : decode cX0_productAt 43 = .ok (.bipush 16, 2) := by decide +kernel
theorem dX0_productAt_45 : decode cX0_productAt 45 = .ok (.if_icmp .ge 30, 3) := by decide +kernel
theorem dX0_productAt_48 : decode cX0_productAt 48 = .ok (.lload 4, 2) := by decide +kernel
theorem dX0_productAt_50 : decode cX0_productAt 50 = .ok (.aload_n 1, 1) := by decide +kernel
theorem dX0_productAt_51 : decode cX0_productAt 51 = .ok (.iload 6, 2) := by decide +kernel
theorem dX0_productAt_53 : decode cX0_productAt 53 = .ok (.iaload, 1) := by decide +kernel
theorem dX0_productAt_54 : decode cX0_productAt 54 = .ok (.i2l, 1) := by decide +kernel
theorem dX0_productAt_55 : decode cX0_productAt 55 = .ok (.aload_n 2, 1) := by decide +kernel
theorem dX0_productAt_56 : decode cX0_productAt 56 = .ok (.bipush 16, 2) := by decide +kernel
theorem dX0_productAt_58 : decode cX0_productAt 58 = .ok (.iload_n 3, 1) := by decide +kernel
theorem dX0_productAt_59 : decode cX0_productAt 59 = .ok (.iadd, 1) := by decide +kernel
theorem dX0_productAt_60 : decode cX0_productAt 60 = .ok (.iload 6, 2) := by decide +kernel
theorem dX0_productAt_62 : decode cX0_productAt 62 = .ok (.isub, 1) := by decide +kernel
theorem dX0_productAt_63 : decode cX0_productAt 63 = .ok (.iaload, 1) := by decide +kernel
theorem dX0_productAt_64 : decode cX0_productAt 64 = .ok (.i2l, 1) := by decide +kernel
theorem dX0_productAt_65 : decode cX0_productAt 65 = .ok (.lmul, 1) := by decide +kernel
theorem dX0_productAt_66 : decode cX0_productAt 66 = .ok (.lsub, 1) := by decide +kernel
theorem dX0_productAt_67 : decode cX0_productAt 67 = .ok (.lstore 4, 2) := by decide +kernel
theorem dX0_productAt_69 : decode cX0_productAt 69 = .ok (.iinc 6 1, 3) := by decide +kernel
theorem dX0_productAt_72 : decode cX0_productAt 72 = .ok (.goto (-31), 3) := by decide +kernel
theorem dX0_productAt_75 : decode cX0_productAt 75 = .ok (.lload 4, 2) := by decide +kernel
theorem dX0_productAt_77 : decode cX0_productAt 77 = .ok (.aload_n 0, 1) := by decide +kernel
theorem dX0_productAt_78 : decode cX0_productAt 78 = .ok (.getfield 29, 3) := by decide +kernel
theorem dX0_productAt_81 : decode cX0_productAt 81 = .ok (.i2l, 1) := by decide +kernel
theorem dX0_productAt_82 : decode cX0_productAt 82 = .ok (.invokestatic 131, 3) := by decide +kernel
theorem dX0_productAt_85 : decode cX0_productAt 85 = .ok (.l2i, 1) := by decide +kernel
theorem dX0_productAt_86 : decode cX0_productAt 86 = .ok (.ireturn, 1) := by decide +kernel
theorem dX0_centredSize_0 : decode cX0_centredSize 0 = .ok (.iload_n 1, 1) := by decide +kernel
theorem dX0_centredSize_1 : decode cX0_centredSize 1 = .ok (.aload_n 0, 1) := by decide +kernel
theorem dX0_centredSize_2 : decode cX0_centredSize 2 = .ok (.getfield 29, 3) := by decide +kernel
theorem dX0_centredSize_5 : decode cX0_centredSize 5 = .ok (.iload_n 1, 1) := by decide +kernel
theorem dX0_centredSize_6 : decode cX0_centredSize 6 = .ok (.isub, 1) := by decide +kernel
theorem dX0_centredSize_7 : decode cX0_centredSize 7 = .ok (.invokestatic 134, 3) := by decide +kernel
theorem dX0_centredSize_10 : decode cX0_centredSize 10 = .ok (.ireturn, 1) := by decide +kernel
theorem dX0_greatestSize_0 : decode cX0_greatestSize 0 = .ok (.iconst 0, 1) := by decide +kernel
theorem dX0_greatestSize_1 : decode cX0_greatestSize 1 = .ok (.istore_n 2, 1) := by decide +kernel
theorem dX0_greatestSize_2 : decode cX0_greatestSize 2 = .ok (.iconst 0, 1) := by decide +kernel
theorem dX0_greatestSize_3 : decode cX0_greatestSize 3 = .ok (.istore_n 3, 1) := by decide +kernel
theorem dX0_greatestSize_4 : decode cX0_greatestSize 4 = .ok (.iload_n 3, 1) := by decide +kernel
theorem dX0_greatestSize_5 : decode cX0_greatestSize 5 = .ok (.bipush 16, 2) := by decide +kernel
theorem dX0_greatestSize_7 : decode cX0_greatestSize 7 = .ok (.if_icmp .ge 21, 3) := by decide +kernel
theorem dX0_greatestSize_10 : decode cX0_greatestSize 10 = .ok (.iload_n 2, 1) := by decide +kernel
theorem dX0_greatestSize_11 : decode cX0_greatestSize 11 = .ok (.aload_n 0, 1) := by decide +kernel
theorem dX0_greatestSize_12 : decode cX0_greatestSize 12 = .ok (.aload_n 1, 1) := by decide +kernel
theorem dX0_greatestSize_13 : decode cX0_greatestSize 13 = .ok (.iload_n 3, 1) := by decide +kernel
theorem dX0_greatestSize_14 : decode cX0_greatestSize 14 = .ok (.iaload, 1) := by decide +kernel
theorem dX0_greatestSize_15 : decode cX0_greatestSize 15 = .ok (.invokevirtual 85, 3) := by decide +kernel
theorem dX0_greatestSize_18 : decode cX0_greatestSize 18 = .ok (.invokestatic 137, 3) := by decide +kernel
theorem dX0_greatestSize_21 : decode cX0_greatestSize 21 = .ok (.istore_n 2, 1) := by decide +kernel
theorem dX0_greatestSize_22 : decode cX0_greatestSize 22 = .ok (.iinc 3 1, 3) := by decide +kernel
theorem dX0_greatestSize_25 : decode cX0_greatestSize 25 = .ok (.goto (-21), 3) := by decide +kernel
theorem dX0_greatestSize_28 : decode cX0_greatestSize 28 = .ok (.iload_n 2, 1) := by decide +kernel
theorem dX0_greatestSize_29 : decode cX0_greatestSize 29 = .ok (.ireturn, 1) := by decide +kernel
theorem dX0_notZero_0 : decode cX0_notZero 0 = .ok (.iconst 0, 1) := by decide +kernel
theorem dX0_notZero_1 : decode cX0_notZero 1 = .ok (.istore_n 1, 1) := by decide +kernel
theorem dX0_notZero_2 : decode cX0_notZero 2 = .ok (.iconst 0, 1) := by decide +kernel
theorem dX0_notZero_3 : decode cX0_notZero 3 = .ok (.istore_n 2, 1) := by decide +kernel
theorem dX0_notZero_4 : decode cX0_notZero 4 = .ok (.iload_n 2, 1) := by decide +kernel
theorem dX0_notZero_5 : decode cX0_notZero 5 = .ok (.bipush 16, 2) := by decide +kernel
theorem dX0_notZero_7 : decode cX0_notZero 7 = .ok (.if_icmp .ge 18, 3) := by decide +kernel
theorem dX0_notZero_10 : decode cX0_notZero 10 = .ok (.aload_n 0, 1) := by decide +kernel
theorem dX0_notZero_11 : decode cX0_notZero 11 = .ok (.iload_n 2, 1) := by decide +kernel
theorem dX0_notZero_12 : decode cX0_notZero 12 = .ok (.iaload, 1) := by decide +kernel
theorem dX0_notZero_13 : decode cX0_notZero 13 = .ok (.ifCond .eq 6, 3) := by decide +kernel
theorem dX0_notZero_16 : decode cX0_notZero 16 = .ok (.iinc 1 1, 3) := by decide +kernel
theorem dX0_notZero_19 : decode cX0_notZero 19 = .ok (.iinc 2 1, 3) := by decide +kernel
theorem dX0_notZero_22 : decode cX0_notZero 22 = .ok (.goto (-18), 3) := by decide +kernel
theorem dX0_notZero_25 : decode cX0_notZero 25 = .ok (.iload_n 1, 1) := by decide +kernel
theorem dX0_notZero_26 : decode cX0_notZero 26 = .ok (.ireturn, 1) := by decide +kernel
theorem dX0_emptyRegisters_0 : decode cX0_emptyRegisters 0 = .ok (.iconst 0, 1) := by decide +kernel
theorem dX0_emptyRegisters_1 : decode cX0_emptyRegisters 1 = .ok (.istore_n 1, 1) := by decide +kernel
theorem dX0_emptyRegisters_2 : decode cX0_emptyRegisters 2 = .ok (.iconst 0, 1) := by decide +kernel
theorem dX0_emptyRegisters_3 : decode cX0_emptyRegisters 3 = .ok (.istore_n 2, 1) := by decide +kernel
theorem dX0_emptyRegisters_4 : decode cX0_emptyRegisters 4 = .ok (.iload_n 2, 1) := by decide +kernel
theorem dX0_emptyRegisters_5 : decode cX0_emptyRegisters 5 = .ok (.bipush 12, 2) := by decide +kernel
theorem dX0_emptyRegisters_7 : decode cX0_emptyRegisters 7 = .ok (.if_icmp .ge 24, 3) := by decide +kernel
theorem dX0_emptyRegisters_10 : decode cX0_emptyRegisters 10 = .ok (.aload_n 0, 1) := by decide +kernel
theorem dX0_emptyRegisters_11 : decode cX0_emptyRegisters 11 = .ok (.getfield 11, 3) := by decide +kernel
theorem dX0_emptyRegisters_14 : decode cX0_emptyRegisters 14 = .ok (.iload_n 2, 1) := by decide +kernel
theorem dX0_emptyRegisters_15 : decode cX0_emptyRegisters 15 = .ok (.aaload, 1) := by decide +kernel
theorem dX0_emptyRegisters_16 : decode cX0_emptyRegisters 16 = .ok (.invokestatic 69, 3) := by decide +kernel
theorem dX0_emptyRegisters_19 : decode cX0_emptyRegisters 19 = .ok (.ifCond .ne 6, 3) := by decide +kernel
theorem dX0_emptyRegisters_22 : decode cX0_emptyRegisters 22 = .ok (.iinc 1 1, 3) := by decide +kernel
theorem dX0_emptyRegisters_25 : decode cX0_emptyRegisters 25 = .ok (.iinc 2 1, 3) := by decide +kernel
theorem dX0_emptyRegisters_28 : decode cX0_emptyRegisters 28 = .ok (.goto (-24), 3) := by decide +kernel
theorem dX0_emptyRegisters_31 : decode cX0_emptyRegisters 31 = .ok (.iload_n 1, 1) := by decide +kernel
theorem dX0_emptyRegisters_32 : decode cX0_emptyRegisters 32 = .ok (.ireturn, 1) := by decide +kernel
theorem dX0_rounded_0 : decode cX0_rounded 0 = .ok (.iload_n 1, 1) := by decide +kernel
theorem dX0_rounded_1 : decode cX0_rounded 1 = .ok (.tableswitch 59 0 2 #[27, 34, 46], 27) := by decide +kernel
theorem dX0_rounded_28 : decode cX0_rounded 28 = .ok (.aload_n 0, 1) := by decide +kernel
theorem dX0_rounded_29 : decode cX0_rounded 29 = .ok (.iload_n 2, 1) := by decide +kernel
theorem dX0_rounded_30 : decode cX0_rounded 30 = .ok (.iload_n 3, 1) := by decide +kernel
theorem dX0_rounded_31 : decode cX0_rounded 31 = .ok (.invokevirtual 140, 3) := by decide +kernel
theorem dX0_rounded_34 : decode cX0_rounded 34 = .ok (.ireturn, 1) := by decide +kernel
theorem dX0_rounded_35 : decode cX0_rounded 35 = .ok (.aload_n 0, 1) := by decide +kernel
theorem dX0_rounded_36 : decode cX0_rounded 36 = .ok (.iload_n 2, 1) := by decide +kernel
theorem dX0_rounded_37 : decode cX0_rounded 37 = .ok (.iload_n 3, 1) := by decide +kernel
theorem dX0_rounded_38 : decode cX0_rounded 38 = .ok (.invokestatic 143, 3) := by decide +kernel
theorem dX0_rounded_41 : decode cX0_rounded 41 = .ok (.iand, 1) := by decide +kernel
theorem dX0_rounded_42 : decode cX0_rounded 42 = .ok (.iload_n 3, 1) := by decide +kernel
theorem dX0_rounded_43 : decode cX0_rounded 43 = .ok (.invokevirtual 146, 3) := by decide +kernel
theorem dX0_rounded_46 : decode cX0_rounded 46 = .ok (.ireturn, 1) := by decide +kernel
theorem dX0_rounded_47 : decode cX0_rounded 47 = .ok (.iload_n 2, 1) := by decide +kernel
theorem dX0_rounded_48 : decode cX0_rounded 48 = .ok (.iload_n 3, 1) := by decide +kernel
theorem dX0_rounded_49 : decode cX0_rounded 49 = .ok (.invokestatic 149, 3) := by decide +kernel
theorem dX0_rounded_52 : decode cX0_rounded 52 = .ok (.aload_n 0, 1) := by decide +kernel
theorem dX0_rounded_53 : decode cX0_rounded 53 = .ok (.getfield 29, 3) := by decide +kernel
theorem dX0_rounded_56 : decode cX0_rounded 56 = .ok (.invokestatic 39, 3) := by decide +kernel
theorem dX0_rounded_59 : decode cX0_rounded 59 = .ok (.ireturn, 1) := by decide +kernel
theorem dX0_rounded_60 : decode cX0_rounded 60 = .ok (.iload_n 2, 1) := by decide +kernel
theorem dX0_rounded_61 : decode cX0_rounded 61 = .ok (.iload_n 2, 1) := by decide +kernel
theorem dX0_rounded_62 : decode cX0_rounded 62 = .ok (.iload_n 3, 1) := by decide +kernel
theorem dX0_rounded_63 : decode cX0_rounded 63 = .ok (.invokestatic 149, 3) := by decide +kernel
theorem dX0_rounded_66 : decode cX0_rounded 66 = .ok (.isub, 1) := by decide +kernel
theorem dX0_rounded_67 : decode cX0_rounded 67 = .ok (.iload_n 3, 1) := by decide +kernel
theorem dX0_rounded_68 : decode cX0_rounded 68 = .ok (.ishr, 1) := by decide +kernel
theorem dX0_rounded_69 : decode cX0_rounded 69 = .ok (.ireturn, 1) := by decide +kernel
theorem dX0_lowMask_0 : decode cX0_lowMask 0 = .ok (.iconst 1, 1) := by decide +kernel
theorem dX0_lowMask_1 : decode cX0_lowMask 1 = .ok (.iload_n 0, 1) := by decide +kernel
theorem dX0_lowMask_2 : decode cX0_lowMask 2 = .ok (.ishl, 1) := by decide +kernel
theorem dX0_lowMask_3 : decode cX0_lowMask 3 = .ok (.iconst 1, 1) := by decide +kernel
theorem dX0_lowMask_4 : decode cX0_lowMask 4 = .ok (.isub, 1) := by decide +kernel
theorem dX0_lowMask_5 : decode cX0_lowMask 5 = .ok (.ireturn, 1) := by decide +kernel
theorem dX0_fewerBits_0 : decode cX0_fewerBits 0 = .ok (.iload_n 1, 1) := by decide +kernel
theorem dX0_fewerBits_1 : decode cX0_fewerBits 1 = .ok (.i2l, 1) := by decide +kernel
theorem dX0_fewerBits_2 : decode cX0_fewerBits 2 = .ok (.iload_n 2, 1) := by decide +kernel
theorem dX0_fewerBits_3 : decode cX0_fewerBits 3 = .ok (.iconst 1, 1) := by decide +kernel
theorem dX0_fewerBits_4 : decode cX0_fewerBits 4 = .ok (.iadd, 1) := by decide +kernel
theorem dX0_fewerBits_5 : decode cX0_fewerBits 5 = .ok (.lshl, 1) := by decide +kernel
theorem dX0_fewerBits_6 : decode cX0_fewerBits 6 = .ok (.aload_n 0, 1) := by decide +kernel
theorem dX0_fewerBits_7 : decode cX0_fewerBits 7 = .ok (.getfield 29, 3) := by decide +kernel
theorem dX0_fewerBits_10 : decode cX0_fewerBits 10 = .ok (.i2l, 1) := by decide +kernel
theorem dX0_fewerBits_11 : decode cX0_fewerBits 11 = .ok (.ladd, 1) := by decide +kernel
theorem dX0_fewerBits_12 : decode cX0_fewerBits 12 = .ok (.ldc2_w 152, 3) := by decide +kernel
theorem dX0_fewerBits_15 : decode cX0_fewerBits 15 = .ok (.aload_n 0, 1) := by decide +kernel
theorem dX0_fewerBits_16 : decode cX0_fewerBits 16 = .ok (.getfield 29, 3) := by decide +kernel
theorem dX0_fewerBits_19 : decode cX0_fewerBits 19 = .ok (.i2l, 1) := by decide +kernel
theorem dX0_fewerBits_20 : decode cX0_fewerBits 20 = .ok (.lmul, 1) := by decide +kernel
theorem dX0_fewerBits_21 : decode cX0_fewerBits 21 = .ok (.ldiv, 1) := by decide +kernel
theorem dX0_fewerBits_22 : decode cX0_fewerBits 22 = .ok (.lstore_n 3, 1) := by decide +kernel
theorem dX0_fewerBits_23 : decode cX0_fewerBits 23 = .ok (.lload_n 3, 1) := by decide +kernel
theorem dX0_fewerBits_24 : decode cX0_fewerBits 24 = .ok (.l2i, 1) := by decide +kernel
theorem dX0_fewerBits_25 : decode cX0_fewerBits 25 = .ok (.iload_n 2, 1) := by decide +kernel
theorem dX0_fewerBits_26 : decode cX0_fewerBits 26 = .ok (.invokestatic 143, 3) := by decide +kernel
theorem dX0_fewerBits_29 : decode cX0_fewerBits 29 = .ok (.iand, 1) := by decide +kernel
theorem dX0_fewerBits_30 : decode cX0_fewerBits 30 = .ok (.ireturn, 1) := by decide +kernel
theorem dX0_moreBits_0 : decode cX0_moreBits 0 = .ok (.aload_n 0, 1) := by decide +kernel
theorem dX0_moreBits_1 : decode cX0_moreBits 1 = .ok (.getfield 29, 3) := by decide +kernel
theorem dX0_moreBits_4 : decode cX0_moreBits 4 = .ok (.i2l, 1) := by decide +kernel
theorem dX0_moreBits_5 : decode cX0_moreBits 5 = .ok (.iload_n 1, 1) := by decide +kernel
theorem dX0_moreBits_6 : decode cX0_moreBits 6 = .ok (.i2l, 1) := by decide +kernel
theorem dX0_moreBits_7 : decode cX0_moreBits 7 = .ok (.lmul, 1) := by decide +kernel
theorem dX0_moreBits_8 : decode cX0_moreBits 8 = .ok (.lconst 1, 1) := by decide +kernel
theorem dX0_moreBits_9 : decode cX0_moreBits 9 = .ok (.iload_n 2, 1) := by decide +kernel
theorem dX0_moreBits_10 : decode cX0_moreBits 10 = .ok (.iconst 1, 1) := by decide +kernel
theorem dX0_moreBits_11 : decode cX0_moreBits 11 = .ok (.isub, 1) := by decide +kernel
theorem dX0_moreBits_12 : decode cX0_moreBits 12 = .ok (.lshl, 1) := by decide +kernel
theorem dX0_moreBits_13 : decode cX0_moreBits 13 = .ok (.ladd, 1) := by decide +kernel
theorem dX0_moreBits_14 : decode cX0_moreBits 14 = .ok (.iload_n 2, 1) := by decide +kernel
theorem dX0_moreBits_15 : decode cX0_moreBits 15 = .ok (.lshr, 1) := by decide +kernel
theorem dX0_moreBits_16 : decode cX0_moreBits 16 = .ok (.l2i, 1) := by decide +kernel
theorem dX0_moreBits_17 : decode cX0_moreBits 17 = .ok (.ireturn, 1) := by decide +kernel
theorem dX0_lowBits_0 : decode cX0_lowBits 0 = .ok (.iload_n 0, 1) := by decide +kernel
theorem dX0_lowBits_1 : decode cX0_lowBits 1 = .ok (.iload_n 1, 1) := by decide +kernel
theorem dX0_lowBits_2 : decode cX0_lowBits 2 = .ok (.invokestatic 143, 3) := by decide +kernel
theorem dX0_lowBits_5 : decode cX0_lowBits 5 = .ok (.iand, 1) := by decide +kernel
theorem dX0_lowBits_6 : decode cX0_lowBits 6 = .ok (.istore_n 2, 1) := by decide +kernel
theorem dX0_lowBits_7 : decode cX0_lowBits 7 = .ok (.iload_n 2, 1) := by decide +kernel
theorem dX0_lowBits_8 : decode cX0_lowBits 8 = .ok (.iconst 1, 1) := by decide +kernel
theorem dX0_lowBits_9 : decode cX0_lowBits 9 = .ok (.iload_n 1, 1) := by decide +kernel
theorem dX0_lowBits_10 : decode cX0_lowBits 10 = .ok (.iconst 1, 1) := by decide +kernel
theorem dX0_lowBits_11 : decode cX0_lowBits 11 = .ok (.isub, 1) := by decide +kernel
theorem dX0_lowBits_12 : decode cX0_lowBits 12 = .ok (.ishl, 1) := by decide +kernel
theorem dX0_lowBits_13 : decode cX0_lowBits 13 = .ok (.if_icmp .le 11, 3) := by decide +kernel
theorem dX0_lowBits_16 : decode cX0_lowBits 16 = .ok (.iload_n 2, 1) := by decide +kernel
theorem dX0_lowBits_17 : decode cX0_lowBits 17 = .ok (.iconst 1, 1) := by decide +kernel
theorem dX0_lowBits_18 : decode cX0_lowBits 18 = .ok (.iload_n 1, 1) := by decide +kernel
theorem dX0_lowBits_19 : decode cX0_lowBits 19 = .ok (.ishl, 1) := by decide +kernel
theorem dX0_lowBits_20 : decode cX0_lowBits 20 = .ok (.isub, 1) := by decide +kernel
theorem dX0_lowBits_21 : decode cX0_lowBits 21 = .ok (.goto 4, 3) := by decide +kernel
theorem dX0_lowBits_24 : decode cX0_lowBits 24 = .ok (.iload_n 2, 1) := by decide +kernel
theorem dX0_lowBits_25 : decode cX0_lowBits 25 = .ok (.ireturn, 1) := by decide +kernel
theorem dX0_isAlpha_0 : decode cX0_isAlpha 0 = .ok (.iload_n 1, 1) := by decide +kernel
theorem dX0_isAlpha_1 : decode cX0_isAlpha 1 = .ok (.ifCond .le 24, 3) := by decide +kernel
theorem dX0_isAlpha_4 : decode cX0_isAlpha 4 = .ok (.iload_n 1, 1) := by decide +kernel
theorem dX0_isAlpha_5 : decode cX0_isAlpha 5 = .ok (.iconst 2, 1) := by decide +kernel
theorem dX0_isAlpha_6 : decode cX0_isAlpha 6 = .ok (.irem, 1) := by decide +kernel
theorem dX0_isAlpha_7 : decode cX0_isAlpha 7 = .ok (.ifCond .ne 18, 3) := by decide +kernel
theorem dX0_isAlpha_10 : decode cX0_isAlpha 10 = .ok (.aload_n 0, 1) := by decide +kernel
theorem dX0_isAlpha_11 : decode cX0_isAlpha 11 = .ok (.getfield 29, 3) := by decide +kernel
theorem dX0_isAlpha_14 : decode cX0_isAlpha 14 = .ok (.iconst 1, 1) := by decide +kernel
theorem dX0_isAlpha_15 : decode cX0_isAlpha 15 = .ok (.isub, 1) := by decide +kernel
theorem dX0_isAlpha_16 : decode cX0_isAlpha 16 = .ok (.iload_n 1, 1) := by decide +kernel
theorem dX0_isAlpha_17 : decode cX0_isAlpha 17 = .ok (.irem, 1) := by decide +kernel
theorem dX0_isAlpha_18 : decode cX0_isAlpha 18 = .ok (.ifCond .ne 7, 3) := by decide +kernel
theorem dX0_isAlpha_21 : decode cX0_isAlpha 21 = .ok (.iconst 1, 1) := by decide +kernel
theorem dX0_isAlpha_22 : decode cX0_isAlpha 22 = .ok (.goto 4, 3) := by decide +kernel
theorem dX0_isAlpha_25 : decode cX0_isAlpha 25 = .ok (.iconst 0, 1) := by decide +kernel
theorem dX0_isAlpha_26 : decode cX0_isAlpha 26 = .ok (.ireturn, 1) := by decide +kernel
theorem dX0_nearRest_0 : decode cX0_nearRest 0 = .ok (.iload_n 0, 1) := by decide +kernel
theorem dX0_nearRest_1 : decode cX0_nearRest 1 = .ok (.iload_n 1, 1) := by decide +kernel
theorem dX0_nearRest_2 : decode cX0_nearRest 2 = .ok (.irem, 1) := by decide +kernel
theorem dX0_nearRest_3 : decode cX0_nearRest 3 = .ok (.istore_n 2, 1) := by decide +kernel
theorem dX0_nearRest_4 : decode cX0_nearRest 4 = .ok (.iload_n 2, 1) := by decide +kernel
theorem dX0_nearRest_5 : decode cX0_nearRest 5 = .ok (.iload_n 1, 1) := by decide +kernel
theorem dX0_nearRest_6 : decode cX0_nearRest 6 = .ok (.iconst 2, 1) := by decide +kernel
theorem dX0_nearRest_7 : decode cX0_nearRest 7 = .ok (.idiv, 1) := by decide +kernel
theorem dX0_nearRest_8 : decode cX0_nearRest 8 = .ok (.if_icmp .le 9, 3) := by decide +kernel
theorem dX0_nearRest_11 : decode cX0_nearRest 11 = .ok (.iload_n 2, 1) := by decide +kernel
theorem dX0_nearRest_12 : decode cX0_nearRest 12 = .ok (.iload_n 1, 1) := by decide +kernel
theorem dX0_nearRest_13 : decode cX0_nearRest 13 = .ok (.isub, 1) := by decide +kernel
theorem dX0_nearRest_14 : decode cX0_nearRest 14 = .ok (.goto 4, 3) := by decide +kernel
theorem dX0_nearRest_17 : decode cX0_nearRest 17 = .ok (.iload_n 2, 1) := by decide +kernel
theorem dX0_nearRest_18 : decode cX0_nearRest 18 = .ok (.ireturn, 1) := by decide +kernel
theorem dX0_restOf_0 : decode cX0_restOf 0 = .ok (.iload_n 1, 1) := by decide +kernel
theorem dX0_restOf_1 : decode cX0_restOf 1 = .ok (.iload_n 2, 1) := by decide +kernel
theorem dX0_restOf_2 : decode cX0_restOf 2 = .ok (.invokestatic 154, 3) := by decide +kernel
theorem dX0_restOf_5 : decode cX0_restOf 5 = .ok (.istore_n 3, 1) := by decide +kernel
theorem dX0_restOf_6 : decode cX0_restOf 6 = .ok (.iload_n 1, 1) := by decide +kernel
theorem dX0_restOf_7 : decode cX0_restOf 7 = .ok (.iload_n 3, 1) := by decide +kernel
theorem dX0_restOf_8 : decode cX0_restOf 8 = .ok (.isub, 1) := by decide +kernel
theorem dX0_restOf_9 : decode cX0_restOf 9 = .ok (.aload_n 0, 1) := by decide +kernel
theorem dX0_restOf_10 : decode cX0_restOf 10 = .ok (.getfield 29, 3) := by decide +kernel
theorem dX0_restOf_13 : decode cX0_restOf 13 = .ok (.iconst 1, 1) := by decide +kernel
theorem dX0_restOf_14 : decode cX0_restOf 14 = .ok (.isub, 1) := by decide +kernel
theorem dX0_restOf_15 : decode cX0_restOf 15 = .ok (.if_icmp .ne 9, 3) := by decide +kernel
theorem dX0_restOf_18 : decode cX0_restOf 18 = .ok (.iload_n 3, 1) := by decide +kernel
theorem dX0_restOf_19 : decode cX0_restOf 19 = .ok (.iconst 1, 1) := by decide +kernel
theorem dX0_restOf_20 : decode cX0_restOf 20 = .ok (.isub, 1) := by decide +kernel
theorem dX0_restOf_21 : decode cX0_restOf 21 = .ok (.goto 4, 3) := by decide +kernel
theorem dX0_restOf_24 : decode cX0_restOf 24 = .ok (.iload_n 3, 1) := by decide +kernel
theorem dX0_restOf_25 : decode cX0_restOf 25 = .ok (.ireturn, 1) := by decide +kernel
theorem dX0_partOf_0 : decode cX0_partOf 0 = .ok (.iload_n 1, 1) := by decide +kernel
theorem dX0_partOf_1 : decode cX0_partOf 1 = .ok (.iload_n 1, 1) := by decide +kernel
theorem dX0_partOf_2 : decode cX0_partOf 2 = .ok (.iload_n 2, 1) := by decide +kernel
theorem dX0_partOf_3 : decode cX0_partOf 3 = .ok (.invokestatic 154, 3) := by decide +kernel
theorem dX0_partOf_6 : decode cX0_partOf 6 = .ok (.isub, 1) := by decide +kernel
theorem dX0_partOf_7 : decode cX0_partOf 7 = .ok (.istore_n 3, 1) := by decide +kernel
theorem dX0_partOf_8 : decode cX0_partOf 8 = .ok (.iload_n 3, 1) := by decide +kernel
theorem dX0_partOf_9 : decode cX0_partOf 9 = .ok (.aload_n 0, 1) := by decide +kernel
theorem dX0_partOf_10 : decode cX0_partOf 10 = .ok (.getfield 29, 3) := by decide +kernel
theorem dX0_partOf_13 : decode cX0_partOf 13 = .ok (.iconst 1, 1) := by decide +kernel
theorem dX0_partOf_14 : decode cX0_partOf 14 = .ok (.isub, 1) := by decide +kernel
theorem dX0_partOf_15 : decode cX0_partOf 15 = .ok (.if_icmp .ne 7, 3) := by decide +kernel
theorem dX0_partOf_18 : decode cX0_partOf 18 = .ok (.iconst 0, 1) := by decide +kernel
theorem dX0_partOf_19 : decode cX0_partOf 19 = .ok (.goto 6, 3) := by decide +kernel
theorem dX0_partOf_22 : decode cX0_partOf 22 = .ok (.iload_n 3, 1) := by decide +kernel
theorem dX0_partOf_23 : decode cX0_partOf 23 = .ok (.iload_n 2, 1) := by decide +kernel
theorem dX0_partOf_24 : decode cX0_partOf 24 = .ok (.idiv, 1) := by decide +kernel
theorem dX0_partOf_25 : decode cX0_partOf 25 = .ok (.ireturn, 1) := by decide +kernel
end
section
theorem dJ_floorModI_0 : decode cJ_floorModI 0 = .ok (.iload_n 0, 1) := by decide +kernel
theorem dJ_floorModI_1 : decode cJ_floorModI 1 = .ok (.iload_n 1, 1) := by decide +kernel
theorem dJ_floorModI_2 : decode cJ_floorModI 2 = .ok (.irem, 1) := by decide +kernel
theorem dJ_floorModI_3 : decode cJ_floorModI 3 = .ok (.istore_n 2, 1) := by decide +kernel
theorem dJ_floorModI_4 : decode cJ_floorModI 4 = .ok (.iload_n 0, 1) := by decide +kernel
theorem dJ_floorModI_5 : decode cJ_floorModI 5 = .ok (.iload_n 1, 1) := by decide +kernel
theorem dJ_floorModI_6 : decode cJ_floorModI 6 = .ok (.ixor, 1) := by decide +kernel
theorem dJ_floorModI_7 : decode cJ_floorModI 7 = .ok (.ifCond .ge 11, 3) := by decide +kernel
theorem dJ_floorModI_10 : decode cJ_floorModI 10 = .ok (.iload_n 2, 1) := by decide +kernel
theorem dJ_floorModI_11 : decode cJ_floorModI 11 = .ok (.ifCond .eq 7, 3) := by decide +kernel
theorem dJ_floorModI_14 : decode cJ_floorModI 14 = .ok (.iload_n 2, 1) := by decide +kernel
theorem dJ_floorModI_15 : decode cJ_floorModI 15 = .ok (.iload_n 1, 1) := by decide +kernel
theorem dJ_floorModI_16 : decode cJ_floorModI 16 = .ok (.iadd, 1) := by decide +kernel
theorem dJ_floorModI_17 : decode cJ_floorModI 17 = .ok (.ireturn, 1) := by decide +kernel
theorem dJ_floorModI_18 : decode cJ_floorModI 18 = .ok (.iload_n 2, 1) := by decide +kernel
theorem dJ_floorModI_19 : decode cJ_floorModI 19 = .ok (.ireturn, 1) := by decide +kernel
theorem dJ_floorModL_0 : decode cJ_floorModL 0 = .ok (.lload_n 0, 1) := by decide +kernel
theorem dJ_floorModL_1 : decode cJ_floorModL 1 = .ok (.lload_n 2, 1) := by decide +kernel
theorem dJ_floorModL_2 : decode cJ_floorModL 2 = .ok (.lrem, 1) := by decide +kernel
theorem dJ_floorModL_3 : decode cJ_floorModL 3 = .ok (.lstore 4, 2) := by decide +kernel
theorem dJ_floorModL_5 : decode cJ_floorModL 5 = .ok (.lload_n 0, 1) := by decide +kernel
theorem dJ_floorModL_6 : decode cJ_floorModL 6 = .ok (.lload_n 2, 1) := by decide +kernel
theorem dJ_floorModL_7 : decode cJ_floorModL 7 = .ok (.lxor, 1) := by decide +kernel
theorem dJ_floorModL_8 : decode cJ_floorModL 8 = .ok (.lconst 0, 1) := by decide +kernel
theorem dJ_floorModL_9 : decode cJ_floorModL 9 = .ok (.lcmp, 1) := by decide +kernel
theorem dJ_floorModL_10 : decode cJ_floorModL 10 = .ok (.ifCond .ge 15, 3) := by decide +kernel
theorem dJ_floorModL_13 : decode cJ_floorModL 13 = .ok (.lload 4, 2) := by decide +kernel
theorem dJ_floorModL_15 : decode cJ_floorModL 15 = .ok (.lconst 0, 1) := by decide +kernel
theorem dJ_floorModL_16 : decode cJ_floorModL 16 = .ok (.lcmp, 1) := by decide +kernel
theorem dJ_floorModL_17 : decode cJ_floorModL 17 = .ok (.ifCond .eq 8, 3) := by decide +kernel
theorem dJ_floorModL_20 : decode cJ_floorModL 20 = .ok (.lload 4, 2) := by decide +kernel
theorem dJ_floorModL_22 : decode cJ_floorModL 22 = .ok (.lload_n 2, 1) := by decide +kernel
theorem dJ_floorModL_23 : decode cJ_floorModL 23 = .ok (.ladd, 1) := by decide +kernel
theorem dJ_floorModL_24 : decode cJ_floorModL 24 = .ok (.lreturn, 1) := by decide +kernel
theorem dJ_floorModL_25 : decode cJ_floorModL 25 = .ok (.lload 4, 2) := by decide +kernel
theorem dJ_floorModL_27 : decode cJ_floorModL 27 = .ok (.lreturn, 1) := by decide +kernel
theorem dJ_max_0 : decode cJ_max 0 = .ok (.iload_n 0, 1) := by decide +kernel
theorem dJ_max_1 : decode cJ_max 1 = .ok (.iload_n 1, 1) := by decide +kernel
theorem dJ_max_2 : decode cJ_max 2 = .ok (.if_icmp .lt 7, 3) := by decide +kernel
theorem dJ_max_5 : decode cJ_max 5 = .ok (.iload_n 0, 1) := by decide +kernel
theorem dJ_max_6 : decode cJ_max 6 = .ok (.goto 4, 3) := by decide +kernel
theorem dJ_max_9 : decode cJ_max 9 = .ok (.iload_n 1, 1) := by decide +kernel
theorem dJ_max_10 : decode cJ_max 10 = .ok (.ireturn, 1) := by decide +kernel
theorem dJ_min_0 : decode cJ_min 0 = .ok (.iload_n 0, 1) := by decide +kernel
theorem dJ_min_1 : decode cJ_min 1 = .ok (.iload_n 1, 1) := by decide +kernel
theorem dJ_min_2 : decode cJ_min 2 = .ok (.if_icmp .gt 7, 3) := by decide +kernel
theorem dJ_min_5 : decode cJ_min 5 = .ok (.iload_n 0, 1) := by decide +kernel
theorem dJ_min_6 : decode cJ_min 6 = .ok (.goto 4, 3) := by decide +kernel
theorem dJ_min_9 : decode cJ_min 9 = .ok (.iload_n 1, 1) := by decide +kernel
theorem dJ_min_10 : decode cJ_min 10 = .ok (.ireturn, 1) := by decide +kernel
end
section
theorem dX0_movedPart_0 : decode cX0_movedPart 0 = .ok (.aload_n 0, 1) := by decide +kernel
theorem dX0_movedPart_1 : decode cX0_movedPart 1 = .ok (.iload_n 1, 1) := by decide +kernel
theorem dX0_movedPart_2 : decode cX0_movedPart 2 = .ok (.iload_n 2, 1) := by decide +kernel
theorem dX0_movedPart_3 : decode cX0_movedPart 3 = .ok (.invokevirtual 79, 3) := by decide +kernel
theorem dX0_movedPart_6 : decode cX0_movedPart 6 = .ok (.ifCond .le 7, 3) := by decide +kernel
theorem dX0_movedPart_9 : decode cX0_movedPart 9 = .ok (.iconst 1, 1) := by decide +kernel
theorem dX0_movedPart_10 : decode cX0_movedPart 10 = .ok (.goto 4, 3) := by decide +kernel
theorem dX0_movedPart_13 : decode cX0_movedPart 13 = .ok (.iconst (-1), 1) := by decide +kernel
theorem dX0_movedPart_14 : decode cX0_movedPart 14 = .ok (.istore_n 3, 1) := by decide +kernel
theorem dX0_movedPart_15 : decode cX0_movedPart 15 = .ok (.aload_n 0, 1) := by decide +kernel
theorem dX0_movedPart_16 : decode cX0_movedPart 16 = .ok (.iload_n 1, 1) := by decide +kernel
theorem dX0_movedPart_17 : decode cX0_movedPart 17 = .ok (.iload_n 2, 1) := by decide +kernel
theorem dX0_movedPart_18 : decode cX0_movedPart 18 = .ok (.invokevirtual 76, 3) := by decide +kernel
theorem dX0_movedPart_21 : decode cX0_movedPart 21 = .ok (.iload_n 3, 1) := by decide +kernel
theorem dX0_movedPart_22 : decode cX0_movedPart 22 = .ok (.iadd, 1) := by decide +kernel
theorem dX0_movedPart_23 : decode cX0_movedPart 23 = .ok (.aload_n 0, 1) := by decide +kernel
theorem dX0_movedPart_24 : decode cX0_movedPart 24 = .ok (.getfield 29, 3) := by decide +kernel
theorem dX0_movedPart_27 : decode cX0_movedPart 27 = .ok (.iconst 1, 1) := by decide +kernel
theorem dX0_movedPart_28 : decode cX0_movedPart 28 = .ok (.isub, 1) := by decide +kernel
theorem dX0_movedPart_29 : decode cX0_movedPart 29 = .ok (.iload_n 2, 1) := by decide +kernel
theorem dX0_movedPart_30 : decode cX0_movedPart 30 = .ok (.idiv, 1) := by decide +kernel
theorem dX0_movedPart_31 : decode cX0_movedPart 31 = .ok (.invokestatic 39, 3) := by decide +kernel
theorem dX0_movedPart_34 : decode cX0_movedPart 34 = .ok (.ireturn, 1) := by decide +kernel
theorem dX0_ones_0 : decode cX0_ones 0 = .ok (.iconst 0, 1) := by decide +kernel
theorem dX0_ones_1 : decode cX0_ones 1 = .ok (.istore 6, 2) := by decide +kernel
theorem dX0_ones_3 : decode cX0_ones 3 = .ok (.iload_n 0, 1) := by decide +kernel
theorem dX0_ones_4 : decode cX0_ones 4 = .ok (.istore 7, 2) := by decide +kernel
theorem dX0_ones_6 : decode cX0_ones 6 = .ok (.iload 7, 2) := by decide +kernel
theorem dX0_ones_8 : decode cX0_ones 8 = .ok (.iload_n 0, 1) := by decide +kernel
theorem dX0_ones_9 : decode cX0_ones 9 = .ok (.iload_n 1, 1) := by decide +kernel
theorem dX0_ones_10 : decode cX0_ones 10 = .ok (.iadd, 1) := by decide +kernel
theorem dX0_ones_11 : decode cX0_ones 11 = .ok (.if_icmp .ge 37, 3) := by decide +kernel
theorem dX0_ones_14 : decode cX0_ones 14 = .ok (.iload 7, 2) := by decide +kernel
theorem dX0_ones_16 : decode cX0_ones 16 = .ok (.bipush 64, 2) := by decide +kernel
theorem dX0_ones_18 : decode cX0_ones 18 = .ok (.if_icmp .ge 7, 3) := by decide +kernel
theorem dX0_ones_21 : decode cX0_ones 21 = .ok (.lload_n 2, 1) := by decide +kernel
theorem dX0_ones_22 : decode cX0_ones 22 = .ok (.goto 5, 3) := by decide +kernel
theorem dX0_ones_25 : decode cX0_ones 25 = .ok (.lload 4, 2) := by decide +kernel
theorem dX0_ones_27 : decode cX0_ones 27 = .ok (.lstore 8, 2) := by decide +kernel
theorem dX0_ones_29 : decode cX0_ones 29 = .ok (.iload 6, 2) := by decide +kernel
theorem dX0_ones_31 : decode cX0_ones 31 = .ok (.lload 8, 2) := by decide +kernel
theorem dX0_ones_33 : decode cX0_ones 33 = .ok (.iload 7, 2) := by decide +kernel
theorem dX0_ones_35 : decode cX0_ones 35 = .ok (.lushr, 1) := by decide +kernel
theorem dX0_ones_36 : decode cX0_ones 36 = .ok (.lconst 1, 1) := by decide +kernel
theorem dX0_ones_37 : decode cX0_ones 37 = .ok (.land, 1) := by decide +kernel
theorem dX0_ones_38 : decode cX0_ones 38 = .ok (.l2i, 1) := by decide +kernel
theorem dX0_ones_39 : decode cX0_ones 39 = .ok (.iadd, 1) := by decide +kernel
theorem dX0_ones_40 : decode cX0_ones 40 = .ok (.istore 6, 2) := by decide +kernel
theorem dX0_ones_42 : decode cX0_ones 42 = .ok (.iinc 7 1, 3) := by decide +kernel
theorem dX0_ones_45 : decode cX0_ones 45 = .ok (.goto (-39), 3) := by decide +kernel
theorem dX0_ones_48 : decode cX0_ones 48 = .ok (.iload 6, 2) := by decide +kernel
theorem dX0_ones_50 : decode cX0_ones 50 = .ok (.ireturn, 1) := by decide +kernel
theorem dX0_valueAt_0 : decode cX0_valueAt 0 = .ok (.lconst 0, 1) := by decide +kernel
theorem dX0_valueAt_1 : decode cX0_valueAt 1 = .ok (.lstore 5, 2) := by decide +kernel
theorem dX0_valueAt_3 : decode cX0_valueAt 3 = .ok (.lconst 1, 1) := by decide +kernel
theorem dX0_valueAt_4 : decode cX0_valueAt 4 = .ok (.lstore 7, 2) := by decide +kernel
theorem dX0_valueAt_6 : decode cX0_valueAt 6 = .ok (.iload_n 2, 1) := by decide +kernel
theorem dX0_valueAt_7 : decode cX0_valueAt 7 = .ok (.istore 9, 2) := by decide +kernel
theorem dX0_valueAt_9 : decode cX0_valueAt 9 = .ok (.iload 9, 2) := by decide +kernel
theorem dX0_valueAt_11 : decode cX0_valueAt 11 = .ok (.bipush 16, 2) := by decide +kernel
theorem dX0_valueAt_13 : decode cX0_valueAt 13 = .ok (.if_icmp .ge 45, 3) := by decide +kernel
theorem dX0_valueAt_16 : decode cX0_valueAt 16 = .ok (.lload 5, 2) := by decide +kernel
theorem dX0_valueAt_18 : decode cX0_valueAt 18 = .ok (.aload_n 1, 1) := by decide +kernel
theorem dX0_valueAt_19 : decode cX0_valueAt 19 = .ok (.iload 9, 2) := by decide +kernel
theorem dX0_valueAt_21 : decode cX0_valueAt 21 = .ok (.iaload, 1) := by decide +kernel
theorem dX0_valueAt_22 : decode cX0_valueAt 22 = .ok (.i2l, 1) := by decide +kernel
theorem dX0_valueAt_23 : decode cX0_valueAt 23 = .ok (.lload 7, 2) := by decide +kernel
theorem dX0_valueAt_25 : decode cX0_valueAt 25 = .ok (.lmul, 1) := by decide +kernel
theorem dX0_valueAt_26 : decode cX0_valueAt 26 = .ok (.ladd, 1) := by decide +kernel
theorem dX0_valueAt_27 : decode cX0_valueAt 27 = .ok (.aload_n 0, 1) := by decide +kernel
theorem dX0_valueAt_28 : decode cX0_valueAt 28 = .ok (.getfield 29, 3) := by decide +kernel
theorem dX0_valueAt_31 : decode cX0_valueAt 31 = .ok (.i2l, 1) := by decide +kernel
theorem dX0_valueAt_32 : decode cX0_valueAt 32 = .ok (.lrem, 1) := by decide +kernel
theorem dX0_valueAt_33 : decode cX0_valueAt 33 = .ok (.lstore 5, 2) := by decide +kernel
theorem dX0_valueAt_35 : decode cX0_valueAt 35 = .ok (.lload 7, 2) := by decide +kernel
theorem dX0_valueAt_37 : decode cX0_valueAt 37 = .ok (.iload 4, 2) := by decide +kernel
theorem dX0_valueAt_39 : decode cX0_valueAt 39 = .ok (.i2l, 1) := by decide +kernel
theorem dX0_valueAt_40 : decode cX0_valueAt 40 = .ok (.lmul, 1) := by decide +kernel
theorem dX0_valueAt_41 : decode cX0_valueAt 41 = .ok (.aload_n 0, 1) := by decide +kernel
theorem dX0_valueAt_42 : decode cX0_valueAt 42 = .ok (.getfield 29, 3) := by decide +kernel
theorem dX0_valueAt_45 : decode cX0_valueAt 45 = .ok (.i2l, 1) := by decide +kernel
theorem dX0_valueAt_46 : decode cX0_valueAt 46 = .ok (.lrem, 1) := by decide +kernel
theorem dX0_valueAt_47 : decode cX0_valueAt 47 = .ok (.lstore 7, 2) := by decide +kernel
theorem dX0_valueAt_49 : decode cX0_valueAt 49 = .ok (.iload 9, 2) := by decide +kernel
theorem dX0_valueAt_51 : decode cX0_valueAt 51 = .ok (.iload_n 3, 1) := by decide +kernel
theorem dX0_valueAt_52 : decode cX0_valueAt 52 = .ok (.iadd, 1) := by decide +kernel
theorem dX0_valueAt_53 : decode cX0_valueAt 53 = .ok (.istore 9, 2) := by decide +kernel
theorem dX0_valueAt_55 : decode cX0_valueAt 55 = .ok (.goto (-46), 3) := by decide +kernel
theorem dX0_valueAt_58 : decode cX0_valueAt 58 = .ok (.lload 5, 2) := by decide +kernel
theorem dX0_valueAt_60 : decode cX0_valueAt 60 = .ok (.l2i, 1) := by decide +kernel
theorem dX0_valueAt_61 : decode cX0_valueAt 61 = .ok (.ireturn, 1) := by decide +kernel
theorem dX1_init_0 : decode cX1_init 0 = .ok (.aload_n 0, 1) := by decide +kernel
theorem dX1_init_1 : decode cX1_init 1 = .ok (.invokespecial 1, 3) := by decide +kernel
theorem dX1_init_4 : decode cX1_init 4 = .ok (.aload_n 0, 1) := by decide +kernel
theorem dX1_init_5 : decode cX1_init 5 = .ok (.sipush 3329, 3) := by decide +kernel
theorem dX1_init_8 : decode cX1_init 8 = .ok (.putfield 7, 3) := by decide +kernel
theorem dX1_init_11 : decode cX1_init 11 = .ok (.aload_n 0, 1) := by decide +kernel
theorem dX1_init_12 : decode cX1_init 12 = .ok (.sipush 192, 3) := by decide +kernel
theorem dX1_init_15 : decode cX1_init 15 = .ok (.newarray .int, 2) := by decide +kernel
theorem dX1_init_17 : decode cX1_init 17 = .ok (.putfield 13, 3) := by decide +kernel
theorem dX1_init_20 : decode cX1_init 20 = .ok (.aload_n 0, 1) := by decide +kernel
theorem dX1_init_21 : decode cX1_init 21 = .ok (.bipush 16, 2) := by decide +kernel
theorem dX1_init_23 : decode cX1_init 23 = .ok (.newarray .int, 2) := by decide +kernel
theorem dX1_init_25 : decode cX1_init 25 = .ok (.putfield 17, 3) := by decide +kernel
theorem dX1_init_28 : decode cX1_init 28 = .ok (.return_, 1) := by decide +kernel
theorem dX1_thrown_0 : decode cX1_thrown 0 = .ok (.aload_n 0, 1) := by decide +kernel
theorem dX1_thrown_1 : decode cX1_thrown 1 = .ok (.getfield 20, 3) := by decide +kernel
theorem dX1_thrown_4 : decode cX1_thrown 4 = .ok (.ireturn, 1) := by decide +kernel
theorem dX1_none_0 : decode cX1_none 0 = .ok (.iload_n 0, 1) := by decide +kernel
theorem dX1_none_1 : decode cX1_none 1 = .ok (.ifCond .lt 9, 3) := by decide +kernel
theorem dX1_none_4 : decode cX1_none 4 = .ok (.iload_n 0, 1) := by decide +kernel
theorem dX1_none_5 : decode cX1_none 5 = .ok (.bipush 12, 2) := by decide +kernel
theorem dX1_none_7 : decode cX1_none 7 = .ok (.if_icmp .lt 7, 3) := by decide +kernel
theorem dX1_none_10 : decode cX1_none 10 = .ok (.iconst 1, 1) := by decide +kernel
theorem dX1_none_11 : decode cX1_none 11 = .ok (.goto 4, 3) := by decide +kernel
theorem dX1_none_14 : decode cX1_none 14 = .ok (.iconst 0, 1) := by decide +kernel
theorem dX1_none_15 : decode cX1_none 15 = .ok (.ireturn, 1) := by decide +kernel
theorem dX1_at_0 : decode cX1_at 0 = .ok (.aload_n 0, 1) := by decide +kernel
theorem dX1_at_1 : decode cX1_at 1 = .ok (.getfield 13, 3) := by decide +kernel
theorem dX1_at_4 : decode cX1_at 4 = .ok (.bipush 16, 2) := by decide +kernel
theorem dX1_at_6 : decode cX1_at 6 = .ok (.iload_n 1, 1) := by decide +kernel
theorem dX1_at_7 : decode cX1_at 7 = .ok (.imul, 1) := by decide +kernel
theorem dX1_at_8 : decode cX1_at 8 = .ok (.iload_n 2, 1) := by decide +kernel
theorem dX1_at_9 : decode cX1_at 9 = .ok (.iadd, 1) := by decide +kernel
theorem dX1_at_10 : decode cX1_at 10 = .ok (.iaload, 1) := by decide +kernel
theorem dX1_at_11 : decode cX1_at 11 = .ok (.ireturn, 1) := by decide +kernel
theorem dX1_of_0 : decode cX1_of 0 = .ok (.lload_n 1, 1) := by decide +kernel
theorem dX1_of_1 : decode cX1_of 1 = .ok (.aload_n 0, 1) := by decide +kernel
theorem dX1_of_2 : decode cX1_of 2 = .ok (.getfield 7, 3) := by decide +kernel
theorem dX1_of_5 : decode cX1_of 5 = .ok (.i2l, 1) := by decide +kernel
theorem dX1_of_6 : decode cX1_of 6 = .ok (.invokestatic 23, 3) := by decide +kernel
theorem dX1_of_9 : decode cX1_of 9 = .ok (.l2i, 1) := by decide +kernel
theorem dX1_of_10 : decode cX1_of 10 = .ok (.ireturn, 1) := by decide +kernel
theorem dX1_size0_0 : decode cX1_size0 0 = .ok (.iload_n 1, 1) := by decide +kernel
theorem dX1_size0_1 : decode cX1_size0 1 = .ok (.aload_n 0, 1) := by decide +kernel
theorem dX1_size0_2 : decode cX1_size0 2 = .ok (.getfield 7, 3) := by decide +kernel
theorem dX1_size0_5 : decode cX1_size0 5 = .ok (.iconst 1, 1) := by decide +kernel
theorem dX1_size0_6 : decode cX1_size0 6 = .ok (.isub, 1) := by decide +kernel
theorem dX1_size0_7 : decode cX1_size0 7 = .ok (.iconst 2, 1) := by decide +kernel
theorem dX1_size0_8 : decode cX1_size0 8 = .ok (.idiv, 1) := by decide +kernel
theorem dX1_size0_9 : decode cX1_size0 9 = .ok (.if_icmp .le 12, 3) := by decide +kernel
theorem dX1_size0_12 : decode cX1_size0 12 = .ok (.aload_n 0, 1) := by decide +kernel
theorem dX1_size0_13 : decode cX1_size0 13 = .ok (.getfield 7, 3) := by decide +kernel
theorem dX1_size0_16 : decode cX1_size0 16 = .ok (.iload_n 1, 1) := by decide +kernel
theorem dX1_size0_17 : decode cX1_size0 17 = .ok (.isub, 1) := by decide +kernel
theorem dX1_size0_18 : decode cX1_size0 18 = .ok (.goto 4, 3) := by decide +kernel
theorem dX1_size0_21 : decode cX1_size0 21 = .ok (.iload_n 1, 1) := by decide +kernel
theorem dX1_size0_22 : decode cX1_size0 22 = .ok (.ireturn, 1) := by decide +kernel
theorem dX1_most_0 : decode cX1_most 0 = .ok (.iconst 0, 1) := by decide +kernel
theorem dX1_most_1 : decode cX1_most 1 = .ok (.istore_n 2, 1) := by decide +kernel
theorem dX1_most_2 : decode cX1_most 2 = .ok (.iconst 0, 1) := by decide +kernel
theorem dX1_most_3 : decode cX1_most 3 = .ok (.istore_n 3, 1) := by decide +kernel
theorem dX1_most_4 : decode cX1_most 4 = .ok (.iload_n 3, 1) := by decide +kernel
theorem dX1_most_5 : decode cX1_most 5 = .ok (.bipush 16, 2) := by decide +kernel
theorem dX1_most_7 : decode cX1_most 7 = .ok (.if_icmp .ge 21, 3) := by decide +kernel
theorem dX1_most_10 : decode cX1_most 10 = .ok (.iload_n 2, 1) := by decide +kernel
theorem dX1_most_11 : decode cX1_most 11 = .ok (.aload_n 0, 1) := by decide +kernel
theorem dX1_most_12 : decode cX1_most 12 = .ok (.aload_n 1, 1) := by decide +kernel
theorem dX1_most_13 : decode cX1_most 13 = .ok (.iload_n 3, 1) := by decide +kernel
theorem dX1_most_14 : decode cX1_most 14 = .ok (.iaload, 1) := by decide +kernel
theorem dX1_most_15 : decode cX1_most 15 = .ok (.invokevirtual 29, 3) := by decide +kernel
theorem dX1_most_18 : decode cX1_most 18 = .ok (.invokestatic 33, 3) := by decide +kernel
theorem dX1_most_21 : decode cX1_most 21 = .ok (.istore_n 2, 1) := by decide +kernel
theorem dX1_most_22 : decode cX1_most 22 = .ok (.iinc 3 1, 3) := by decide +kernel
theorem dX1_most_25 : decode cX1_most 25 = .ok (.goto (-21), 3) := by decide +kernel
theorem dX1_most_28 : decode cX1_most 28 = .ok (.iload_n 2, 1) := by decide +kernel
theorem dX1_most_29 : decode cX1_most 29 = .ok (.ireturn, 1) := by decide +kernel
theorem dX1_put_0 : decode cX1_put 0 = .ok (.iconst 0, 1) := by decide +kernel
theorem dX1_put_1 : decode cX1_put 1 = .ok (.istore_n 2, 1) := by decide +kernel
theorem dX1_put_2 : decode cX1_put 2 = .ok (.iconst 0, 1) := by decide +kernel
theorem dX1_put_3 : decode cX1_put 3 = .ok (.istore_n 3, 1) := by decide +kernel
theorem dX1_put_4 : decode cX1_put 4 = .ok (.iload_n 3, 1) := by decide +kernel
theorem dX1_put_5 : decode cX1_put 5 = .ok (.bipush 16, 2) := by decide +kernel
theorem dX1_put_7 : decode cX1_put 7 = .ok (.if_icmp .ge 38, 3) := by decide +kernel
theorem dX1_put_10 : decode cX1_put 10 = .ok (.aload_n 0, 1) := by decide +kernel
theorem dX1_put_11 : decode cX1_put 11 = .ok (.getfield 13, 3) := by decide +kernel
theorem dX1_put_14 : decode cX1_put 14 = .ok (.bipush 16, 2) := by decide +kernel
theorem dX1_put_16 : decode cX1_put 16 = .ok (.iload_n 1, 1) := by decide +kernel
theorem dX1_put_17 : decode cX1_put 17 = .ok (.imul, 1) := by decide +kernel
theorem dX1_put_18 : decode cX1_put 18 = .ok (.iload_n 3, 1) := by decide +kernel
theorem dX1_put_19 : decode cX1_put 19 = .ok (.iadd, 1) := by decide +kernel
theorem dX1_put_20 : decode cX1_put 20 = .ok (.aload_n 0, 1) := by decide +kernel
theorem dX1_put_21 : decode cX1_put 21 = .ok (.getfield 17, 3) := by decide +kernel
theorem dX1_put_24 : decode cX1_put 24 = .ok (.iload_n 3, 1) := by decide +kernel
theorem dX1_put_25 : decode cX1_put 25 = .ok (.iaload, 1) := by decide +kernel
theorem dX1_put_26 : decode cX1_put 26 = .ok (.iastore, 1) := by decide +kernel
theorem dX1_put_27 : decode cX1_put 27 = .ok (.aload_n 0, 1) := by decide +kernel
theorem dX1_put_28 : decode cX1_put 28 = .ok (.getfield 17, 3) := by decide +kernel
theorem dX1_put_31 : decode cX1_put 31 = .ok (.iload_n 3, 1) := by decide +kernel
theorem dX1_put_32 : decode cX1_put 32 = .ok (.iaload, 1) := by decide +kernel
theorem dX1_put_33 : decode cX1_put 33 = .ok (.ifCond .eq 6, 3) := by decide +kernel
theorem dX1_put_36 : decode cX1_put 36 = .ok (.iinc 2 1, 3) := by decide +kernel
theorem dX1_put_39 : decode cX1_put 39 = .ok (.iinc 3 1, 3) := by decide +kernel
theorem dX1_put_42 : decode cX1_put 42 = .ok (.goto (-38), 3) := by decide +kernel
theorem dX1_put_45 : decode cX1_put 45 = .ok (.iload_n 2, 1) := by decide +kernel
theorem dX1_put_46 : decode cX1_put 46 = .ok (.ireturn, 1) := by decide +kernel
theorem dX1_begin_0 : decode cX1_begin 0 = .ok (.aload_n 0, 1) := by decide +kernel
theorem dX1_begin_1 : decode cX1_begin 1 = .ok (.iload_n 1, 1) := by decide +kernel
theorem dX1_begin_2 : decode cX1_begin 2 = .ok (.ifCond .lt 8, 3) := by decide +kernel
theorem dX1_begin_5 : decode cX1_begin 5 = .ok (.iload_n 1, 1) := by decide +kernel
theorem dX1_begin_6 : decode cX1_begin 6 = .ok (.iconst 1, 1) := by decide +kernel
theorem dX1_begin_7 : decode cX1_begin 7 = .ok (.if_icmp .le 7, 3) := by decide +kernel
theorem dX1_begin_10 : decode cX1_begin 10 = .ok (.iconst 1, 1) := by decide +kernel
theorem dX1_begin_11 : decode cX1_begin 11 = .ok (.goto 4, 3) := by decide +kernel
theorem dX1_begin_14 : decode cX1_begin 14 = .ok (.iconst 0, 1) := by decide +kernel
theorem dX1_begin_15 : decode cX1_begin 15 = .ok (.putfield 20, 3) := by decide +kernel
theorem dX1_begin_18 : decode cX1_begin 18 = .ok (.aload_n 0, 1) := by decide +kernel
theorem dX1_begin_19 : decode cX1_begin 19 = .ok (.getfield 20, 3) := by decide +kernel
theorem dX1_begin_22 : decode cX1_begin 22 = .ok (.ifCond .le 5, 3) := by decide +kernel
theorem dX1_begin_25 : decode cX1_begin 25 = .ok (.iconst 0, 1) := by decide +kernel
theorem dX1_begin_26 : decode cX1_begin 26 = .ok (.ireturn, 1) := by decide +kernel
theorem dX1_begin_27 : decode cX1_begin 27 = .ok (.aload_n 0, 1) := by decide +kernel
theorem dX1_begin_28 : decode cX1_begin 28 = .ok (.iload_n 1, 1) := by decide +kernel
theorem dX1_begin_29 : decode cX1_begin 29 = .ok (.putfield 37, 3) := by decide +kernel
theorem dX1_begin_32 : decode cX1_begin 32 = .ok (.aload_n 0, 1) := by decide +kernel
theorem dX1_begin_33 : decode cX1_begin 33 = .ok (.iload_n 1, 1) := by decide +kernel
theorem dX1_begin_34 : decode cX1_begin 34 = .ok (.ifCond .ne 9, 3) := by decide +kernel
theorem dX1_begin_37 : decode cX1_begin 37 = .ok (.sipush 3329, 3) := by decide +kernel
theorem dX1_begin_40 : decode cX1_begin 40 = .ok (.goto 5, 3) := by decide +kernel
theorem dX1_begin_43 : decode cX1_begin 43 = .ok (.ldc 40, 2) := by decide +kernel
theorem dX1_begin_45 : decode cX1_begin 45 = .ok (.putfield 7, 3) := by decide +kernel
theorem dX1_begin_48 : decode cX1_begin 48 = .ok (.iconst 0, 1) := by decide +kernel
theorem dX1_begin_49 : decode cX1_begin 49 = .ok (.istore_n 2, 1) := by decide +kernel
theorem dX1_begin_50 : decode cX1_begin 50 = .ok (.iload_n 2, 1) := by decide +kernel
theorem dX1_begin_51 : decode cX1_begin 51 = .ok (.aload_n 0, 1) := by decide +kernel
theorem dX1_begin_52 : decode cX1_begin 52 = .ok (.getfield 13, 3) := by decide +kernel
theorem dX1_begin_55 : decode cX1_begin 55 = .ok (.arraylength, 1) := by decide +kernel
theorem dX1_begin_56 : decode cX1_begin 56 = .ok (.if_icmp .ge 16, 3) := by decide +kernel
theorem dX1_begin_59 : decode cX1_begin 59 = .ok (.aload_n 0, 1) := by decide +kernel
theorem dX1_begin_60 : decode cX1_begin 60 = .ok (.getfield 13, 3) := by decide +kernel
theorem dX1_begin_63 : decode cX1_begin 63 = .ok (.iload_n 2, 1) := by decide +kernel
theorem dX1_begin_64 : decode cX1_begin 64 = .ok (.iconst 0, 1) := by decide +kernel
theorem dX1_begin_65 : decode cX1_begin 65 = .ok (.iastore, 1) := by decide +kernel
theorem dX1_begin_66 : decode cX1_begin 66 = .ok (.iinc 2 1, 3) := by decide +kernel
theorem dX1_begin_69 : decode cX1_begin 69 = .ok (.goto (-19), 3) := by decide +kernel
theorem dX1_begin_72 : decode cX1_begin 72 = .ok (.aload_n 0, 1) := by decide +kernel
theorem dX1_begin_73 : decode cX1_begin 73 = .ok (.getfield 7, 3) := by decide +kernel
theorem dX1_begin_76 : decode cX1_begin 76 = .ok (.ireturn, 1) := by decide +kernel
theorem dX1_set_0 : decode cX1_set 0 = .ok (.aload_n 0, 1) := by decide +kernel
theorem dX1_set_1 : decode cX1_set 1 = .ok (.iload_n 1, 1) := by decide +kernel
theorem dX1_set_2 : decode cX1_set 2 = .ok (.invokestatic 41, 3) := by decide +kernel
theorem dX1_set_5 : decode cX1_set 5 = .ok (.ifCond .ne 13, 3) := by decide +kernel
theorem dX1_set_8 : decode cX1_set 8 = .ok (.iload_n 2, 1) := by decide +kernel
theorem dX1_set_9 : decode cX1_set 9 = .ok (.ifCond .lt 9, 3) := by decide +kernel
theorem dX1_set_12 : decode cX1_set 12 = .ok (.iload_n 2, 1) := by decide +kernel
theorem dX1_set_13 : decode cX1_set 13 = .ok (.bipush 16, 2) := by decide +kernel
theorem dX1_set_15 : decode cX1_set 15 = .ok (.if_icmp .lt 7, 3) := by decide +kernel
theorem dX1_set_18 : decode cX1_set 18 = .ok (.iconst 1, 1) := by decide +kernel
theorem dX1_set_19 : decode cX1_set 19 = .ok (.goto 4, 3) := by decide +kernel
theorem dX1_set_22 : decode cX1_set 22 = .ok (.iconst 0, 1) := by decide +kernel
theorem dX1_set_23 : decode cX1_set 23 = .ok (.putfield 20, 3) := by decide +kernel
theorem dX1_set_26 : decode cX1_set 26 = .ok (.aload_n 0, 1) := by decide +kernel
theorem dX1_set_27 : decode cX1_set 27 = .ok (.getfield 20, 3) := by decide +kernel
theorem dX1_set_30 : decode cX1_set 30 = .ok (.ifCond .le 5, 3) := by decide +kernel
theorem dX1_set_33 : decode cX1_set 33 = .ok (.iconst 0, 1) := by decide +kernel
theorem dX1_set_34 : decode cX1_set 34 = .ok (.ireturn, 1) := by decide +kernel
theorem dX1_set_35 : decode cX1_set 35 = .ok (.aload_n 0, 1) := by decide +kernel
theorem dX1_set_36 : decode cX1_set 36 = .ok (.iload_n 1, 1) := by decide +kernel
theorem dX1_set_37 : decode cX1_set 37 = .ok (.iload_n 2, 1) := by decide +kernel
theorem dX1_set_38 : decode cX1_set 38 = .ok (.invokevirtual 45, 3) := by decide +kernel
theorem dX1_set_41 : decode cX1_set 41 = .ok (.istore 4, 2) := by decide +kernel
theorem dX1_set_43 : decode cX1_set 43 = .ok (.aload_n 0, 1) := by decide +kernel
theorem dX1_set_44 : decode cX1_set 44 = .ok (.getfield 13, 3) := by decide +kernel
theorem dX1_set_47 : decode cX1_set 47 = .ok (.bipush 16, 2) := by decide +kernel
theorem dX1_set_49 : decode cX1_set 49 = .ok (.iload_n 1, 1) := by decide +kernel
theorem dX1_set_50 : decode cX1_set 50 = .ok (.imul, 1) := by decide +kernel
theorem dX1_set_51 : decode cX1_set 51 = .ok (.iload_n 2, 1) := by decide +kernel
theorem dX1_set_52 : decode cX1_set 52 = .ok (.iadd, 1) := by decide +kernel
theorem dX1_set_53 : decode cX1_set 53 = .ok (.aload_n 0, 1) := by decide +kernel
theorem dX1_set_54 : decode cX1_set 54 = .ok (.iload_n 3, 1) := by decide +kernel
theorem dX1_set_55 : decode cX1_set 55 = .ok (.i2l, 1) := by decide +kernel
theorem dX1_set_56 : decode cX1_set 56 = .ok (.invokevirtual 48, 3) := by decide +kernel
theorem dX1_set_59 : decode cX1_set 59 = .ok (.iastore, 1) := by decide +kernel
theorem dX1_set_60 : decode cX1_set 60 = .ok (.iload 4, 2) := by decide +kernel
theorem dX1_set_62 : decode cX1_set 62 = .ok (.ireturn, 1) := by decide +kernel
theorem dX1_get_0 : decode cX1_get 0 = .ok (.aload_n 0, 1) := by decide +kernel
theorem dX1_get_1 : decode cX1_get 1 = .ok (.iload_n 1, 1) := by decide +kernel
theorem dX1_get_2 : decode cX1_get 2 = .ok (.invokestatic 41, 3) := by decide +kernel
theorem dX1_get_5 : decode cX1_get 5 = .ok (.ifCond .ne 13, 3) := by decide +kernel
theorem dX1_get_8 : decode cX1_get 8 = .ok (.iload_n 2, 1) := by decide +kernel
theorem dX1_get_9 : decode cX1_get 9 = .ok (.ifCond .lt 9, 3) := by decide +kernel
theorem dX1_get_12 : decode cX1_get 12 = .ok (.iload_n 2, 1) := by decide +kernel
theorem dX1_get_13 : decode cX1_get 13 = .ok (.bipush 16, 2) := by decide +kernel
theorem dX1_get_15 : decode cX1_get 15 = .ok (.if_icmp .lt 7, 3) := by decide +kernel
theorem dX1_get_18 : decode cX1_get 18 = .ok (.iconst 1, 1) := by decide +kernel
theorem dX1_get_19 : decode cX1_get 19 = .ok (.goto 4, 3) := by decide +kernel
theorem dX1_get_22 : decode cX1_get 22 = .ok (.iconst 0, 1) := by decide +kernel
theorem dX1_get_23 : decode cX1_get 23 = .ok (.putfield 20, 3) := by decide +kernel
theorem dX1_get_26 : decode cX1_get 26 = .ok (.aload_n 0, 1) := by decide +kernel
theorem dX1_get_27 : decode cX1_get 27 = .ok (.getfield 20, 3) := by decide +kernel
theorem dX1_get_30 : decode cX1_get 30 = .ok (.ifCond .le 7, 3) := by decide +kernel
theorem dX1_get_33 : decode cX1_get 33 = .ok (.iconst 0, 1) := by decide +kernel
theorem dX1_get_34 : decode cX1_get 34 = .ok (.goto 9, 3) := by decide +kernel
theorem dX1_get_37 : decode cX1_get 37 = .ok (.aload_n 0, 1) := by decide +kernel
theorem dX1_get_38 : decode cX1_get 38 = .ok (.iload_n 1, 1) := by decide +kernel
theorem dX1_get_39 : decode cX1_get 39 = .ok (.iload_n 2, 1) := by decide +kernel
theorem dX1_get_40 : decode cX1_get 40 = .ok (.invokevirtual 45, 3) := by decide +kernel
theorem dX1_get_43 : decode cX1_get 43 = .ok (.ireturn, 1) := by decide +kernel
theorem dX1_join_0 : decode cX1_join 0 = .ok (.aload_n 0, 1) := by decide +kernel
theorem dX1_join_1 : decode cX1_join 1 = .ok (.iload_n 1, 1) := by decide +kernel
theorem dX1_join_2 : decode cX1_join 2 = .ok (.invokestatic 41, 3) := by decide +kernel
theorem dX1_join_5 : decode cX1_join 5 = .ok (.ifCond .ne 18, 3) := by decide +kernel
theorem dX1_join_8 : decode cX1_join 8 = .ok (.iload_n 3, 1) := by decide +kernel
theorem dX1_join_9 : decode cX1_join 9 = .ok (.invokestatic 41, 3) := by decide +kernel
theorem dX1_join_12 : decode cX1_join 12 = .ok (.ifCond .ne 11, 3) := by decide +kernel
theorem dX1_join_15 : decode cX1_join 15 = .ok (.iload 4, 2) := by decide +kernel
theorem dX1_join_17 : decode cX1_join 17 = .ok (.invokestatic 41, 3) := by decide +kernel
theorem dX1_join_20 : decode cX1_join 20 = .ok (.ifCond .eq 7, 3) := by decide +kernel
theorem dX1_join_23 : decode cX1_join 23 = .ok (.iconst 1, 1) := by decide +kernel
theorem dX1_join_24 : decode cX1_join 24 = .ok (.goto 17, 3) := by decide +kernel
theorem dX1_join_27 : decode cX1_join 27 = .ok (.iload_n 2, 1) := by decide +kernel
theorem dX1_join_28 : decode cX1_join 28 = .ok (.ifCond .lt 8, 3) := by decide +kernel
theorem dX1_join_31 : decode cX1_join 31 = .ok (.iload_n 2, 1) := by decide +kernel
theorem dX1_join_32 : decode cX1_join 32 = .ok (.iconst 2, 1) := by decide +kernel
theorem dX1_join_33 : decode cX1_join 33 = .ok (.if_icmp .le 7, 3) := by decide +kernel
theorem dX1_join_36 : decode cX1_join 36 = .ok (.iconst 2, 1) := by decide +kernel
theorem dX1_join_37 : decode cX1_join 37 = .ok (.goto 4, 3) := by decide +kernel
theorem dX1_join_40 : decode cX1_join 40 = .ok (.iconst 0, 1) := by decide +kernel
theorem dX1_join_41 : decode cX1_join 41 = .ok (.putfield 20, 3) := by decide +kernel
theorem dX1_join_44 : decode cX1_join 44 = .ok (.aload_n 0, 1) := by decide +kernel
theorem dX1_join_45 : decode cX1_join 45 = .ok (.getfield 20, 3) := by decide +kernel
theorem dX1_join_48 : decode cX1_join 48 = .ok (.ifCond .le 5, 3) := by decide +kernel
theorem dX1_join_51 : decode cX1_join 51 = .ok (.iconst 0, 1) := by decide +kernel
theorem dX1_join_52 : decode cX1_join 52 = .ok (.ireturn, 1) := by decide +kernel
theorem dX1_join_53 : decode cX1_join 53 = .ok (.iconst 0, 1) := by decide +kernel
theorem dX1_join_54 : decode cX1_join 54 = .ok (.istore 5, 2) := by decide +kernel
theorem dX1_join_56 : decode cX1_join 56 = .ok (.iload 5, 2) := by decide +kernel
theorem dX1_join_58 : decode cX1_join 58 = .ok (.bipush 16, 2) := by decide +kernel
theorem dX1_join_60 : decode cX1_join 60 = .ok (.if_icmp .ge 144, 3) := by decide +kernel
theorem dX1_join_63 : decode cX1_join 63 = .ok (.iload_n 2, 1) := by decide +kernel
theorem dX1_join_64 : decode cX1_join 64 = .ok (.ifCond .ne 23, 3) := by decide +kernel
theorem dX1_join_67 : decode cX1_join 67 = .ok (.aload_n 0, 1) := by decide +kernel
theorem dX1_join_68 : decode cX1_join 68 = .ok (.iload_n 3, 1) := by decide +kernel
theorem dX1_join_69 : decode cX1_join 69 = .ok (.iload 5, 2) := by decide +kernel
theorem dX1_join_71 : decode cX1_join 71 = .ok (.invokevirtual 45, 3) := by decide +kernel
theorem dX1_join_74 : decode cX1_join 74 = .ok (.aload_n 0, 1) := by decide +kernel
theorem dX1_join_75 : decode cX1_join 75 = .ok (.iload 4, 2) := by decide +kernel
theorem dX1_join_77 : decode cX1_join 77 = .ok (.iload 5, 2) := by decide +kernel
theorem dX1_join_79 : decode cX1_join 79 = .ok (.invokevirtual 45, 3) := by decide +kernel
theorem dX1_join_82 : decode cX1_join 82 = .ok (.iadd, 1) := by decide +kernel
theorem dX1_join_83 : decode cX1_join 83 = .ok (.i2l, 1) := by decide +kernel
theorem dX1_join_84 : decode cX1_join 84 = .ok (.goto 29, 3) := by decide +kernel
theorem dX1_join_87 : decode cX1_join 87 = .ok (.iload_n 2, 1) := by decide +kernel
theorem dX1_join_88 : decode cX1_join 88 = .ok (.iconst 1, 1) := by decide +kernel
theorem dX1_join_89 : decode cX1_join 89 = .ok (.if_icmp .ne 23, 3) := by decide +kernel
theorem dX1_join_92 : decode cX1_join 92 = .ok (.aload_n 0, 1) := by decide +kernel
theorem dX1_join_93 : decode cX1_join 93 = .ok (.iload_n 3, 1) := by decide +kernel
theorem dX1_join_94 : decode cX1_join 94 = .ok (.iload 5, 2) := by decide +kernel
theorem dX1_join_96 : decode cX1_join 96 = .ok (.invokevirtual 45, 3) := by decide +kernel
theorem dX1_join_99 : decode cX1_join 99 = .ok (.aload_n 0, 1) := by decide +kernel
theorem dX1_join_100 : decode cX1_join 100 = .ok (.iload 4, 2) := by decide +kernel
theorem dX1_join_102 : decode cX1_join 102 = .ok (.iload 5, 2) := by decide +kernel
theorem dX1_join_104 : decode cX1_join 104 = .ok (.invokevirtual 45, 3) := by decide +kernel
theorem dX1_join_107 : decode cX1_join 107 = .ok (.isub, 1) := by decide +kernel
theorem dX1_join_108 : decode cX1_join 108 = .ok (.i2l, 1) := by decide +kernel
theorem dX1_join_109 : decode cX1_join 109 = .ok (.goto 4, 3) := by decide +kernel
theorem dX1_join_112 : decode cX1_join 112 = .ok (.lconst 0, 1) := by decide +kernel
theorem dX1_join_113 : decode cX1_join 113 = .ok (.lstore 6, 2) := by decide +kernel
theorem dX1_join_115 : decode cX1_join 115 = .ok (.iconst 0, 1) := by decide +kernel
theorem dX1_join_116 : decode cX1_join 116 = .ok (.istore 8, 2) := by decide +kernel
theorem dX1_join_118 : decode cX1_join 118 = .ok (.iload 8, 2) := by decide +kernel
theorem dX1_join_120 : decode cX1_join 120 = .ok (.bipush 16, 2) := by decide +kernel
theorem dX1_join_122 : decode cX1_join 122 = .ok (.if_icmp .ge 63, 3) := by decide +kernel
theorem dX1_join_125 : decode cX1_join 125 = .ok (.iload_n 2, 1) := by decide +kernel
theorem dX1_join_126 : decode cX1_join 126 = .ok (.iconst 2, 1) := by decide +kernel
theorem dX1_join_127 : decode cX1_join 127 = .ok (.if_icmp .ne 58, 3) := by decide +kernel
theorem dX1_join_130 : decode cX1_join 130 = .ok (.aload_n 0, 1) := by decide +kernel
theorem dX1_join_131 : decode cX1_join 131 = .ok (.iload_n 3, 1) := by decide +kernel
theorem dX1_join_132 : decode cX1_join 132 = .ok (.iload 8, 2) := by decide +kernel
theorem dX1_join_134 : decode cX1_join 134 = .ok (.invokevirtual 45, 3) := by decide +kernel
theorem dX1_join_137 : decode cX1_join 137 = .ok (.i2l, 1) := by decide +kernel
theorem dX1_join_138 : decode cX1_join 138 = .ok (.aload_n 0, 1) := by decide +kernel
theorem dX1_join_139 : decode cX1_join 139 = .ok (.iload 4, 2) := by decide +kernel
theorem dX1_join_141 : decode cX1_join 141 = .ok (.iload 5, 2) := by decide +kernel
theorem dX1_join_143 : decode cX1_join 143 = .ok (.iload 8, 2) := by decide +kernel
theorem dX1_join_145 : decode cX1_join 145 = .ok (.isub, 1) := by decide +kernel
theorem dX1_join_146 : decode cX1_join 146 = .ok (.bipush 16, 2) := by decide +kernel
theorem dX1_join_148 : decode cX1_join 148 = .ok (.iadd, 1) := by decide +kernel
theorem dX1_join_149 : decode cX1_join 149 = .ok (.bipush 16, 2) := by decide +kernel
theorem dX1_join_151 : decode cX1_join 151 = .ok (.irem, 1) := by decide +kernel
theorem dX1_join_152 : decode cX1_join 152 = .ok (.invokevirtual 45, 3) := by decide +kernel
theorem dX1_join_155 : decode cX1_join 155 = .ok (.i2l, 1) := by decide +kernel
theorem dX1_join_156 : decode cX1_join 156 = .ok (.lmul, 1) := by decide +kernel
theorem dX1_join_157 : decode cX1_join 157 = .ok (.lstore 9, 2) := by decide +kernel
theorem dX1_join_159 : decode cX1_join 159 = .ok (.lload 6, 2) := by decide +kernel
theorem dX1_join_161 : decode cX1_join 161 = .ok (.iload 8, 2) := by decide +kernel
theorem dX1_join_163 : decode cX1_join 163 = .ok (.iload 5, 2) := by decide +kernel
theorem dX1_join_165 : decode cX1_join 165 = .ok (.if_icmp .le 9, 3) := by decide +kernel
theorem dX1_join_168 : decode cX1_join 168 = .ok (.lload 9, 2) := by decide +kernel
theorem dX1_join_170 : decode cX1_join 170 = .ok (.lneg, 1) := by decide +kernel
theorem dX1_join_171 : decode cX1_join 171 = .ok (.goto 5, 3) := by decide +kernel
theorem dX1_join_174 : decode cX1_join 174 = .ok (.lload 9, 2) := by decide +kernel
theorem dX1_join_176 : decode cX1_join 176 = .ok (.ladd, 1) := by decide +kernel
theorem dX1_join_177 : decode cX1_join 177 = .ok (.lstore 6, 2) := by decide +kernel
theorem dX1_join_179 : decode cX1_join 179 = .ok (.iinc 8 1, 3) := by decide +kernel
theorem dX1_join_182 : decode cX1_join 182 = .ok (.goto (-64), 3) := by decide +kernel
theorem dX1_join_185 : decode cX1_join 185 = .ok (.aload_n 0, 1) := by decide +kernel
theorem dX1_join_186 : decode cX1_join 186 = .ok (.getfield 17, 3) := by decide +kernel
theorem dX1_join_189 : decode cX1_join 189 = .ok (.iload 5, 2) := by decide +kernel
theorem dX1_join_191 : decode cX1_join 191 = .ok (.aload_n 0, 1) := by decide +kernel
theorem dX1_join_192 : decode cX1_join 192 = .ok (.lload 6, 2) := by decide +kernel
theorem dX1_join_194 : decode cX1_join 194 = .ok (.invokevirtual 48, 3) := by decide +kernel
theorem dX1_join_197 : decode cX1_join 197 = .ok (.iastore, 1) := by decide +kernel
theorem dX1_join_198 : decode cX1_join 198 = .ok (.iinc 5 1, 3) := by decide +kernel
theorem dX1_join_201 : decode cX1_join 201 = .ok (.goto (-145), 3) := by decide +kernel
theorem dX1_join_204 : decode cX1_join 204 = .ok (.aload_n 0, 1) := by decide +kernel
theorem dX1_join_205 : decode cX1_join 205 = .ok (.iload_n 1, 1) := by decide +kernel
theorem dX1_join_206 : decode cX1_join 206 = .ok (.invokevirtual 52, 3) := by decide +kernel
theorem dX1_join_209 : decode cX1_join 209 = .ok (.pop, 1) := by decide +kernel
theorem dX1_join_210 : decode cX1_join 210 = .ok (.aload_n 0, 1) := by decide +kernel
theorem dX1_join_211 : decode cX1_join 211 = .ok (.aload_n 0, 1) := by decide +kernel
theorem dX1_join_212 : decode cX1_join 212 = .ok (.getfield 17, 3) := by decide +kernel
theorem dX1_join_215 : decode cX1_join 215 = .ok (.invokevirtual 55, 3) := by decide +kernel
theorem dX1_join_218 : decode cX1_join 218 = .ok (.ireturn, 1) := by decide +kernel
theorem dX1_rest_0 : decode cX1_rest 0 = .ok (.iload_n 0, 1) := by decide +kernel
theorem dX1_rest_1 : decode cX1_rest 1 = .ok (.iload_n 1, 1) := by decide +kernel
theorem dX1_rest_2 : decode cX1_rest 2 = .ok (.irem, 1) := by decide +kernel
theorem dX1_rest_3 : decode cX1_rest 3 = .ok (.istore_n 2, 1) := by decide +kernel
theorem dX1_rest_4 : decode cX1_rest 4 = .ok (.iconst 2, 1) := by decide +kernel
theorem dX1_rest_5 : decode cX1_rest 5 = .ok (.iload_n 2, 1) := by decide +kernel
theorem dX1_rest_6 : decode cX1_rest 6 = .ok (.imul, 1) := by decide +kernel
theorem dX1_rest_7 : decode cX1_rest 7 = .ok (.iload_n 1, 1) := by decide +kernel
theorem dX1_rest_8 : decode cX1_rest 8 = .ok (.if_icmp .le 9, 3) := by decide +kernel
theorem dX1_rest_11 : decode cX1_rest 11 = .ok (.iload_n 2, 1) := by decide +kernel
theorem dX1_rest_12 : decode cX1_rest 12 = .ok (.iload_n 1, 1) := by decide +kernel
theorem dX1_rest_13 : decode cX1_rest 13 = .ok (.isub, 1) := by decide +kernel
theorem dX1_rest_14 : decode cX1_rest 14 = .ok (.goto 4, 3) := by decide +kernel
theorem dX1_rest_17 : decode cX1_rest 17 = .ok (.iload_n 2, 1) := by decide +kernel
theorem dX1_rest_18 : decode cX1_rest 18 = .ok (.ireturn, 1) := by decide +kernel
end
section
theorem dX1_round_0 : decode cX1_round 0 = .ok (.aload_n 0, 1) := by decide +kernel
theorem dX1_round_1 : decode cX1_round 1 = .ok (.iload_n 1, 1) := by decide +kernel
theorem dX1_round_2 : decode cX1_round 2 = .ok (.invokestatic 41, 3) := by decide +kernel
theorem dX1_round_5 : decode cX1_round 5 = .ok (.ifCond .ne 10, 3) := by decide +kernel
theorem dX1_round_8 : decode cX1_round 8 = .ok (.iload_n 3, 1) := by decide +kernel
theorem dX1_round_9 : decode cX1_round 9 = .ok (.invokestatic 41, 3) := by decide +kernel
theorem dX1_round_12 : decode cX1_round 12 = .ok (.ifCond .eq 7, 3) := by decide +kernel
theorem dX1_round_15 : decode cX1_round 15 = .ok (.iconst 1, 1) := by decide +kernel
theorem dX1_round_16 : decode cX1_round 16 = .ok (.goto 42, 3) := by decide +kernel
theorem dX1_round_19 : decode cX1_round 19 = .ok (.iload_n 2, 1) := by decide +kernel
theorem dX1_round_20 : decode cX1_round 20 = .ok (.ifCond .lt 33, 3) := by decide +kernel
theorem dX1_round_23 : decode cX1_round 23 = .ok (.iload_n 2, 1) := by decide +kernel
theorem dX1_round_24 : decode cX1_round 24 = .ok (.iconst 3, 1) := by decide +kernel
theorem dX1_round_25 : decode cX1_round 25 = .ok (.if_icmp .gt 28, 3) := by decide +kernel
theorem dX1_round_28 : decode cX1_round 28 = .ok (.iload 4, 2) := by decide +kernel
theorem dX1_round_30 : decode cX1_round 30 = .ok (.iconst 1, 1) := by decide +kernel
theorem dX1_round_31 : decode cX1_round 31 = .ok (.if_icmp .lt 22, 3) := by decide +kernel
theorem dX1_round_34 : decode cX1_round 34 = .ok (.iload 4, 2) := by decide +kernel
theorem dX1_round_36 : decode cX1_round 36 = .ok (.aload_n 0, 1) := by decide +kernel
theorem dX1_round_37 : decode cX1_round 37 = .ok (.getfield 37, 3) := by decide +kernel
theorem dX1_round_40 : decode cX1_round 40 = .ok (.ifCond .ne 8, 3) := by decide +kernel
theorem dX1_round_43 : decode cX1_round 43 = .ok (.bipush 11, 2) := by decide +kernel
theorem dX1_round_45 : decode cX1_round 45 = .ok (.goto 5, 3) := by decide +kernel
theorem dX1_round_48 : decode cX1_round 48 = .ok (.bipush 22, 2) := by decide +kernel
theorem dX1_round_50 : decode cX1_round 50 = .ok (.if_icmp .le 7, 3) := by decide +kernel
theorem dX1_round_53 : decode cX1_round 53 = .ok (.iconst 2, 1) := by decide +kernel
theorem dX1_round_54 : decode cX1_round 54 = .ok (.goto 4, 3) := by decide +kernel
theorem dX1_round_57 : decode cX1_round 57 = .ok (.iconst 0, 1) := by decide +kernel
theorem dX1_round_58 : decode cX1_round 58 = .ok (.putfield 20, 3) := by decide +kernel
theorem dX1_round_61 : decode cX1_round 61 = .ok (.aload_n 0, 1) := by decide +kernel
theorem dX1_round_62 : decode cX1_round 62 = .ok (.getfield 20, 3) := by decide +kernel
theorem dX1_round_65 : decode cX1_round 65 = .ok (.ifCond .le 5, 3) := by decide +kernel
theorem dX1_round_68 : decode cX1_round 68 = .ok (.iconst 0, 1) := by decide +kernel
theorem dX1_round_69 : decode cX1_round 69 = .ok (.ireturn, 1) := by decide +kernel
theorem dX1_round_70 : decode cX1_round 70 = .ok (.lconst 1, 1) := by decide +kernel
theorem dX1_round_71 : decode cX1_round 71 = .ok (.iload 4, 2) := by decide +kernel
theorem dX1_round_73 : decode cX1_round 73 = .ok (.lshl, 1) := by decide +kernel
theorem dX1_round_74 : decode cX1_round 74 = .ok (.lstore 5, 2) := by decide +kernel
theorem dX1_round_76 : decode cX1_round 76 = .ok (.iconst 0, 1) := by decide +kernel
theorem dX1_round_77 : decode cX1_round 77 = .ok (.istore 7, 2) := by decide +kernel
theorem dX1_round_79 : decode cX1_round 79 = .ok (.iload 7, 2) := by decide +kernel
theorem dX1_round_81 : decode cX1_round 81 = .ok (.bipush 16, 2) := by decide +kernel
theorem dX1_round_83 : decode cX1_round 83 = .ok (.if_icmp .ge 135, 3) := by decide +kernel
theorem dX1_round_86 : decode cX1_round 86 = .ok (.aload_n 0, 1) := by decide +kernel
theorem dX1_round_87 : decode cX1_round 87 = .ok (.iload_n 3, 1) := by decide +kernel
theorem dX1_round_88 : decode cX1_round 88 = .ok (.iload 7, 2) := by decide +kernel
theorem dX1_round_90 : decode cX1_round 90 = .ok (.invokevirtual 45, 3) := by decide +kernel
theorem dX1_round_93 : decode cX1_round 93 = .ok (.i2l, 1) := by decide +kernel
theorem dX1_round_94 : decode cX1_round 94 = .ok (.lstore 8, 2) := by decide +kernel
theorem dX1_round_96 : decode cX1_round 96 = .ok (.lload 8, 2) := by decide +kernel
theorem dX1_round_98 : decode cX1_round 98 = .ok (.l2i, 1) := by decide +kernel
theorem dX1_round_99 : decode cX1_round 99 = .ok (.lload 5, 2) := by decide +kernel
theorem dX1_round_101 : decode cX1_round 101 = .ok (.l2i, 1) := by decide +kernel
theorem dX1_round_102 : decode cX1_round 102 = .ok (.invokestatic 59, 3) := by decide +kernel
theorem dX1_round_105 : decode cX1_round 105 = .ok (.istore 10, 2) := by decide +kernel
theorem dX1_round_107 : decode cX1_round 107 = .ok (.aload_n 0, 1) := by decide +kernel
theorem dX1_round_108 : decode cX1_round 108 = .ok (.getfield 17, 3) := by decide +kernel
theorem dX1_round_111 : decode cX1_round 111 = .ok (.iload 7, 2) := by decide +kernel
theorem dX1_round_113 : decode cX1_round 113 = .ok (.iload_n 2, 1) := by decide +kernel
theorem dX1_round_114 : decode cX1_round 114 = .ok (.ifCond .ne 35, 3) := by decide +kernel
theorem dX1_round_117 : decode cX1_round 117 = .ok (.ldc2_w 62, 3) := by decide +kernel
theorem dX1_round_120 : decode cX1_round 120 = .ok (.lload 5, 2) := by decide +kernel
theorem dX1_round_122 : decode cX1_round 122 = .ok (.lmul, 1) := by decide +kernel
theorem dX1_round_123 : decode cX1_round 123 = .ok (.lload 8, 2) := by decide +kernel
theorem dX1_round_125 : decode cX1_round 125 = .ok (.lmul, 1) := by decide +kernel
theorem dX1_round_126 : decode cX1_round 126 = .ok (.aload_n 0, 1) := by decide +kernel
theorem dX1_round_127 : decode cX1_round 127 = .ok (.getfield 7, 3) := by decide +kernel
theorem dX1_round_130 : decode cX1_round 130 = .ok (.i2l, 1) := by decide +kernel
theorem dX1_round_131 : decode cX1_round 131 = .ok (.ladd, 1) := by decide +kernel
theorem dX1_round_132 : decode cX1_round 132 = .ok (.ldc2_w 62, 3) := by decide +kernel
theorem dX1_round_135 : decode cX1_round 135 = .ok (.aload_n 0, 1) := by decide +kernel
theorem dX1_round_136 : decode cX1_round 136 = .ok (.getfield 7, 3) := by decide +kernel
theorem dX1_round_139 : decode cX1_round 139 = .ok (.i2l, 1) := by decide +kernel
theorem dX1_round_140 : decode cX1_round 140 = .ok (.lmul, 1) := by decide +kernel
theorem dX1_round_141 : decode cX1_round 141 = .ok (.ldiv, 1) := by decide +kernel
theorem dX1_round_142 : decode cX1_round 142 = .ok (.lload 5, 2) := by decide +kernel
theorem dX1_round_144 : decode cX1_round 144 = .ok (.lrem, 1) := by decide +kernel
theorem dX1_round_145 : decode cX1_round 145 = .ok (.l2i, 1) := by decide +kernel
theorem dX1_round_146 : decode cX1_round 146 = .ok (.goto 65, 3) := by decide +kernel
theorem dX1_round_149 : decode cX1_round 149 = .ok (.iload_n 2, 1) := by decide +kernel
theorem dX1_round_150 : decode cX1_round 150 = .ok (.iconst 1, 1) := by decide +kernel
theorem dX1_round_151 : decode cX1_round 151 = .ok (.if_icmp .ne 35, 3) := by decide +kernel
theorem dX1_round_154 : decode cX1_round 154 = .ok (.aload_n 0, 1) := by decide +kernel
theorem dX1_round_155 : decode cX1_round 155 = .ok (.ldc2_w 62, 3) := by decide +kernel
theorem dX1_round_158 : decode cX1_round 158 = .ok (.aload_n 0, 1) := by decide +kernel
theorem dX1_round_159 : decode cX1_round 159 = .ok (.getfield 7, 3) := by decide +kernel
theorem dX1_round_162 : decode cX1_round 162 = .ok (.i2l, 1) := by decide +kernel
theorem dX1_round_163 : decode cX1_round 163 = .ok (.lmul, 1) := by decide +kernel
theorem dX1_round_164 : decode cX1_round 164 = .ok (.lload 8, 2) := by decide +kernel
theorem dX1_round_166 : decode cX1_round 166 = .ok (.lload 5, 2) := by decide +kernel
theorem dX1_round_168 : decode cX1_round 168 = .ok (.lrem, 1) := by decide +kernel
theorem dX1_round_169 : decode cX1_round 169 = .ok (.lmul, 1) := by decide +kernel
theorem dX1_round_170 : decode cX1_round 170 = .ok (.lload 5, 2) := by decide +kernel
theorem dX1_round_172 : decode cX1_round 172 = .ok (.ladd, 1) := by decide +kernel
theorem dX1_round_173 : decode cX1_round 173 = .ok (.ldc2_w 62, 3) := by decide +kernel
theorem dX1_round_176 : decode cX1_round 176 = .ok (.lload 5, 2) := by decide +kernel
theorem dX1_round_178 : decode cX1_round 178 = .ok (.lmul, 1) := by decide +kernel
theorem dX1_round_179 : decode cX1_round 179 = .ok (.ldiv, 1) := by decide +kernel
theorem dX1_round_180 : decode cX1_round 180 = .ok (.invokevirtual 48, 3) := by decide +kernel
theorem dX1_round_183 : decode cX1_round 183 = .ok (.goto 28, 3) := by decide +kernel
theorem dX1_round_186 : decode cX1_round 186 = .ok (.iload_n 2, 1) := by decide +kernel
theorem dX1_round_187 : decode cX1_round 187 = .ok (.iconst 2, 1) := by decide +kernel
theorem dX1_round_188 : decode cX1_round 188 = .ok (.if_icmp .ne 13, 3) := by decide +kernel
theorem dX1_round_191 : decode cX1_round 191 = .ok (.aload_n 0, 1) := by decide +kernel
theorem dX1_round_192 : decode cX1_round 192 = .ok (.iload 10, 2) := by decide +kernel
theorem dX1_round_194 : decode cX1_round 194 = .ok (.i2l, 1) := by decide +kernel
theorem dX1_round_195 : decode cX1_round 195 = .ok (.invokevirtual 48, 3) := by decide +kernel
theorem dX1_round_198 : decode cX1_round 198 = .ok (.goto 13, 3) := by decide +kernel
theorem dX1_round_201 : decode cX1_round 201 = .ok (.lload 8, 2) := by decide +kernel
theorem dX1_round_203 : decode cX1_round 203 = .ok (.iload 10, 2) := by decide +kernel
theorem dX1_round_205 : decode cX1_round 205 = .ok (.i2l, 1) := by decide +kernel
theorem dX1_round_206 : decode cX1_round 206 = .ok (.lsub, 1) := by decide +kernel
theorem dX1_round_207 : decode cX1_round 207 = .ok (.lload 5, 2) := by decide +kernel
theorem dX1_round_209 : decode cX1_round 209 = .ok (.ldiv, 1) := by decide +kernel
theorem dX1_round_210 : decode cX1_round 210 = .ok (.l2i, 1) := by decide +kernel
theorem dX1_round_211 : decode cX1_round 211 = .ok (.iastore, 1) := by decide +kernel
theorem dX1_round_212 : decode cX1_round 212 = .ok (.iinc 7 1, 3) := by decide +kernel
theorem dX1_round_215 : decode cX1_round 215 = .ok (.goto (-136), 3) := by decide +kernel
theorem dX1_round_218 : decode cX1_round 218 = .ok (.aload_n 0, 1) := by decide +kernel
theorem dX1_round_219 : decode cX1_round 219 = .ok (.iload_n 1, 1) := by decide +kernel
theorem dX1_round_220 : decode cX1_round 220 = .ok (.invokevirtual 52, 3) := by decide +kernel
theorem dX1_round_223 : decode cX1_round 223 = .ok (.ireturn, 1) := by decide +kernel
theorem dX1_isAlpha_0 : decode cX1_isAlpha 0 = .ok (.iload_n 1, 1) := by decide +kernel
theorem dX1_isAlpha_1 : decode cX1_isAlpha 1 = .ok (.ifCond .le 24, 3) := by decide +kernel
theorem dX1_isAlpha_4 : decode cX1_isAlpha 4 = .ok (.iload_n 1, 1) := by decide +kernel
theorem dX1_isAlpha_5 : decode cX1_isAlpha 5 = .ok (.iconst 2, 1) := by decide +kernel
theorem dX1_isAlpha_6 : decode cX1_isAlpha 6 = .ok (.irem, 1) := by decide +kernel
theorem dX1_isAlpha_7 : decode cX1_isAlpha 7 = .ok (.ifCond .ne 18, 3) := by decide +kernel
theorem dX1_isAlpha_10 : decode cX1_isAlpha 10 = .ok (.aload_n 0, 1) := by decide +kernel
theorem dX1_isAlpha_11 : decode cX1_isAlpha 11 = .ok (.getfield 7, 3) := by decide +kernel
theorem dX1_isAlpha_14 : decode cX1_isAlpha 14 = .ok (.iconst 1, 1) := by decide +kernel
theorem dX1_isAlpha_15 : decode cX1_isAlpha 15 = .ok (.isub, 1) := by decide +kernel
theorem dX1_isAlpha_16 : decode cX1_isAlpha 16 = .ok (.iload_n 1, 1) := by decide +kernel
theorem dX1_isAlpha_17 : decode cX1_isAlpha 17 = .ok (.irem, 1) := by decide +kernel
theorem dX1_isAlpha_18 : decode cX1_isAlpha 18 = .ok (.ifCond .ne 7, 3) := by decide +kernel
theorem dX1_isAlpha_21 : decode cX1_isAlpha 21 = .ok (.iconst 1, 1) := by decide +kernel
theorem dX1_isAlpha_22 : decode cX1_isAlpha 22 = .ok (.goto 4, 3) := by decide +kernel
theorem dX1_isAlpha_25 : decode cX1_isAlpha 25 = .ok (.iconst 0, 1) := by decide +kernel
theorem dX1_isAlpha_26 : decode cX1_isAlpha 26 = .ok (.ireturn, 1) := by decide +kernel
theorem dX1_partOf_0 : decode cX1_partOf 0 = .ok (.iload_n 1, 1) := by decide +kernel
theorem dX1_partOf_1 : decode cX1_partOf 1 = .ok (.iload_n 2, 1) := by decide +kernel
theorem dX1_partOf_2 : decode cX1_partOf 2 = .ok (.invokestatic 59, 3) := by decide +kernel
theorem dX1_partOf_5 : decode cX1_partOf 5 = .ok (.istore_n 3, 1) := by decide +kernel
theorem dX1_partOf_6 : decode cX1_partOf 6 = .ok (.iload_n 1, 1) := by decide +kernel
theorem dX1_partOf_7 : decode cX1_partOf 7 = .ok (.iload_n 3, 1) := by decide +kernel
theorem dX1_partOf_8 : decode cX1_partOf 8 = .ok (.isub, 1) := by decide +kernel
theorem dX1_partOf_9 : decode cX1_partOf 9 = .ok (.aload_n 0, 1) := by decide +kernel
theorem dX1_partOf_10 : decode cX1_partOf 10 = .ok (.getfield 7, 3) := by decide +kernel
theorem dX1_partOf_13 : decode cX1_partOf 13 = .ok (.iconst 1, 1) := by decide +kernel
theorem dX1_partOf_14 : decode cX1_partOf 14 = .ok (.isub, 1) := by decide +kernel
theorem dX1_partOf_15 : decode cX1_partOf 15 = .ok (.if_icmp .ne 7, 3) := by decide +kernel
theorem dX1_partOf_18 : decode cX1_partOf 18 = .ok (.iconst 0, 1) := by decide +kernel
theorem dX1_partOf_19 : decode cX1_partOf 19 = .ok (.goto 8, 3) := by decide +kernel
theorem dX1_partOf_22 : decode cX1_partOf 22 = .ok (.iload_n 1, 1) := by decide +kernel
theorem dX1_partOf_23 : decode cX1_partOf 23 = .ok (.iload_n 3, 1) := by decide +kernel
theorem dX1_partOf_24 : decode cX1_partOf 24 = .ok (.isub, 1) := by decide +kernel
theorem dX1_partOf_25 : decode cX1_partOf 25 = .ok (.iload_n 2, 1) := by decide +kernel
theorem dX1_partOf_26 : decode cX1_partOf 26 = .ok (.idiv, 1) := by decide +kernel
theorem dX1_partOf_27 : decode cX1_partOf 27 = .ok (.ireturn, 1) := by decide +kernel
theorem dX1_restOf_0 : decode cX1_restOf 0 = .ok (.iload_n 1, 1) := by decide +kernel
theorem dX1_restOf_1 : decode cX1_restOf 1 = .ok (.iload_n 2, 1) := by decide +kernel
theorem dX1_restOf_2 : decode cX1_restOf 2 = .ok (.invokestatic 59, 3) := by decide +kernel
theorem dX1_restOf_5 : decode cX1_restOf 5 = .ok (.istore_n 3, 1) := by decide +kernel
theorem dX1_restOf_6 : decode cX1_restOf 6 = .ok (.iload_n 1, 1) := by decide +kernel
theorem dX1_restOf_7 : decode cX1_restOf 7 = .ok (.iload_n 3, 1) := by decide +kernel
theorem dX1_restOf_8 : decode cX1_restOf 8 = .ok (.isub, 1) := by decide +kernel
theorem dX1_restOf_9 : decode cX1_restOf 9 = .ok (.aload_n 0, 1) := by decide +kernel
theorem dX1_restOf_10 : decode cX1_restOf 10 = .ok (.getfield 7, 3) := by decide +kernel
theorem dX1_restOf_13 : decode cX1_restOf 13 = .ok (.iconst 1, 1) := by decide +kernel
theorem dX1_restOf_14 : decode cX1_restOf 14 = .ok (.isub, 1) := by decide +kernel
theorem dX1_restOf_15 : decode cX1_restOf 15 = .ok (.if_icmp .ne 9, 3) := by decide +kernel
theorem dX1_restOf_18 : decode cX1_restOf 18 = .ok (.iload_n 3, 1) := by decide +kernel
theorem dX1_restOf_19 : decode cX1_restOf 19 = .ok (.iconst 1, 1) := by decide +kernel
theorem dX1_restOf_20 : decode cX1_restOf 20 = .ok (.isub, 1) := by decide +kernel
theorem dX1_restOf_21 : decode cX1_restOf 21 = .ok (.goto 4, 3) := by decide +kernel
theorem dX1_restOf_24 : decode cX1_restOf 24 = .ok (.iload_n 3, 1) := by decide +kernel
theorem dX1_restOf_25 : decode cX1_restOf 25 = .ok (.ireturn, 1) := by decide +kernel
theorem dX1_part_0 : decode cX1_part 0 = .ok (.aload_n 0, 1) := by decide +kernel
theorem dX1_part_1 : decode cX1_part 1 = .ok (.iload_n 1, 1) := by decide +kernel
theorem dX1_part_2 : decode cX1_part 2 = .ok (.invokestatic 41, 3) := by decide +kernel
theorem dX1_part_5 : decode cX1_part 5 = .ok (.ifCond .ne 10, 3) := by decide +kernel
theorem dX1_part_8 : decode cX1_part 8 = .ok (.iload_n 2, 1) := by decide +kernel
theorem dX1_part_9 : decode cX1_part 9 = .ok (.invokestatic 41, 3) := by decide +kernel
theorem dX1_part_12 : decode cX1_part 12 = .ok (.ifCond .eq 7, 3) := by decide +kernel
theorem dX1_part_15 : decode cX1_part 15 = .ok (.iconst 1, 1) := by decide +kernel
theorem dX1_part_16 : decode cX1_part 16 = .ok (.goto 16, 3) := by decide +kernel
theorem dX1_part_19 : decode cX1_part 19 = .ok (.aload_n 0, 1) := by decide +kernel
theorem dX1_part_20 : decode cX1_part 20 = .ok (.iload_n 3, 1) := by decide +kernel
theorem dX1_part_21 : decode cX1_part 21 = .ok (.invokevirtual 64, 3) := by decide +kernel
theorem dX1_part_24 : decode cX1_part 24 = .ok (.ifCond .ne 7, 3) := by decide +kernel
theorem dX1_part_27 : decode cX1_part 27 = .ok (.iconst 2, 1) := by decide +kernel
theorem dX1_part_28 : decode cX1_part 28 = .ok (.goto 4, 3) := by decide +kernel
theorem dX1_part_31 : decode cX1_part 31 = .ok (.iconst 0, 1) := by decide +kernel
theorem dX1_part_32 : decode cX1_part 32 = .ok (.putfield 20, 3) := by decide +kernel
theorem dX1_part_35 : decode cX1_part 35 = .ok (.aload_n 0, 1) := by decide +kernel
theorem dX1_part_36 : decode cX1_part 36 = .ok (.getfield 20, 3) := by decide +kernel
theorem dX1_part_39 : decode cX1_part 39 = .ok (.ifCond .le 5, 3) := by decide +kernel
theorem dX1_part_42 : decode cX1_part 42 = .ok (.iconst 0, 1) := by decide +kernel
theorem dX1_part_43 : decode cX1_part 43 = .ok (.ireturn, 1) := by decide +kernel
theorem dX1_part_44 : decode cX1_part 44 = .ok (.iconst 0, 1) := by decide +kernel
theorem dX1_part_45 : decode cX1_part 45 = .ok (.istore 5, 2) := by decide +kernel
theorem dX1_part_47 : decode cX1_part 47 = .ok (.iload 5, 2) := by decide +kernel
theorem dX1_part_49 : decode cX1_part 49 = .ok (.bipush 16, 2) := by decide +kernel
theorem dX1_part_51 : decode cX1_part 51 = .ok (.if_icmp .ge 53, 3) := by decide +kernel
theorem dX1_part_54 : decode cX1_part 54 = .ok (.aload_n 0, 1) := by decide +kernel
theorem dX1_part_55 : decode cX1_part 55 = .ok (.getfield 17, 3) := by decide +kernel
theorem dX1_part_58 : decode cX1_part 58 = .ok (.iload 5, 2) := by decide +kernel
theorem dX1_part_60 : decode cX1_part 60 = .ok (.iload 4, 2) := by decide +kernel
theorem dX1_part_62 : decode cX1_part 62 = .ok (.ifCond .eq 18, 3) := by decide +kernel
theorem dX1_part_65 : decode cX1_part 65 = .ok (.aload_n 0, 1) := by decide +kernel
theorem dX1_part_66 : decode cX1_part 66 = .ok (.aload_n 0, 1) := by decide +kernel
theorem dX1_part_67 : decode cX1_part 67 = .ok (.iload_n 2, 1) := by decide +kernel
theorem dX1_part_68 : decode cX1_part 68 = .ok (.iload 5, 2) := by decide +kernel
theorem dX1_part_70 : decode cX1_part 70 = .ok (.invokevirtual 45, 3) := by decide +kernel
theorem dX1_part_73 : decode cX1_part 73 = .ok (.iload_n 3, 1) := by decide +kernel
theorem dX1_part_74 : decode cX1_part 74 = .ok (.invokevirtual 67, 3) := by decide +kernel
theorem dX1_part_77 : decode cX1_part 77 = .ok (.goto 20, 3) := by decide +kernel
theorem dX1_part_80 : decode cX1_part 80 = .ok (.aload_n 0, 1) := by decide +kernel
theorem dX1_part_81 : decode cX1_part 81 = .ok (.aload_n 0, 1) := by decide +kernel
theorem dX1_part_82 : decode cX1_part 82 = .ok (.aload_n 0, 1) := by decide +kernel
theorem dX1_part_83 : decode cX1_part 83 = .ok (.iload_n 2, 1) := by decide +kernel
theorem dX1_part_84 : decode cX1_part 84 = .ok (.iload 5, 2) := by decide +kernel
theorem dX1_part_86 : decode cX1_part 86 = .ok (.invokevirtual 45, 3) := by decide +kernel
theorem dX1_part_89 : decode cX1_part 89 = .ok (.iload_n 3, 1) := by decide +kernel
theorem dX1_part_90 : decode cX1_part 90 = .ok (.invokevirtual 70, 3) := by decide +kernel
theorem dX1_part_93 : decode cX1_part 93 = .ok (.i2l, 1) := by decide +kernel
theorem dX1_part_94 : decode cX1_part 94 = .ok (.invokevirtual 48, 3) := by decide +kernel
theorem dX1_part_97 : decode cX1_part 97 = .ok (.iastore, 1) := by decide +kernel
theorem dX1_part_98 : decode cX1_part 98 = .ok (.iinc 5 1, 3) := by decide +kernel
theorem dX1_part_101 : decode cX1_part 101 = .ok (.goto (-54), 3) := by decide +kernel
theorem dX1_part_104 : decode cX1_part 104 = .ok (.aload_n 0, 1) := by decide +kernel
theorem dX1_part_105 : decode cX1_part 105 = .ok (.iload_n 1, 1) := by decide +kernel
theorem dX1_part_106 : decode cX1_part 106 = .ok (.invokevirtual 52, 3) := by decide +kernel
theorem dX1_part_109 : decode cX1_part 109 = .ok (.ireturn, 1) := by decide +kernel
theorem dX1_hint_0 : decode cX1_hint 0 = .ok (.aload_n 0, 1) := by decide +kernel
theorem dX1_hint_1 : decode cX1_hint 1 = .ok (.iload_n 1, 1) := by decide +kernel
theorem dX1_hint_2 : decode cX1_hint 2 = .ok (.invokestatic 41, 3) := by decide +kernel
theorem dX1_hint_5 : decode cX1_hint 5 = .ok (.ifCond .ne 17, 3) := by decide +kernel
theorem dX1_hint_8 : decode cX1_hint 8 = .ok (.iload_n 2, 1) := by decide +kernel
theorem dX1_hint_9 : decode cX1_hint 9 = .ok (.invokestatic 41, 3) := by decide +kernel
theorem dX1_hint_12 : decode cX1_hint 12 = .ok (.ifCond .ne 10, 3) := by decide +kernel
theorem dX1_hint_15 : decode cX1_hint 15 = .ok (.iload_n 3, 1) := by decide +kernel
theorem dX1_hint_16 : decode cX1_hint 16 = .ok (.invokestatic 41, 3) := by decide +kernel
theorem dX1_hint_19 : decode cX1_hint 19 = .ok (.ifCond .eq 7, 3) := by decide +kernel
theorem dX1_hint_22 : decode cX1_hint 22 = .ok (.iconst 1, 1) := by decide +kernel
theorem dX1_hint_23 : decode cX1_hint 23 = .ok (.goto 17, 3) := by decide +kernel
theorem dX1_hint_26 : decode cX1_hint 26 = .ok (.aload_n 0, 1) := by decide +kernel
theorem dX1_hint_27 : decode cX1_hint 27 = .ok (.iload 4, 2) := by decide +kernel
theorem dX1_hint_29 : decode cX1_hint 29 = .ok (.invokevirtual 64, 3) := by decide +kernel
theorem dX1_hint_32 : decode cX1_hint 32 = .ok (.ifCond .ne 7, 3) := by decide +kernel
theorem dX1_hint_35 : decode cX1_hint 35 = .ok (.iconst 2, 1) := by decide +kernel
theorem dX1_hint_36 : decode cX1_hint 36 = .ok (.goto 4, 3) := by decide +kernel
theorem dX1_hint_39 : decode cX1_hint 39 = .ok (.iconst 0, 1) := by decide +kernel
theorem dX1_hint_40 : decode cX1_hint 40 = .ok (.putfield 20, 3) := by decide +kernel
theorem dX1_hint_43 : decode cX1_hint 43 = .ok (.aload_n 0, 1) := by decide +kernel
theorem dX1_hint_44 : decode cX1_hint 44 = .ok (.getfield 20, 3) := by decide +kernel
theorem dX1_hint_47 : decode cX1_hint 47 = .ok (.ifCond .le 5, 3) := by decide +kernel
theorem dX1_hint_50 : decode cX1_hint 50 = .ok (.iconst 0, 1) := by decide +kernel
theorem dX1_hint_51 : decode cX1_hint 51 = .ok (.ireturn, 1) := by decide +kernel
theorem dX1_hint_52 : decode cX1_hint 52 = .ok (.iconst 0, 1) := by decide +kernel
theorem dX1_hint_53 : decode cX1_hint 53 = .ok (.istore 5, 2) := by decide +kernel
theorem dX1_hint_55 : decode cX1_hint 55 = .ok (.iload 5, 2) := by decide +kernel
theorem dX1_hint_57 : decode cX1_hint 57 = .ok (.bipush 16, 2) := by decide +kernel
theorem dX1_hint_59 : decode cX1_hint 59 = .ok (.if_icmp .ge 64, 3) := by decide +kernel
theorem dX1_hint_62 : decode cX1_hint 62 = .ok (.aload_n 0, 1) := by decide +kernel
theorem dX1_hint_63 : decode cX1_hint 63 = .ok (.getfield 17, 3) := by decide +kernel
theorem dX1_hint_66 : decode cX1_hint 66 = .ok (.iload 5, 2) := by decide +kernel
theorem dX1_hint_68 : decode cX1_hint 68 = .ok (.aload_n 0, 1) := by decide +kernel
theorem dX1_hint_69 : decode cX1_hint 69 = .ok (.aload_n 0, 1) := by decide +kernel
theorem dX1_hint_70 : decode cX1_hint 70 = .ok (.iload_n 2, 1) := by decide +kernel
theorem dX1_hint_71 : decode cX1_hint 71 = .ok (.iload 5, 2) := by decide +kernel
theorem dX1_hint_73 : decode cX1_hint 73 = .ok (.invokevirtual 45, 3) := by decide +kernel
theorem dX1_hint_76 : decode cX1_hint 76 = .ok (.iload 4, 2) := by decide +kernel
theorem dX1_hint_78 : decode cX1_hint 78 = .ok (.invokevirtual 67, 3) := by decide +kernel
theorem dX1_hint_81 : decode cX1_hint 81 = .ok (.aload_n 0, 1) := by decide +kernel
theorem dX1_hint_82 : decode cX1_hint 82 = .ok (.aload_n 0, 1) := by decide +kernel
theorem dX1_hint_83 : decode cX1_hint 83 = .ok (.aload_n 0, 1) := by decide +kernel
theorem dX1_hint_84 : decode cX1_hint 84 = .ok (.iload_n 2, 1) := by decide +kernel
theorem dX1_hint_85 : decode cX1_hint 85 = .ok (.iload 5, 2) := by decide +kernel
theorem dX1_hint_87 : decode cX1_hint 87 = .ok (.invokevirtual 45, 3) := by decide +kernel
theorem dX1_hint_90 : decode cX1_hint 90 = .ok (.i2l, 1) := by decide +kernel
theorem dX1_hint_91 : decode cX1_hint 91 = .ok (.aload_n 0, 1) := by decide +kernel
theorem dX1_hint_92 : decode cX1_hint 92 = .ok (.iload_n 3, 1) := by decide +kernel
theorem dX1_hint_93 : decode cX1_hint 93 = .ok (.iload 5, 2) := by decide +kernel
theorem dX1_hint_95 : decode cX1_hint 95 = .ok (.invokevirtual 45, 3) := by decide +kernel
theorem dX1_hint_98 : decode cX1_hint 98 = .ok (.i2l, 1) := by decide +kernel
theorem dX1_hint_99 : decode cX1_hint 99 = .ok (.ladd, 1) := by decide +kernel
theorem dX1_hint_100 : decode cX1_hint 100 = .ok (.invokevirtual 48, 3) := by decide +kernel
theorem dX1_hint_103 : decode cX1_hint 103 = .ok (.iload 4, 2) := by decide +kernel
theorem dX1_hint_105 : decode cX1_hint 105 = .ok (.invokevirtual 67, 3) := by decide +kernel
theorem dX1_hint_108 : decode cX1_hint 108 = .ok (.if_icmp .eq 7, 3) := by decide +kernel
theorem dX1_hint_111 : decode cX1_hint 111 = .ok (.iconst 1, 1) := by decide +kernel
theorem dX1_hint_112 : decode cX1_hint 112 = .ok (.goto 4, 3) := by decide +kernel
theorem dX1_hint_115 : decode cX1_hint 115 = .ok (.iconst 0, 1) := by decide +kernel
theorem dX1_hint_116 : decode cX1_hint 116 = .ok (.iastore, 1) := by decide +kernel
theorem dX1_hint_117 : decode cX1_hint 117 = .ok (.iinc 5 1, 3) := by decide +kernel
theorem dX1_hint_120 : decode cX1_hint 120 = .ok (.goto (-65), 3) := by decide +kernel
theorem dX1_hint_123 : decode cX1_hint 123 = .ok (.aload_n 0, 1) := by decide +kernel
theorem dX1_hint_124 : decode cX1_hint 124 = .ok (.iload_n 1, 1) := by decide +kernel
theorem dX1_hint_125 : decode cX1_hint 125 = .ok (.invokevirtual 52, 3) := by decide +kernel
theorem dX1_hint_128 : decode cX1_hint 128 = .ok (.ireturn, 1) := by decide +kernel
theorem dX1_use_0 : decode cX1_use 0 = .ok (.aload_n 0, 1) := by decide +kernel
theorem dX1_use_1 : decode cX1_use 1 = .ok (.iload_n 1, 1) := by decide +kernel
theorem dX1_use_2 : decode cX1_use 2 = .ok (.invokestatic 41, 3) := by decide +kernel
theorem dX1_use_5 : decode cX1_use 5 = .ok (.ifCond .ne 17, 3) := by decide +kernel
theorem dX1_use_8 : decode cX1_use 8 = .ok (.iload_n 2, 1) := by decide +kernel
theorem dX1_use_9 : decode cX1_use 9 = .ok (.invokestatic 41, 3) := by decide +kernel
theorem dX1_use_12 : decode cX1_use 12 = .ok (.ifCond .ne 10, 3) := by decide +kernel
theorem dX1_use_15 : decode cX1_use 15 = .ok (.iload_n 3, 1) := by decide +kernel
theorem dX1_use_16 : decode cX1_use 16 = .ok (.invokestatic 41, 3) := by decide +kernel
theorem dX1_use_19 : decode cX1_use 19 = .ok (.ifCond .eq 7, 3) := by decide +kernel
theorem dX1_use_22 : decode cX1_use 22 = .ok (.iconst 1, 1) := by decide +kernel
theorem dX1_use_23 : decode cX1_use 23 = .ok (.goto 17, 3) := by decide +kernel
theorem dX1_use_26 : decode cX1_use 26 = .ok (.aload_n 0, 1) := by decide +kernel
theorem dX1_use_27 : decode cX1_use 27 = .ok (.iload 4, 2) := by decide +kernel
theorem dX1_use_29 : decode cX1_use 29 = .ok (.invokevirtual 64, 3) := by decide +kernel
theorem dX1_use_32 : decode cX1_use 32 = .ok (.ifCond .ne 7, 3) := by decide +kernel
theorem dX1_use_35 : decode cX1_use 35 = .ok (.iconst 2, 1) := by decide +kernel
theorem dX1_use_36 : decode cX1_use 36 = .ok (.goto 4, 3) := by decide +kernel
theorem dX1_use_39 : decode cX1_use 39 = .ok (.iconst 0, 1) := by decide +kernel
theorem dX1_use_40 : decode cX1_use 40 = .ok (.putfield 20, 3) := by decide +kernel
theorem dX1_use_43 : decode cX1_use 43 = .ok (.aload_n 0, 1) := by decide +kernel
theorem dX1_use_44 : decode cX1_use 44 = .ok (.getfield 20, 3) := by decide +kernel
theorem dX1_use_47 : decode cX1_use 47 = .ok (.ifCond .le 5, 3) := by decide +kernel
theorem dX1_use_50 : decode cX1_use 50 = .ok (.iconst 0, 1) := by decide +kernel
theorem dX1_use_51 : decode cX1_use 51 = .ok (.ireturn, 1) := by decide +kernel
theorem dX1_use_52 : decode cX1_use 52 = .ok (.iconst 0, 1) := by decide +kernel
theorem dX1_use_53 : decode cX1_use 53 = .ok (.istore 5, 2) := by decide +kernel
theorem dX1_use_55 : decode cX1_use 55 = .ok (.aload_n 0, 1) := by decide +kernel
theorem dX1_use_56 : decode cX1_use 56 = .ok (.getfield 7, 3) := by decide +kernel
theorem dX1_use_59 : decode cX1_use 59 = .ok (.iconst 1, 1) := by decide +kernel
theorem dX1_use_60 : decode cX1_use 60 = .ok (.isub, 1) := by decide +kernel
theorem dX1_use_61 : decode cX1_use 61 = .ok (.iload 4, 2) := by decide +kernel
theorem dX1_use_63 : decode cX1_use 63 = .ok (.idiv, 1) := by decide +kernel
theorem dX1_use_64 : decode cX1_use 64 = .ok (.istore 6, 2) := by decide +kernel
theorem dX1_use_66 : decode cX1_use 66 = .ok (.iconst 0, 1) := by decide +kernel
theorem dX1_use_67 : decode cX1_use 67 = .ok (.istore 7, 2) := by decide +kernel
theorem dX1_use_69 : decode cX1_use 69 = .ok (.iload 7, 2) := by decide +kernel
theorem dX1_use_71 : decode cX1_use 71 = .ok (.bipush 16, 2) := by decide +kernel
theorem dX1_use_73 : decode cX1_use 73 = .ok (.if_icmp .ge 90, 3) := by decide +kernel
theorem dX1_use_76 : decode cX1_use 76 = .ok (.aload_n 0, 1) := by decide +kernel
theorem dX1_use_77 : decode cX1_use 77 = .ok (.aload_n 0, 1) := by decide +kernel
theorem dX1_use_78 : decode cX1_use 78 = .ok (.iload_n 2, 1) := by decide +kernel
theorem dX1_use_79 : decode cX1_use 79 = .ok (.iload 7, 2) := by decide +kernel
theorem dX1_use_81 : decode cX1_use 81 = .ok (.invokevirtual 45, 3) := by decide +kernel
theorem dX1_use_84 : decode cX1_use 84 = .ok (.iload 4, 2) := by decide +kernel
theorem dX1_use_86 : decode cX1_use 86 = .ok (.invokevirtual 67, 3) := by decide +kernel
theorem dX1_use_89 : decode cX1_use 89 = .ok (.istore 8, 2) := by decide +kernel
theorem dX1_use_91 : decode cX1_use 91 = .ok (.aload_n 0, 1) := by decide +kernel
theorem dX1_use_92 : decode cX1_use 92 = .ok (.getfield 17, 3) := by decide +kernel
theorem dX1_use_95 : decode cX1_use 95 = .ok (.iload 7, 2) := by decide +kernel
theorem dX1_use_97 : decode cX1_use 97 = .ok (.aload_n 0, 1) := by decide +kernel
theorem dX1_use_98 : decode cX1_use 98 = .ok (.iload_n 3, 1) := by decide +kernel
theorem dX1_use_99 : decode cX1_use 99 = .ok (.iload 7, 2) := by decide +kernel
theorem dX1_use_101 : decode cX1_use 101 = .ok (.invokevirtual 45, 3) := by decide +kernel
theorem dX1_use_104 : decode cX1_use 104 = .ok (.ifCond .ne 8, 3) := by decide +kernel
theorem dX1_use_107 : decode cX1_use 107 = .ok (.iload 8, 2) := by decide +kernel
theorem dX1_use_109 : decode cX1_use 109 = .ok (.goto 32, 3) := by decide +kernel
theorem dX1_use_112 : decode cX1_use 112 = .ok (.iload 8, 2) := by decide +kernel
theorem dX1_use_114 : decode cX1_use 114 = .ok (.aload_n 0, 1) := by decide +kernel
theorem dX1_use_115 : decode cX1_use 115 = .ok (.aload_n 0, 1) := by decide +kernel
theorem dX1_use_116 : decode cX1_use 116 = .ok (.iload_n 2, 1) := by decide +kernel
theorem dX1_use_117 : decode cX1_use 117 = .ok (.iload 7, 2) := by decide +kernel
theorem dX1_use_119 : decode cX1_use 119 = .ok (.invokevirtual 45, 3) := by decide +kernel
theorem dX1_use_122 : decode cX1_use 122 = .ok (.iload 4, 2) := by decide +kernel
theorem dX1_use_124 : decode cX1_use 124 = .ok (.invokevirtual 70, 3) := by decide +kernel
theorem dX1_use_127 : decode cX1_use 127 = .ok (.ifCond .le 7, 3) := by decide +kernel
theorem dX1_use_130 : decode cX1_use 130 = .ok (.iconst 1, 1) := by decide +kernel
theorem dX1_use_131 : decode cX1_use 131 = .ok (.goto 4, 3) := by decide +kernel
theorem dX1_use_134 : decode cX1_use 134 = .ok (.iconst (-1), 1) := by decide +kernel
theorem dX1_use_135 : decode cX1_use 135 = .ok (.iadd, 1) := by decide +kernel
theorem dX1_use_136 : decode cX1_use 136 = .ok (.iload 6, 2) := by decide +kernel
theorem dX1_use_138 : decode cX1_use 138 = .ok (.invokestatic 73, 3) := by decide +kernel
theorem dX1_use_141 : decode cX1_use 141 = .ok (.iastore, 1) := by decide +kernel
theorem dX1_use_142 : decode cX1_use 142 = .ok (.aload_n 0, 1) := by decide +kernel
theorem dX1_use_143 : decode cX1_use 143 = .ok (.getfield 17, 3) := by decide +kernel
theorem dX1_use_146 : decode cX1_use 146 = .ok (.iload 7, 2) := by decide +kernel
theorem dX1_use_148 : decode cX1_use 148 = .ok (.iaload, 1) := by decide +kernel
theorem dX1_use_149 : decode cX1_use 149 = .ok (.iload 8, 2) := by decide +kernel
theorem dX1_use_151 : decode cX1_use 151 = .ok (.if_icmp .eq 6, 3) := by decide +kernel
theorem dX1_use_154 : decode cX1_use 154 = .ok (.iinc 5 1, 3) := by decide +kernel
theorem dX1_use_157 : decode cX1_use 157 = .ok (.iinc 7 1, 3) := by decide +kernel
theorem dX1_use_160 : decode cX1_use 160 = .ok (.goto (-91), 3) := by decide +kernel
theorem dX1_use_163 : decode cX1_use 163 = .ok (.aload_n 0, 1) := by decide +kernel
theorem dX1_use_164 : decode cX1_use 164 = .ok (.iload_n 1, 1) := by decide +kernel
theorem dX1_use_165 : decode cX1_use 165 = .ok (.invokevirtual 52, 3) := by decide +kernel
theorem dX1_use_168 : decode cX1_use 168 = .ok (.pop, 1) := by decide +kernel
theorem dX1_use_169 : decode cX1_use 169 = .ok (.iload 5, 2) := by decide +kernel
theorem dX1_use_171 : decode cX1_use 171 = .ok (.ireturn, 1) := by decide +kernel
theorem dX1_size_0 : decode cX1_size 0 = .ok (.aload_n 0, 1) := by decide +kernel
theorem dX1_size_1 : decode cX1_size 1 = .ok (.iload_n 1, 1) := by decide +kernel
theorem dX1_size_2 : decode cX1_size 2 = .ok (.invokestatic 41, 3) := by decide +kernel
theorem dX1_size_5 : decode cX1_size 5 = .ok (.ifCond .eq 7, 3) := by decide +kernel
theorem dX1_size_8 : decode cX1_size 8 = .ok (.iconst 1, 1) := by decide +kernel
theorem dX1_size_9 : decode cX1_size 9 = .ok (.goto 4, 3) := by decide +kernel
theorem dX1_size_12 : decode cX1_size 12 = .ok (.iconst 0, 1) := by decide +kernel
theorem dX1_size_13 : decode cX1_size 13 = .ok (.putfield 20, 3) := by decide +kernel
theorem dX1_size_16 : decode cX1_size 16 = .ok (.iconst 0, 1) := by decide +kernel
theorem dX1_size_17 : decode cX1_size 17 = .ok (.istore_n 2, 1) := by decide +kernel
theorem dX1_size_18 : decode cX1_size 18 = .ok (.iconst 0, 1) := by decide +kernel
theorem dX1_size_19 : decode cX1_size 19 = .ok (.istore_n 3, 1) := by decide +kernel
theorem dX1_size_20 : decode cX1_size 20 = .ok (.iload_n 3, 1) := by decide +kernel
theorem dX1_size_21 : decode cX1_size 21 = .ok (.bipush 16, 2) := by decide +kernel
theorem dX1_size_23 : decode cX1_size 23 = .ok (.if_icmp .ge 31, 3) := by decide +kernel
theorem dX1_size_26 : decode cX1_size 26 = .ok (.aload_n 0, 1) := by decide +kernel
theorem dX1_size_27 : decode cX1_size 27 = .ok (.getfield 20, 3) := by decide +kernel
theorem dX1_size_30 : decode cX1_size 30 = .ok (.ifCond .ne 24, 3) := by decide +kernel
theorem dX1_size_33 : decode cX1_size 33 = .ok (.iload_n 2, 1) := by decide +kernel
theorem dX1_size_34 : decode cX1_size 34 = .ok (.aload_n 0, 1) := by decide +kernel
theorem dX1_size_35 : decode cX1_size 35 = .ok (.aload_n 0, 1) := by decide +kernel
theorem dX1_size_36 : decode cX1_size 36 = .ok (.iload_n 1, 1) := by decide +kernel
theorem dX1_size_37 : decode cX1_size 37 = .ok (.iload_n 3, 1) := by decide +kernel
theorem dX1_size_38 : decode cX1_size 38 = .ok (.invokevirtual 45, 3) := by decide +kernel
theorem dX1_size_41 : decode cX1_size 41 = .ok (.invokevirtual 29, 3) := by decide +kernel
theorem dX1_size_44 : decode cX1_size 44 = .ok (.invokestatic 33, 3) := by decide +kernel
theorem dX1_size_47 : decode cX1_size 47 = .ok (.istore_n 2, 1) := by decide +kernel
theorem dX1_size_48 : decode cX1_size 48 = .ok (.iinc 3 1, 3) := by decide +kernel
theorem dX1_size_51 : decode cX1_size 51 = .ok (.goto (-31), 3) := by decide +kernel
theorem dX1_size_54 : decode cX1_size 54 = .ok (.iload_n 2, 1) := by decide +kernel
theorem dX1_size_55 : decode cX1_size 55 = .ok (.ireturn, 1) := by decide +kernel
theorem dX1_far_0 : decode cX1_far 0 = .ok (.aload_n 0, 1) := by decide +kernel
theorem dX1_far_1 : decode cX1_far 1 = .ok (.iload_n 1, 1) := by decide +kernel
theorem dX1_far_2 : decode cX1_far 2 = .ok (.invokestatic 41, 3) := by decide +kernel
theorem dX1_far_5 : decode cX1_far 5 = .ok (.ifCond .ne 10, 3) := by decide +kernel
theorem dX1_far_8 : decode cX1_far 8 = .ok (.iload_n 2, 1) := by decide +kernel
theorem dX1_far_9 : decode cX1_far 9 = .ok (.invokestatic 41, 3) := by decide +kernel
theorem dX1_far_12 : decode cX1_far 12 = .ok (.ifCond .eq 7, 3) := by decide +kernel
theorem dX1_far_15 : decode cX1_far 15 = .ok (.iconst 1, 1) := by decide +kernel
theorem dX1_far_16 : decode cX1_far 16 = .ok (.goto 4, 3) := by decide +kernel
theorem dX1_far_19 : decode cX1_far 19 = .ok (.iconst 0, 1) := by decide +kernel
theorem dX1_far_20 : decode cX1_far 20 = .ok (.putfield 20, 3) := by decide +kernel
theorem dX1_far_23 : decode cX1_far 23 = .ok (.iconst 0, 1) := by decide +kernel
theorem dX1_far_24 : decode cX1_far 24 = .ok (.istore_n 3, 1) := by decide +kernel
theorem dX1_far_25 : decode cX1_far 25 = .ok (.iconst 0, 1) := by decide +kernel
theorem dX1_far_26 : decode cX1_far 26 = .ok (.istore 4, 2) := by decide +kernel
theorem dX1_far_28 : decode cX1_far 28 = .ok (.iload 4, 2) := by decide +kernel
theorem dX1_far_30 : decode cX1_far 30 = .ok (.bipush 16, 2) := by decide +kernel
theorem dX1_far_32 : decode cX1_far 32 = .ok (.if_icmp .ge 44, 3) := by decide +kernel
theorem dX1_far_35 : decode cX1_far 35 = .ok (.aload_n 0, 1) := by decide +kernel
theorem dX1_far_36 : decode cX1_far 36 = .ok (.getfield 20, 3) := by decide +kernel
theorem dX1_far_39 : decode cX1_far 39 = .ok (.ifCond .ne 37, 3) := by decide +kernel
theorem dX1_far_42 : decode cX1_far 42 = .ok (.iload_n 3, 1) := by decide +kernel
theorem dX1_far_43 : decode cX1_far 43 = .ok (.aload_n 0, 1) := by decide +kernel
theorem dX1_far_44 : decode cX1_far 44 = .ok (.aload_n 0, 1) := by decide +kernel
theorem dX1_far_45 : decode cX1_far 45 = .ok (.aload_n 0, 1) := by decide +kernel
theorem dX1_far_46 : decode cX1_far 46 = .ok (.iload_n 1, 1) := by decide +kernel
theorem dX1_far_47 : decode cX1_far 47 = .ok (.iload 4, 2) := by decide +kernel
theorem dX1_far_49 : decode cX1_far 49 = .ok (.invokevirtual 45, 3) := by decide +kernel
theorem dX1_far_52 : decode cX1_far 52 = .ok (.i2l, 1) := by decide +kernel
theorem dX1_far_53 : decode cX1_far 53 = .ok (.aload_n 0, 1) := by decide +kernel
theorem dX1_far_54 : decode cX1_far 54 = .ok (.iload_n 2, 1) := by decide +kernel
theorem dX1_far_55 : decode cX1_far 55 = .ok (.iload 4, 2) := by decide +kernel
theorem dX1_far_57 : decode cX1_far 57 = .ok (.invokevirtual 45, 3) := by decide +kernel
theorem dX1_far_60 : decode cX1_far 60 = .ok (.i2l, 1) := by decide +kernel
theorem dX1_far_61 : decode cX1_far 61 = .ok (.lsub, 1) := by decide +kernel
theorem dX1_far_62 : decode cX1_far 62 = .ok (.invokevirtual 48, 3) := by decide +kernel
theorem dX1_far_65 : decode cX1_far 65 = .ok (.invokevirtual 29, 3) := by decide +kernel
theorem dX1_far_68 : decode cX1_far 68 = .ok (.iadd, 1) := by decide +kernel
theorem dX1_far_69 : decode cX1_far 69 = .ok (.istore_n 3, 1) := by decide +kernel
theorem dX1_far_70 : decode cX1_far 70 = .ok (.iinc 4 1, 3) := by decide +kernel
theorem dX1_far_73 : decode cX1_far 73 = .ok (.goto (-45), 3) := by decide +kernel
theorem dX1_far_76 : decode cX1_far 76 = .ok (.iload_n 3, 1) := by decide +kernel
theorem dX1_far_77 : decode cX1_far 77 = .ok (.ireturn, 1) := by decide +kernel
theorem dX1_bit_0 : decode cX1_bit 0 = .ok (.iload 4, 2) := by decide +kernel
theorem dX1_bit_2 : decode cX1_bit 2 = .ok (.bipush 64, 2) := by decide +kernel
theorem dX1_bit_4 : decode cX1_bit 4 = .ok (.if_icmp .ge 10, 3) := by decide +kernel
theorem dX1_bit_7 : decode cX1_bit 7 = .ok (.lload_n 0, 1) := by decide +kernel
theorem dX1_bit_8 : decode cX1_bit 8 = .ok (.iload 4, 2) := by decide +kernel
theorem dX1_bit_10 : decode cX1_bit 10 = .ok (.lushr, 1) := by decide +kernel
theorem dX1_bit_11 : decode cX1_bit 11 = .ok (.goto 10, 3) := by decide +kernel
theorem dX1_bit_14 : decode cX1_bit 14 = .ok (.lload_n 2, 1) := by decide +kernel
theorem dX1_bit_15 : decode cX1_bit 15 = .ok (.iload 4, 2) := by decide +kernel
theorem dX1_bit_17 : decode cX1_bit 17 = .ok (.bipush 64, 2) := by decide +kernel
theorem dX1_bit_19 : decode cX1_bit 19 = .ok (.isub, 1) := by decide +kernel
theorem dX1_bit_20 : decode cX1_bit 20 = .ok (.lushr, 1) := by decide +kernel
theorem dX1_bit_21 : decode cX1_bit 21 = .ok (.lconst 1, 1) := by decide +kernel
theorem dX1_bit_22 : decode cX1_bit 22 = .ok (.land, 1) := by decide +kernel
theorem dX1_bit_23 : decode cX1_bit 23 = .ok (.l2i, 1) := by decide +kernel
theorem dX1_bit_24 : decode cX1_bit 24 = .ok (.ireturn, 1) := by decide +kernel
end
section
theorem dX1_noise_0 : decode cX1_noise 0 = .ok (.aload_n 0, 1) := by decide +kernel
theorem dX1_noise_1 : decode cX1_noise 1 = .ok (.iload_n 1, 1) := by decide +kernel
theorem dX1_noise_2 : decode cX1_noise 2 = .ok (.invokestatic 41, 3) := by decide +kernel
theorem dX1_noise_5 : decode cX1_noise 5 = .ok (.ifCond .eq 7, 3) := by decide +kernel
theorem dX1_noise_8 : decode cX1_noise 8 = .ok (.iconst 1, 1) := by decide +kernel
theorem dX1_noise_9 : decode cX1_noise 9 = .ok (.goto 18, 3) := by decide +kernel
theorem dX1_noise_12 : decode cX1_noise 12 = .ok (.iload_n 2, 1) := by decide +kernel
theorem dX1_noise_13 : decode cX1_noise 13 = .ok (.iconst 1, 1) := by decide +kernel
theorem dX1_noise_14 : decode cX1_noise 14 = .ok (.if_icmp .lt 8, 3) := by decide +kernel
theorem dX1_noise_17 : decode cX1_noise 17 = .ok (.iload_n 2, 1) := by decide +kernel
theorem dX1_noise_18 : decode cX1_noise 18 = .ok (.iconst 3, 1) := by decide +kernel
theorem dX1_noise_19 : decode cX1_noise 19 = .ok (.if_icmp .le 7, 3) := by decide +kernel
theorem dX1_noise_22 : decode cX1_noise 22 = .ok (.iconst 2, 1) := by decide +kernel
theorem dX1_noise_23 : decode cX1_noise 23 = .ok (.goto 4, 3) := by decide +kernel
theorem dX1_noise_26 : decode cX1_noise 26 = .ok (.iconst 0, 1) := by decide +kernel
theorem dX1_noise_27 : decode cX1_noise 27 = .ok (.putfield 20, 3) := by decide +kernel
theorem dX1_noise_30 : decode cX1_noise 30 = .ok (.aload_n 0, 1) := by decide +kernel
theorem dX1_noise_31 : decode cX1_noise 31 = .ok (.getfield 20, 3) := by decide +kernel
theorem dX1_noise_34 : decode cX1_noise 34 = .ok (.ifCond .le 5, 3) := by decide +kernel
theorem dX1_noise_37 : decode cX1_noise 37 = .ok (.iconst 0, 1) := by decide +kernel
theorem dX1_noise_38 : decode cX1_noise 38 = .ok (.ireturn, 1) := by decide +kernel
theorem dX1_noise_39 : decode cX1_noise 39 = .ok (.iconst 0, 1) := by decide +kernel
theorem dX1_noise_40 : decode cX1_noise 40 = .ok (.istore 7, 2) := by decide +kernel
theorem dX1_noise_42 : decode cX1_noise 42 = .ok (.iload 7, 2) := by decide +kernel
theorem dX1_noise_44 : decode cX1_noise 44 = .ok (.bipush 16, 2) := by decide +kernel
theorem dX1_noise_46 : decode cX1_noise 46 = .ok (.if_icmp .ge 79, 3) := by decide +kernel
theorem dX1_noise_49 : decode cX1_noise 49 = .ok (.iconst 0, 1) := by decide +kernel
theorem dX1_noise_50 : decode cX1_noise 50 = .ok (.istore 8, 2) := by decide +kernel
theorem dX1_noise_52 : decode cX1_noise 52 = .ok (.iconst 0, 1) := by decide +kernel
theorem dX1_noise_53 : decode cX1_noise 53 = .ok (.istore 9, 2) := by decide +kernel
theorem dX1_noise_55 : decode cX1_noise 55 = .ok (.iload 9, 2) := by decide +kernel
theorem dX1_noise_57 : decode cX1_noise 57 = .ok (.iload_n 2, 1) := by decide +kernel
theorem dX1_noise_58 : decode cX1_noise 58 = .ok (.if_icmp .ge 47, 3) := by decide +kernel
theorem dX1_noise_61 : decode cX1_noise 61 = .ok (.iload 8, 2) := by decide +kernel
theorem dX1_noise_63 : decode cX1_noise 63 = .ok (.lload_n 3, 1) := by decide +kernel
theorem dX1_noise_64 : decode cX1_noise 64 = .ok (.lload 5, 2) := by decide +kernel
theorem dX1_noise_66 : decode cX1_noise 66 = .ok (.iconst 2, 1) := by decide +kernel
theorem dX1_noise_67 : decode cX1_noise 67 = .ok (.iload_n 2, 1) := by decide +kernel
theorem dX1_noise_68 : decode cX1_noise 68 = .ok (.imul, 1) := by decide +kernel
theorem dX1_noise_69 : decode cX1_noise 69 = .ok (.iload 7, 2) := by decide +kernel
theorem dX1_noise_71 : decode cX1_noise 71 = .ok (.imul, 1) := by decide +kernel
theorem dX1_noise_72 : decode cX1_noise 72 = .ok (.iload 9, 2) := by decide +kernel
theorem dX1_noise_74 : decode cX1_noise 74 = .ok (.iadd, 1) := by decide +kernel
theorem dX1_noise_75 : decode cX1_noise 75 = .ok (.invokestatic 75, 3) := by decide +kernel
theorem dX1_noise_78 : decode cX1_noise 78 = .ok (.lload_n 3, 1) := by decide +kernel
theorem dX1_noise_79 : decode cX1_noise 79 = .ok (.lload 5, 2) := by decide +kernel
theorem dX1_noise_81 : decode cX1_noise 81 = .ok (.iconst 2, 1) := by decide +kernel
theorem dX1_noise_82 : decode cX1_noise 82 = .ok (.iload_n 2, 1) := by decide +kernel
theorem dX1_noise_83 : decode cX1_noise 83 = .ok (.imul, 1) := by decide +kernel
theorem dX1_noise_84 : decode cX1_noise 84 = .ok (.iload 7, 2) := by decide +kernel
theorem dX1_noise_86 : decode cX1_noise 86 = .ok (.imul, 1) := by decide +kernel
theorem dX1_noise_87 : decode cX1_noise 87 = .ok (.iload_n 2, 1) := by decide +kernel
theorem dX1_noise_88 : decode cX1_noise 88 = .ok (.iadd, 1) := by decide +kernel
theorem dX1_noise_89 : decode cX1_noise 89 = .ok (.iload 9, 2) := by decide +kernel
theorem dX1_noise_91 : decode cX1_noise 91 = .ok (.iadd, 1) := by decide +kernel
theorem dX1_noise_92 : decode cX1_noise 92 = .ok (.invokestatic 75, 3) := by decide +kernel
theorem dX1_noise_95 : decode cX1_noise 95 = .ok (.isub, 1) := by decide +kernel
theorem dX1_noise_96 : decode cX1_noise 96 = .ok (.iadd, 1) := by decide +kernel
theorem dX1_noise_97 : decode cX1_noise 97 = .ok (.istore 8, 2) := by decide +kernel
theorem dX1_noise_99 : decode cX1_noise 99 = .ok (.iinc 9 1, 3) := by decide +kernel
theorem dX1_noise_102 : decode cX1_noise 102 = .ok (.goto (-47), 3) := by decide +kernel
theorem dX1_noise_105 : decode cX1_noise 105 = .ok (.aload_n 0, 1) := by decide +kernel
theorem dX1_noise_106 : decode cX1_noise 106 = .ok (.getfield 17, 3) := by decide +kernel
theorem dX1_noise_109 : decode cX1_noise 109 = .ok (.iload 7, 2) := by decide +kernel
theorem dX1_noise_111 : decode cX1_noise 111 = .ok (.aload_n 0, 1) := by decide +kernel
theorem dX1_noise_112 : decode cX1_noise 112 = .ok (.iload 8, 2) := by decide +kernel
theorem dX1_noise_114 : decode cX1_noise 114 = .ok (.i2l, 1) := by decide +kernel
theorem dX1_noise_115 : decode cX1_noise 115 = .ok (.invokevirtual 48, 3) := by decide +kernel
theorem dX1_noise_118 : decode cX1_noise 118 = .ok (.iastore, 1) := by decide +kernel
theorem dX1_noise_119 : decode cX1_noise 119 = .ok (.iinc 7 1, 3) := by decide +kernel
theorem dX1_noise_122 : decode cX1_noise 122 = .ok (.goto (-80), 3) := by decide +kernel
theorem dX1_noise_125 : decode cX1_noise 125 = .ok (.aload_n 0, 1) := by decide +kernel
theorem dX1_noise_126 : decode cX1_noise 126 = .ok (.iload_n 1, 1) := by decide +kernel
theorem dX1_noise_127 : decode cX1_noise 127 = .ok (.invokevirtual 52, 3) := by decide +kernel
theorem dX1_noise_130 : decode cX1_noise 130 = .ok (.ireturn, 1) := by decide +kernel
theorem dX1_power_0 : decode cX1_power 0 = .ok (.lconst 1, 1) := by decide +kernel
theorem dX1_power_1 : decode cX1_power 1 = .ok (.lstore_n 3, 1) := by decide +kernel
theorem dX1_power_2 : decode cX1_power 2 = .ok (.iconst 0, 1) := by decide +kernel
theorem dX1_power_3 : decode cX1_power 3 = .ok (.istore 5, 2) := by decide +kernel
theorem dX1_power_5 : decode cX1_power 5 = .ok (.iload 5, 2) := by decide +kernel
theorem dX1_power_7 : decode cX1_power 7 = .ok (.iload_n 2, 1) := by decide +kernel
theorem dX1_power_8 : decode cX1_power 8 = .ok (.if_icmp .ge 20, 3) := by decide +kernel
theorem dX1_power_11 : decode cX1_power 11 = .ok (.lload_n 3, 1) := by decide +kernel
theorem dX1_power_12 : decode cX1_power 12 = .ok (.iload_n 1, 1) := by decide +kernel
theorem dX1_power_13 : decode cX1_power 13 = .ok (.i2l, 1) := by decide +kernel
theorem dX1_power_14 : decode cX1_power 14 = .ok (.lmul, 1) := by decide +kernel
theorem dX1_power_15 : decode cX1_power 15 = .ok (.aload_n 0, 1) := by decide +kernel
theorem dX1_power_16 : decode cX1_power 16 = .ok (.getfield 7, 3) := by decide +kernel
theorem dX1_power_19 : decode cX1_power 19 = .ok (.i2l, 1) := by decide +kernel
theorem dX1_power_20 : decode cX1_power 20 = .ok (.lrem, 1) := by decide +kernel
theorem dX1_power_21 : decode cX1_power 21 = .ok (.lstore_n 3, 1) := by decide +kernel
theorem dX1_power_22 : decode cX1_power 22 = .ok (.iinc 5 1, 3) := by decide +kernel
theorem dX1_power_25 : decode cX1_power 25 = .ok (.goto (-20), 3) := by decide +kernel
theorem dX1_power_28 : decode cX1_power 28 = .ok (.lload_n 3, 1) := by decide +kernel
theorem dX1_power_29 : decode cX1_power 29 = .ok (.l2i, 1) := by decide +kernel
theorem dX1_power_30 : decode cX1_power 30 = .ok (.ireturn, 1) := by decide +kernel
theorem dX1_root_0 : decode cX1_root 0 = .ok (.aload_n 0, 1) := by decide +kernel
theorem dX1_root_1 : decode cX1_root 1 = .ok (.aload_n 0, 1) := by decide +kernel
theorem dX1_root_2 : decode cX1_root 2 = .ok (.getfield 37, 3) := by decide +kernel
theorem dX1_root_5 : decode cX1_root 5 = .ok (.ifCond .ne 8, 3) := by decide +kernel
theorem dX1_root_8 : decode cX1_root 8 = .ok (.bipush 17, 2) := by decide +kernel
theorem dX1_root_10 : decode cX1_root 10 = .ok (.goto 6, 3) := by decide +kernel
theorem dX1_root_13 : decode cX1_root 13 = .ok (.sipush 1753, 3) := by decide +kernel
theorem dX1_root_16 : decode cX1_root 16 = .ok (.bipush 16, 2) := by decide +kernel
theorem dX1_root_18 : decode cX1_root 18 = .ok (.invokevirtual 79, 3) := by decide +kernel
theorem dX1_root_21 : decode cX1_root 21 = .ok (.ireturn, 1) := by decide +kernel
theorem dX1_along_0 : decode cX1_along 0 = .ok (.lconst 0, 1) := by decide +kernel
theorem dX1_along_1 : decode cX1_along 1 = .ok (.lstore 6, 2) := by decide +kernel
theorem dX1_along_3 : decode cX1_along 3 = .ok (.bipush 16, 2) := by decide +kernel
theorem dX1_along_5 : decode cX1_along 5 = .ok (.iload_n 3, 1) := by decide +kernel
theorem dX1_along_6 : decode cX1_along 6 = .ok (.isub, 1) := by decide +kernel
theorem dX1_along_7 : decode cX1_along 7 = .ok (.iload_n 2, 1) := by decide +kernel
theorem dX1_along_8 : decode cX1_along 8 = .ok (.iadd, 1) := by decide +kernel
theorem dX1_along_9 : decode cX1_along 9 = .ok (.istore 8, 2) := by decide +kernel
theorem dX1_along_11 : decode cX1_along 11 = .ok (.iload 8, 2) := by decide +kernel
theorem dX1_along_13 : decode cX1_along 13 = .ok (.ifCond .lt 34, 3) := by decide +kernel
theorem dX1_along_16 : decode cX1_along 16 = .ok (.lload 6, 2) := by decide +kernel
theorem dX1_along_18 : decode cX1_along 18 = .ok (.lload 4, 2) := by decide +kernel
theorem dX1_along_20 : decode cX1_along 20 = .ok (.lmul, 1) := by decide +kernel
theorem dX1_along_21 : decode cX1_along 21 = .ok (.aload_n 0, 1) := by decide +kernel
theorem dX1_along_22 : decode cX1_along 22 = .ok (.iload_n 1, 1) := by decide +kernel
theorem dX1_along_23 : decode cX1_along 23 = .ok (.iload 8, 2) := by decide +kernel
theorem dX1_along_25 : decode cX1_along 25 = .ok (.invokevirtual 45, 3) := by decide +kernel
theorem dX1_along_28 : decode cX1_along 28 = .ok (.i2l, 1) := by decide +kernel
theorem dX1_along_29 : decode cX1_along 29 = .ok (.ladd, 1) := by decide +kernel
theorem dX1_along_30 : decode cX1_along 30 = .ok (.aload_n 0, 1) := by decide +kernel
theorem dX1_along_31 : decode cX1_along 31 = .ok (.getfield 7, 3) := by decide +kernel
theorem dX1_along_34 : decode cX1_along 34 = .ok (.i2l, 1) := by decide +kernel
theorem dX1_along_35 : decode cX1_along 35 = .ok (.lrem, 1) := by decide +kernel
theorem dX1_along_36 : decode cX1_along 36 = .ok (.lstore 6, 2) := by decide +kernel
theorem dX1_along_38 : decode cX1_along 38 = .ok (.iload 8, 2) := by decide +kernel
theorem dX1_along_40 : decode cX1_along 40 = .ok (.iload_n 3, 1) := by decide +kernel
theorem dX1_along_41 : decode cX1_along 41 = .ok (.isub, 1) := by decide +kernel
theorem dX1_along_42 : decode cX1_along 42 = .ok (.istore 8, 2) := by decide +kernel
theorem dX1_along_44 : decode cX1_along 44 = .ok (.goto (-33), 3) := by decide +kernel
theorem dX1_along_47 : decode cX1_along 47 = .ok (.lload 6, 2) := by decide +kernel
theorem dX1_along_49 : decode cX1_along 49 = .ok (.l2i, 1) := by decide +kernel
theorem dX1_along_50 : decode cX1_along 50 = .ok (.ireturn, 1) := by decide +kernel
theorem dX1_valueOf_0 : decode cX1_valueOf 0 = .ok (.aload_n 0, 1) := by decide +kernel
theorem dX1_valueOf_1 : decode cX1_valueOf 1 = .ok (.invokevirtual 82, 3) := by decide +kernel
theorem dX1_valueOf_4 : decode cX1_valueOf 4 = .ok (.istore_n 3, 1) := by decide +kernel
theorem dX1_valueOf_5 : decode cX1_valueOf 5 = .ok (.aload_n 0, 1) := by decide +kernel
theorem dX1_valueOf_6 : decode cX1_valueOf 6 = .ok (.getfield 37, 3) := by decide +kernel
theorem dX1_valueOf_9 : decode cX1_valueOf 9 = .ok (.iconst 1, 1) := by decide +kernel
theorem dX1_valueOf_10 : decode cX1_valueOf 10 = .ok (.if_icmp .ne 24, 3) := by decide +kernel
theorem dX1_valueOf_13 : decode cX1_valueOf 13 = .ok (.aload_n 0, 1) := by decide +kernel
theorem dX1_valueOf_14 : decode cX1_valueOf 14 = .ok (.iload_n 1, 1) := by decide +kernel
theorem dX1_valueOf_15 : decode cX1_valueOf 15 = .ok (.iconst 0, 1) := by decide +kernel
theorem dX1_valueOf_16 : decode cX1_valueOf 16 = .ok (.iconst 1, 1) := by decide +kernel
theorem dX1_valueOf_17 : decode cX1_valueOf 17 = .ok (.aload_n 0, 1) := by decide +kernel
theorem dX1_valueOf_18 : decode cX1_valueOf 18 = .ok (.iload_n 3, 1) := by decide +kernel
theorem dX1_valueOf_19 : decode cX1_valueOf 19 = .ok (.iconst 2, 1) := by decide +kernel
theorem dX1_valueOf_20 : decode cX1_valueOf 20 = .ok (.iload_n 2, 1) := by decide +kernel
theorem dX1_valueOf_21 : decode cX1_valueOf 21 = .ok (.imul, 1) := by decide +kernel
theorem dX1_valueOf_22 : decode cX1_valueOf 22 = .ok (.iconst 1, 1) := by decide +kernel
theorem dX1_valueOf_23 : decode cX1_valueOf 23 = .ok (.iadd, 1) := by decide +kernel
theorem dX1_valueOf_24 : decode cX1_valueOf 24 = .ok (.invokevirtual 79, 3) := by decide +kernel
theorem dX1_valueOf_27 : decode cX1_valueOf 27 = .ok (.i2l, 1) := by decide +kernel
theorem dX1_valueOf_28 : decode cX1_valueOf 28 = .ok (.invokevirtual 86, 3) := by decide +kernel
theorem dX1_valueOf_31 : decode cX1_valueOf 31 = .ok (.goto 25, 3) := by decide +kernel
theorem dX1_valueOf_34 : decode cX1_valueOf 34 = .ok (.aload_n 0, 1) := by decide +kernel
theorem dX1_valueOf_35 : decode cX1_valueOf 35 = .ok (.iload_n 1, 1) := by decide +kernel
theorem dX1_valueOf_36 : decode cX1_valueOf 36 = .ok (.iload_n 2, 1) := by decide +kernel
theorem dX1_valueOf_37 : decode cX1_valueOf 37 = .ok (.iconst 2, 1) := by decide +kernel
theorem dX1_valueOf_38 : decode cX1_valueOf 38 = .ok (.irem, 1) := by decide +kernel
theorem dX1_valueOf_39 : decode cX1_valueOf 39 = .ok (.iconst 2, 1) := by decide +kernel
theorem dX1_valueOf_40 : decode cX1_valueOf 40 = .ok (.aload_n 0, 1) := by decide +kernel
theorem dX1_valueOf_41 : decode cX1_valueOf 41 = .ok (.iload_n 3, 1) := by decide +kernel
theorem dX1_valueOf_42 : decode cX1_valueOf 42 = .ok (.iconst 2, 1) := by decide +kernel
theorem dX1_valueOf_43 : decode cX1_valueOf 43 = .ok (.iload_n 2, 1) := by decide +kernel
theorem dX1_valueOf_44 : decode cX1_valueOf 44 = .ok (.iconst 2, 1) := by decide +kernel
theorem dX1_valueOf_45 : decode cX1_valueOf 45 = .ok (.idiv, 1) := by decide +kernel
theorem dX1_valueOf_46 : decode cX1_valueOf 46 = .ok (.imul, 1) := by decide +kernel
theorem dX1_valueOf_47 : decode cX1_valueOf 47 = .ok (.iconst 1, 1) := by decide +kernel
theorem dX1_valueOf_48 : decode cX1_valueOf 48 = .ok (.iadd, 1) := by decide +kernel
theorem dX1_valueOf_49 : decode cX1_valueOf 49 = .ok (.invokevirtual 79, 3) := by decide +kernel
theorem dX1_valueOf_52 : decode cX1_valueOf 52 = .ok (.i2l, 1) := by decide +kernel
theorem dX1_valueOf_53 : decode cX1_valueOf 53 = .ok (.invokevirtual 86, 3) := by decide +kernel
theorem dX1_valueOf_56 : decode cX1_valueOf 56 = .ok (.ireturn, 1) := by decide +kernel
theorem dX1_value_0 : decode cX1_value 0 = .ok (.aload_n 0, 1) := by decide +kernel
theorem dX1_value_1 : decode cX1_value 1 = .ok (.iload_n 1, 1) := by decide +kernel
theorem dX1_value_2 : decode cX1_value 2 = .ok (.invokestatic 41, 3) := by decide +kernel
theorem dX1_value_5 : decode cX1_value 5 = .ok (.ifCond .ne 13, 3) := by decide +kernel
theorem dX1_value_8 : decode cX1_value 8 = .ok (.iload_n 2, 1) := by decide +kernel
theorem dX1_value_9 : decode cX1_value 9 = .ok (.ifCond .lt 9, 3) := by decide +kernel
theorem dX1_value_12 : decode cX1_value 12 = .ok (.iload_n 2, 1) := by decide +kernel
theorem dX1_value_13 : decode cX1_value 13 = .ok (.bipush 16, 2) := by decide +kernel
theorem dX1_value_15 : decode cX1_value 15 = .ok (.if_icmp .lt 7, 3) := by decide +kernel
theorem dX1_value_18 : decode cX1_value 18 = .ok (.iconst 1, 1) := by decide +kernel
theorem dX1_value_19 : decode cX1_value 19 = .ok (.goto 4, 3) := by decide +kernel
theorem dX1_value_22 : decode cX1_value 22 = .ok (.iconst 0, 1) := by decide +kernel
theorem dX1_value_23 : decode cX1_value 23 = .ok (.putfield 20, 3) := by decide +kernel
theorem dX1_value_26 : decode cX1_value 26 = .ok (.aload_n 0, 1) := by decide +kernel
theorem dX1_value_27 : decode cX1_value 27 = .ok (.getfield 20, 3) := by decide +kernel
theorem dX1_value_30 : decode cX1_value 30 = .ok (.ifCond .le 7, 3) := by decide +kernel
theorem dX1_value_33 : decode cX1_value 33 = .ok (.iconst 0, 1) := by decide +kernel
theorem dX1_value_34 : decode cX1_value 34 = .ok (.goto 9, 3) := by decide +kernel
theorem dX1_value_37 : decode cX1_value 37 = .ok (.aload_n 0, 1) := by decide +kernel
theorem dX1_value_38 : decode cX1_value 38 = .ok (.iload_n 1, 1) := by decide +kernel
theorem dX1_value_39 : decode cX1_value 39 = .ok (.iload_n 2, 1) := by decide +kernel
theorem dX1_value_40 : decode cX1_value 40 = .ok (.invokevirtual 90, 3) := by decide +kernel
theorem dX1_value_43 : decode cX1_value 43 = .ok (.ireturn, 1) := by decide +kernel
theorem dX1_unit_0 : decode cX1_unit 0 = .ok (.aload_n 0, 1) := by decide +kernel
theorem dX1_unit_1 : decode cX1_unit 1 = .ok (.iload_n 1, 1) := by decide +kernel
theorem dX1_unit_2 : decode cX1_unit 2 = .ok (.invokestatic 41, 3) := by decide +kernel
theorem dX1_unit_5 : decode cX1_unit 5 = .ok (.ifCond .eq 7, 3) := by decide +kernel
theorem dX1_unit_8 : decode cX1_unit 8 = .ok (.iconst 1, 1) := by decide +kernel
theorem dX1_unit_9 : decode cX1_unit 9 = .ok (.goto 4, 3) := by decide +kernel
theorem dX1_unit_12 : decode cX1_unit 12 = .ok (.iconst 0, 1) := by decide +kernel
theorem dX1_unit_13 : decode cX1_unit 13 = .ok (.putfield 20, 3) := by decide +kernel
theorem dX1_unit_16 : decode cX1_unit 16 = .ok (.aload_n 0, 1) := by decide +kernel
theorem dX1_unit_17 : decode cX1_unit 17 = .ok (.getfield 20, 3) := by decide +kernel
theorem dX1_unit_20 : decode cX1_unit 20 = .ok (.ifCond .le 5, 3) := by decide +kernel
theorem dX1_unit_23 : decode cX1_unit 23 = .ok (.iconst 0, 1) := by decide +kernel
theorem dX1_unit_24 : decode cX1_unit 24 = .ok (.ireturn, 1) := by decide +kernel
theorem dX1_unit_25 : decode cX1_unit 25 = .ok (.iconst 0, 1) := by decide +kernel
theorem dX1_unit_26 : decode cX1_unit 26 = .ok (.istore_n 2, 1) := by decide +kernel
theorem dX1_unit_27 : decode cX1_unit 27 = .ok (.iload_n 2, 1) := by decide +kernel
theorem dX1_unit_28 : decode cX1_unit 28 = .ok (.bipush 16, 2) := by decide +kernel
theorem dX1_unit_30 : decode cX1_unit 30 = .ok (.if_icmp .ge 94, 3) := by decide +kernel
theorem dX1_unit_33 : decode cX1_unit 33 = .ok (.aload_n 0, 1) := by decide +kernel
theorem dX1_unit_34 : decode cX1_unit 34 = .ok (.getfield 37, 3) := by decide +kernel
theorem dX1_unit_37 : decode cX1_unit 37 = .ok (.iconst 1, 1) := by decide +kernel
theorem dX1_unit_38 : decode cX1_unit 38 = .ok (.if_icmp .ne 14, 3) := by decide +kernel
theorem dX1_unit_41 : decode cX1_unit 41 = .ok (.aload_n 0, 1) := by decide +kernel
theorem dX1_unit_42 : decode cX1_unit 42 = .ok (.iload_n 1, 1) := by decide +kernel
theorem dX1_unit_43 : decode cX1_unit 43 = .ok (.iload_n 2, 1) := by decide +kernel
theorem dX1_unit_44 : decode cX1_unit 44 = .ok (.invokevirtual 90, 3) := by decide +kernel
theorem dX1_unit_47 : decode cX1_unit 47 = .ok (.ifCond .ne 71, 3) := by decide +kernel
theorem dX1_unit_50 : decode cX1_unit 50 = .ok (.iconst 0, 1) := by decide +kernel
theorem dX1_unit_51 : decode cX1_unit 51 = .ok (.ireturn, 1) := by decide +kernel
theorem dX1_unit_52 : decode cX1_unit 52 = .ok (.iload_n 2, 1) := by decide +kernel
theorem dX1_unit_53 : decode cX1_unit 53 = .ok (.iconst 2, 1) := by decide +kernel
theorem dX1_unit_54 : decode cX1_unit 54 = .ok (.irem, 1) := by decide +kernel
theorem dX1_unit_55 : decode cX1_unit 55 = .ok (.ifCond .ne 63, 3) := by decide +kernel
theorem dX1_unit_58 : decode cX1_unit 58 = .ok (.aload_n 0, 1) := by decide +kernel
theorem dX1_unit_59 : decode cX1_unit 59 = .ok (.iload_n 1, 1) := by decide +kernel
theorem dX1_unit_60 : decode cX1_unit 60 = .ok (.iload_n 2, 1) := by decide +kernel
theorem dX1_unit_61 : decode cX1_unit 61 = .ok (.invokevirtual 90, 3) := by decide +kernel
theorem dX1_unit_64 : decode cX1_unit 64 = .ok (.i2l, 1) := by decide +kernel
theorem dX1_unit_65 : decode cX1_unit 65 = .ok (.lstore_n 3, 1) := by decide +kernel
theorem dX1_unit_66 : decode cX1_unit 66 = .ok (.aload_n 0, 1) := by decide +kernel
theorem dX1_unit_67 : decode cX1_unit 67 = .ok (.iload_n 1, 1) := by decide +kernel
theorem dX1_unit_68 : decode cX1_unit 68 = .ok (.iload_n 2, 1) := by decide +kernel
theorem dX1_unit_69 : decode cX1_unit 69 = .ok (.iconst 1, 1) := by decide +kernel
theorem dX1_unit_70 : decode cX1_unit 70 = .ok (.iadd, 1) := by decide +kernel
theorem dX1_unit_71 : decode cX1_unit 71 = .ok (.invokevirtual 90, 3) := by decide +kernel
theorem dX1_unit_74 : decode cX1_unit 74 = .ok (.i2l, 1) := by decide +kernel
theorem dX1_unit_75 : decode cX1_unit 75 = .ok (.lstore 5, 2) := by decide +kernel
theorem dX1_unit_77 : decode cX1_unit 77 = .ok (.lload_n 3, 1) := by decide +kernel
theorem dX1_unit_78 : decode cX1_unit 78 = .ok (.lload_n 3, 1) := by decide +kernel
theorem dX1_unit_79 : decode cX1_unit 79 = .ok (.lmul, 1) := by decide +kernel
theorem dX1_unit_80 : decode cX1_unit 80 = .ok (.lload 5, 2) := by decide +kernel
theorem dX1_unit_82 : decode cX1_unit 82 = .ok (.lload 5, 2) := by decide +kernel
theorem dX1_unit_84 : decode cX1_unit 84 = .ok (.lmul, 1) := by decide +kernel
theorem dX1_unit_85 : decode cX1_unit 85 = .ok (.aload_n 0, 1) := by decide +kernel
theorem dX1_unit_86 : decode cX1_unit 86 = .ok (.getfield 7, 3) := by decide +kernel
theorem dX1_unit_89 : decode cX1_unit 89 = .ok (.i2l, 1) := by decide +kernel
theorem dX1_unit_90 : decode cX1_unit 90 = .ok (.lrem, 1) := by decide +kernel
theorem dX1_unit_91 : decode cX1_unit 91 = .ok (.aload_n 0, 1) := by decide +kernel
theorem dX1_unit_92 : decode cX1_unit 92 = .ok (.aload_n 0, 1) := by decide +kernel
theorem dX1_unit_93 : decode cX1_unit 93 = .ok (.invokevirtual 82, 3) := by decide +kernel
theorem dX1_unit_96 : decode cX1_unit 96 = .ok (.iload_n 2, 1) := by decide +kernel
theorem dX1_unit_97 : decode cX1_unit 97 = .ok (.iconst 1, 1) := by decide +kernel
theorem dX1_unit_98 : decode cX1_unit 98 = .ok (.iadd, 1) := by decide +kernel
theorem dX1_unit_99 : decode cX1_unit 99 = .ok (.invokevirtual 79, 3) := by decide +kernel
theorem dX1_unit_102 : decode cX1_unit 102 = .ok (.i2l, 1) := by decide +kernel
theorem dX1_unit_103 : decode cX1_unit 103 = .ok (.lmul, 1) := by decide +kernel
theorem dX1_unit_104 : decode cX1_unit 104 = .ok (.lsub, 1) := by decide +kernel
theorem dX1_unit_105 : decode cX1_unit 105 = .ok (.aload_n 0, 1) := by decide +kernel
theorem dX1_unit_106 : decode cX1_unit 106 = .ok (.getfield 7, 3) := by decide +kernel
theorem dX1_unit_109 : decode cX1_unit 109 = .ok (.i2l, 1) := by decide +kernel
theorem dX1_unit_110 : decode cX1_unit 110 = .ok (.lrem, 1) := by decide +kernel
theorem dX1_unit_111 : decode cX1_unit 111 = .ok (.lconst 0, 1) := by decide +kernel
theorem dX1_unit_112 : decode cX1_unit 112 = .ok (.lcmp, 1) := by decide +kernel
theorem dX1_unit_113 : decode cX1_unit 113 = .ok (.ifCond .ne 5, 3) := by decide +kernel
theorem dX1_unit_116 : decode cX1_unit 116 = .ok (.iconst 0, 1) := by decide +kernel
theorem dX1_unit_117 : decode cX1_unit 117 = .ok (.ireturn, 1) := by decide +kernel
theorem dX1_unit_118 : decode cX1_unit 118 = .ok (.iinc 2 1, 3) := by decide +kernel
theorem dX1_unit_121 : decode cX1_unit 121 = .ok (.goto (-94), 3) := by decide +kernel
theorem dX1_unit_124 : decode cX1_unit 124 = .ok (.iconst 1, 1) := by decide +kernel
theorem dX1_unit_125 : decode cX1_unit 125 = .ok (.ireturn, 1) := by decide +kernel
theorem dX1_count_0 : decode cX1_count 0 = .ok (.aload_n 0, 1) := by decide +kernel
theorem dX1_count_1 : decode cX1_count 1 = .ok (.iconst 0, 1) := by decide +kernel
theorem dX1_count_2 : decode cX1_count 2 = .ok (.putfield 20, 3) := by decide +kernel
theorem dX1_count_5 : decode cX1_count 5 = .ok (.iload_n 1, 1) := by decide +kernel
theorem dX1_count_6 : decode cX1_count 6 = .ok (.tableswitch 110 0 3 #[30, 35, 40, 45], 30) := by decide +kernel
theorem dX1_count_36 : decode cX1_count 36 = .ok (.aload_n 0, 1) := by decide +kernel
theorem dX1_count_37 : decode cX1_count 37 = .ok (.getfield 37, 3) := by decide +kernel
theorem dX1_count_40 : decode cX1_count 40 = .ok (.ireturn, 1) := by decide +kernel
theorem dX1_count_41 : decode cX1_count 41 = .ok (.aload_n 0, 1) := by decide +kernel
theorem dX1_count_42 : decode cX1_count 42 = .ok (.getfield 7, 3) := by decide +kernel
theorem dX1_count_45 : decode cX1_count 45 = .ok (.ireturn, 1) := by decide +kernel
theorem dX1_count_46 : decode cX1_count 46 = .ok (.aload_n 0, 1) := by decide +kernel
theorem dX1_count_47 : decode cX1_count 47 = .ok (.invokevirtual 82, 3) := by decide +kernel
theorem dX1_count_50 : decode cX1_count 50 = .ok (.ireturn, 1) := by decide +kernel
theorem dX1_count_51 : decode cX1_count 51 = .ok (.iconst 0, 1) := by decide +kernel
theorem dX1_count_52 : decode cX1_count 52 = .ok (.istore_n 2, 1) := by decide +kernel
theorem dX1_count_53 : decode cX1_count 53 = .ok (.iconst 0, 1) := by decide +kernel
theorem dX1_count_54 : decode cX1_count 54 = .ok (.istore_n 3, 1) := by decide +kernel
theorem dX1_count_55 : decode cX1_count 55 = .ok (.iload_n 3, 1) := by decide +kernel
theorem dX1_count_56 : decode cX1_count 56 = .ok (.bipush 12, 2) := by decide +kernel
theorem dX1_count_58 : decode cX1_count 58 = .ok (.if_icmp .ge 56, 3) := by decide +kernel
theorem dX1_count_61 : decode cX1_count 61 = .ok (.iconst 1, 1) := by decide +kernel
theorem dX1_count_62 : decode cX1_count 62 = .ok (.istore 4, 2) := by decide +kernel
theorem dX1_count_64 : decode cX1_count 64 = .ok (.iconst 0, 1) := by decide +kernel
theorem dX1_count_65 : decode cX1_count 65 = .ok (.istore 5, 2) := by decide +kernel
theorem dX1_count_67 : decode cX1_count 67 = .ok (.iload 5, 2) := by decide +kernel
theorem dX1_count_69 : decode cX1_count 69 = .ok (.bipush 16, 2) := by decide +kernel
theorem dX1_count_71 : decode cX1_count 71 = .ok (.if_icmp .ge 29, 3) := by decide +kernel
theorem dX1_count_74 : decode cX1_count 74 = .ok (.iload 4, 2) := by decide +kernel
theorem dX1_count_76 : decode cX1_count 76 = .ok (.aload_n 0, 1) := by decide +kernel
theorem dX1_count_77 : decode cX1_count 77 = .ok (.iload_n 3, 1) := by decide +kernel
theorem dX1_count_78 : decode cX1_count 78 = .ok (.iload 5, 2) := by decide +kernel
theorem dX1_count_80 : decode cX1_count 80 = .ok (.invokevirtual 45, 3) := by decide +kernel
theorem dX1_count_83 : decode cX1_count 83 = .ok (.ifCond .ne 7, 3) := by decide +kernel
theorem dX1_count_86 : decode cX1_count 86 = .ok (.iconst 1, 1) := by decide +kernel
theorem dX1_count_87 : decode cX1_count 87 = .ok (.goto 4, 3) := by decide +kernel
theorem dX1_count_90 : decode cX1_count 90 = .ok (.iconst 0, 1) := by decide +kernel
theorem dX1_count_91 : decode cX1_count 91 = .ok (.iand, 1) := by decide +kernel
theorem dX1_count_92 : decode cX1_count 92 = .ok (.istore 4, 2) := by decide +kernel
theorem dX1_count_94 : decode cX1_count 94 = .ok (.iinc 5 1, 3) := by decide +kernel
theorem dX1_count_97 : decode cX1_count 97 = .ok (.goto (-30), 3) := by decide +kernel
theorem dX1_count_100 : decode cX1_count 100 = .ok (.iload 4, 2) := by decide +kernel
theorem dX1_count_102 : decode cX1_count 102 = .ok (.ifCond .eq 6, 3) := by decide +kernel
theorem dX1_count_105 : decode cX1_count 105 = .ok (.iinc 2 1, 3) := by decide +kernel
theorem dX1_count_108 : decode cX1_count 108 = .ok (.iinc 3 1, 3) := by decide +kernel
theorem dX1_count_111 : decode cX1_count 111 = .ok (.goto (-56), 3) := by decide +kernel
theorem dX1_count_114 : decode cX1_count 114 = .ok (.iload_n 2, 1) := by decide +kernel
theorem dX1_count_115 : decode cX1_count 115 = .ok (.ireturn, 1) := by decide +kernel
theorem dX1_count_116 : decode cX1_count 116 = .ok (.iconst (-1), 1) := by decide +kernel
theorem dX1_count_117 : decode cX1_count 117 = .ok (.ireturn, 1) := by decide +kernel
theorem dL_begin_0 : decode cL_begin 0 = .ok (.aload_n 2, 1) := by decide +kernel
theorem dL_begin_1 : decode cL_begin 1 = .ok (.iconst 0, 1) := by decide +kernel
theorem dL_begin_2 : decode cL_begin 2 = .ok (.aload_n 0, 1) := by decide +kernel
theorem dL_begin_3 : decode cL_begin 3 = .ok (.iload_n 1, 1) := by decide +kernel
theorem dL_begin_4 : decode cL_begin 4 = .ok (.invokevirtual 7, 3) := by decide +kernel
theorem dL_begin_7 : decode cL_begin 7 = .ok (.i2l, 1) := by decide +kernel
theorem dL_begin_8 : decode cL_begin 8 = .ok (.lastore, 1) := by decide +kernel
theorem dL_begin_9 : decode cL_begin 9 = .ok (.goto 6, 3) := by decide +kernel
theorem dL_begin_12 : decode cL_begin 12 = .ok (.astore_n 3, 1) := by decide +kernel
theorem dL_begin_13 : decode cL_begin 13 = .ok (.iconst 1, 1) := by decide +kernel
theorem dL_begin_14 : decode cL_begin 14 = .ok (.ireturn, 1) := by decide +kernel
theorem dL_begin_15 : decode cL_begin 15 = .ok (.iconst 0, 1) := by decide +kernel
theorem dL_begin_16 : decode cL_begin 16 = .ok (.ireturn, 1) := by decide +kernel
theorem dL_set_0 : decode cL_set 0 = .ok (.aload 4, 2) := by decide +kernel
theorem dL_set_2 : decode cL_set 2 = .ok (.iconst 0, 1) := by decide +kernel
theorem dL_set_3 : decode cL_set 3 = .ok (.aload_n 0, 1) := by decide +kernel
theorem dL_set_4 : decode cL_set 4 = .ok (.iload_n 1, 1) := by decide +kernel
theorem dL_set_5 : decode cL_set 5 = .ok (.iload_n 2, 1) := by decide +kernel
theorem dL_set_6 : decode cL_set 6 = .ok (.iload_n 3, 1) := by decide +kernel
theorem dL_set_7 : decode cL_set 7 = .ok (.invokevirtual 15, 3) := by decide +kernel
theorem dL_set_10 : decode cL_set 10 = .ok (.i2l, 1) := by decide +kernel
theorem dL_set_11 : decode cL_set 11 = .ok (.lastore, 1) := by decide +kernel
theorem dL_set_12 : decode cL_set 12 = .ok (.goto 7, 3) := by decide +kernel
theorem dL_set_15 : decode cL_set 15 = .ok (.astore 5, 2) := by decide +kernel
theorem dL_set_17 : decode cL_set 17 = .ok (.iconst 1, 1) := by decide +kernel
theorem dL_set_18 : decode cL_set 18 = .ok (.ireturn, 1) := by decide +kernel
theorem dL_set_19 : decode cL_set 19 = .ok (.iconst 0, 1) := by decide +kernel
theorem dL_set_20 : decode cL_set 20 = .ok (.ireturn, 1) := by decide +kernel
theorem dL_get_0 : decode cL_get 0 = .ok (.aload_n 3, 1) := by decide +kernel
theorem dL_get_1 : decode cL_get 1 = .ok (.iconst 0, 1) := by decide +kernel
theorem dL_get_2 : decode cL_get 2 = .ok (.aload_n 0, 1) := by decide +kernel
theorem dL_get_3 : decode cL_get 3 = .ok (.iload_n 1, 1) := by decide +kernel
theorem dL_get_4 : decode cL_get 4 = .ok (.iload_n 2, 1) := by decide +kernel
theorem dL_get_5 : decode cL_get 5 = .ok (.invokevirtual 21, 3) := by decide +kernel
theorem dL_get_8 : decode cL_get 8 = .ok (.i2l, 1) := by decide +kernel
theorem dL_get_9 : decode cL_get 9 = .ok (.lastore, 1) := by decide +kernel
theorem dL_get_10 : decode cL_get 10 = .ok (.goto 7, 3) := by decide +kernel
theorem dL_get_13 : decode cL_get 13 = .ok (.astore 4, 2) := by decide +kernel
theorem dL_get_15 : decode cL_get 15 = .ok (.iconst 1, 1) := by decide +kernel
theorem dL_get_16 : decode cL_get 16 = .ok (.ireturn, 1) := by decide +kernel
theorem dL_get_17 : decode cL_get 17 = .ok (.iconst 0, 1) := by decide +kernel
theorem dL_get_18 : decode cL_get 18 = .ok (.ireturn, 1) := by decide +kernel
theorem dL_join_0 : decode cL_join 0 = .ok (.aload 5, 2) := by decide +kernel
theorem dL_join_2 : decode cL_join 2 = .ok (.iconst 0, 1) := by decide +kernel
theorem dL_join_3 : decode cL_join 3 = .ok (.aload_n 0, 1) := by decide +kernel
theorem dL_join_4 : decode cL_join 4 = .ok (.iload_n 1, 1) := by decide +kernel
theorem dL_join_5 : decode cL_join 5 = .ok (.iload_n 2, 1) := by decide +kernel
theorem dL_join_6 : decode cL_join 6 = .ok (.iload_n 3, 1) := by decide +kernel
theorem dL_join_7 : decode cL_join 7 = .ok (.iload 4, 2) := by decide +kernel
theorem dL_join_9 : decode cL_join 9 = .ok (.invokevirtual 25, 3) := by decide +kernel
theorem dL_join_12 : decode cL_join 12 = .ok (.i2l, 1) := by decide +kernel
theorem dL_join_13 : decode cL_join 13 = .ok (.lastore, 1) := by decide +kernel
theorem dL_join_14 : decode cL_join 14 = .ok (.goto 11, 3) := by decide +kernel
theorem dL_join_17 : decode cL_join 17 = .ok (.astore 6, 2) := by decide +kernel
theorem dL_join_19 : decode cL_join 19 = .ok (.iconst 1, 1) := by decide +kernel
theorem dL_join_20 : decode cL_join 20 = .ok (.ireturn, 1) := by decide +kernel
theorem dL_join_21 : decode cL_join 21 = .ok (.astore 6, 2) := by decide +kernel
theorem dL_join_23 : decode cL_join 23 = .ok (.iconst 2, 1) := by decide +kernel
theorem dL_join_24 : decode cL_join 24 = .ok (.ireturn, 1) := by decide +kernel
theorem dL_join_25 : decode cL_join 25 = .ok (.iconst 0, 1) := by decide +kernel
theorem dL_join_26 : decode cL_join 26 = .ok (.ireturn, 1) := by decide +kernel
theorem dL_round_0 : decode cL_round 0 = .ok (.aload 5, 2) := by decide +kernel
theorem dL_round_2 : decode cL_round 2 = .ok (.iconst 0, 1) := by decide +kernel
theorem dL_round_3 : decode cL_round 3 = .ok (.aload_n 0, 1) := by decide +kernel
theorem dL_round_4 : decode cL_round 4 = .ok (.iload_n 1, 1) := by decide +kernel
theorem dL_round_5 : decode cL_round 5 = .ok (.iload_n 2, 1) := by decide +kernel
theorem dL_round_6 : decode cL_round 6 = .ok (.iload_n 3, 1) := by decide +kernel
theorem dL_round_7 : decode cL_round 7 = .ok (.iload 4, 2) := by decide +kernel
theorem dL_round_9 : decode cL_round 9 = .ok (.invokevirtual 29, 3) := by decide +kernel
theorem dL_round_12 : decode cL_round 12 = .ok (.i2l, 1) := by decide +kernel
theorem dL_round_13 : decode cL_round 13 = .ok (.lastore, 1) := by decide +kernel
theorem dL_round_14 : decode cL_round 14 = .ok (.goto 11, 3) := by decide +kernel
theorem dL_round_17 : decode cL_round 17 = .ok (.astore 6, 2) := by decide +kernel
theorem dL_round_19 : decode cL_round 19 = .ok (.iconst 1, 1) := by decide +kernel
theorem dL_round_20 : decode cL_round 20 = .ok (.ireturn, 1) := by decide +kernel
theorem dL_round_21 : decode cL_round 21 = .ok (.astore 6, 2) := by decide +kernel
theorem dL_round_23 : decode cL_round 23 = .ok (.iconst 2, 1) := by decide +kernel
theorem dL_round_24 : decode cL_round 24 = .ok (.ireturn, 1) := by decide +kernel
theorem dL_round_25 : decode cL_round 25 = .ok (.iconst 0, 1) := by decide +kernel
theorem dL_round_26 : decode cL_round 26 = .ok (.ireturn, 1) := by decide +kernel
theorem dL_part_0 : decode cL_part 0 = .ok (.aload 5, 2) := by decide +kernel
theorem dL_part_2 : decode cL_part 2 = .ok (.iconst 0, 1) := by decide +kernel
theorem dL_part_3 : decode cL_part 3 = .ok (.aload_n 0, 1) := by decide +kernel
theorem dL_part_4 : decode cL_part 4 = .ok (.iload_n 1, 1) := by decide +kernel
theorem dL_part_5 : decode cL_part 5 = .ok (.iload_n 2, 1) := by decide +kernel
theorem dL_part_6 : decode cL_part 6 = .ok (.iload_n 3, 1) := by decide +kernel
theorem dL_part_7 : decode cL_part 7 = .ok (.iload 4, 2) := by decide +kernel
theorem dL_part_9 : decode cL_part 9 = .ok (.invokevirtual 32, 3) := by decide +kernel
theorem dL_part_12 : decode cL_part 12 = .ok (.i2l, 1) := by decide +kernel
theorem dL_part_13 : decode cL_part 13 = .ok (.lastore, 1) := by decide +kernel
theorem dL_part_14 : decode cL_part 14 = .ok (.goto 11, 3) := by decide +kernel
theorem dL_part_17 : decode cL_part 17 = .ok (.astore 6, 2) := by decide +kernel
theorem dL_part_19 : decode cL_part 19 = .ok (.iconst 1, 1) := by decide +kernel
theorem dL_part_20 : decode cL_part 20 = .ok (.ireturn, 1) := by decide +kernel
theorem dL_part_21 : decode cL_part 21 = .ok (.astore 6, 2) := by decide +kernel
theorem dL_part_23 : decode cL_part 23 = .ok (.iconst 2, 1) := by decide +kernel
theorem dL_part_24 : decode cL_part 24 = .ok (.ireturn, 1) := by decide +kernel
theorem dL_part_25 : decode cL_part 25 = .ok (.iconst 0, 1) := by decide +kernel
theorem dL_part_26 : decode cL_part 26 = .ok (.ireturn, 1) := by decide +kernel
theorem dL_hint_0 : decode cL_hint 0 = .ok (.aload 5, 2) := by decide +kernel
theorem dL_hint_2 : decode cL_hint 2 = .ok (.iconst 0, 1) := by decide +kernel
theorem dL_hint_3 : decode cL_hint 3 = .ok (.aload_n 0, 1) := by decide +kernel
theorem dL_hint_4 : decode cL_hint 4 = .ok (.iload_n 1, 1) := by decide +kernel
theorem dL_hint_5 : decode cL_hint 5 = .ok (.iload_n 2, 1) := by decide +kernel
theorem dL_hint_6 : decode cL_hint 6 = .ok (.iload_n 3, 1) := by decide +kernel
theorem dL_hint_7 : decode cL_hint 7 = .ok (.iload 4, 2) := by decide +kernel
theorem dL_hint_9 : decode cL_hint 9 = .ok (.invokevirtual 36, 3) := by decide +kernel
theorem dL_hint_12 : decode cL_hint 12 = .ok (.i2l, 1) := by decide +kernel
theorem dL_hint_13 : decode cL_hint 13 = .ok (.lastore, 1) := by decide +kernel
theorem dL_hint_14 : decode cL_hint 14 = .ok (.goto 11, 3) := by decide +kernel
theorem dL_hint_17 : decode cL_hint 17 = .ok (.astore 6, 2) := by decide +kernel
theorem dL_hint_19 : decode cL_hint 19 = .ok (.iconst 1, 1) := by decide +kernel
theorem dL_hint_20 : decode cL_hint 20 = .ok (.ireturn, 1) := by decide +kernel
theorem dL_hint_21 : decode cL_hint 21 = .ok (.astore 6, 2) := by decide +kernel
theorem dL_hint_23 : decode cL_hint 23 = .ok (.iconst 2, 1) := by decide +kernel
theorem dL_hint_24 : decode cL_hint 24 = .ok (.ireturn, 1) := by decide +kernel
theorem dL_hint_25 : decode cL_hint 25 = .ok (.iconst 0, 1) := by decide +kernel
theorem dL_hint_26 : decode cL_hint 26 = .ok (.ireturn, 1) := by decide +kernel
theorem dL_use_0 : decode cL_use 0 = .ok (.aload 5, 2) := by decide +kernel
theorem dL_use_2 : decode cL_use 2 = .ok (.iconst 0, 1) := by decide +kernel
theorem dL_use_3 : decode cL_use 3 = .ok (.aload_n 0, 1) := by decide +kernel
theorem dL_use_4 : decode cL_use 4 = .ok (.iload_n 1, 1) := by decide +kernel
theorem dL_use_5 : decode cL_use 5 = .ok (.iload_n 2, 1) := by decide +kernel
theorem dL_use_6 : decode cL_use 6 = .ok (.iload_n 3, 1) := by decide +kernel
theorem dL_use_7 : decode cL_use 7 = .ok (.iload 4, 2) := by decide +kernel
theorem dL_use_9 : decode cL_use 9 = .ok (.invokevirtual 39, 3) := by decide +kernel
theorem dL_use_12 : decode cL_use 12 = .ok (.i2l, 1) := by decide +kernel
theorem dL_use_13 : decode cL_use 13 = .ok (.lastore, 1) := by decide +kernel
theorem dL_use_14 : decode cL_use 14 = .ok (.goto 11, 3) := by decide +kernel
theorem dL_use_17 : decode cL_use 17 = .ok (.astore 6, 2) := by decide +kernel
theorem dL_use_19 : decode cL_use 19 = .ok (.iconst 1, 1) := by decide +kernel
theorem dL_use_20 : decode cL_use 20 = .ok (.ireturn, 1) := by decide +kernel
theorem dL_use_21 : decode cL_use 21 = .ok (.astore 6, 2) := by decide +kernel
theorem dL_use_23 : decode cL_use 23 = .ok (.iconst 2, 1) := by decide +kernel
theorem dL_use_24 : decode cL_use 24 = .ok (.ireturn, 1) := by decide +kernel
theorem dL_use_25 : decode cL_use 25 = .ok (.iconst 0, 1) := by decide +kernel
theorem dL_use_26 : decode cL_use 26 = .ok (.ireturn, 1) := by decide +kernel
theorem dL_size_0 : decode cL_size 0 = .ok (.aload_n 2, 1) := by decide +kernel
theorem dL_size_1 : decode cL_size 1 = .ok (.iconst 0, 1) := by decide +kernel
theorem dL_size_2 : decode cL_size 2 = .ok (.aload_n 0, 1) := by decide +kernel
theorem dL_size_3 : decode cL_size 3 = .ok (.iload_n 1, 1) := by decide +kernel
theorem dL_size_4 : decode cL_size 4 = .ok (.invokevirtual 42, 3) := by decide +kernel
theorem dL_size_7 : decode cL_size 7 = .ok (.i2l, 1) := by decide +kernel
theorem dL_size_8 : decode cL_size 8 = .ok (.lastore, 1) := by decide +kernel
theorem dL_size_9 : decode cL_size 9 = .ok (.goto 6, 3) := by decide +kernel
theorem dL_size_12 : decode cL_size 12 = .ok (.astore_n 3, 1) := by decide +kernel
theorem dL_size_13 : decode cL_size 13 = .ok (.iconst 1, 1) := by decide +kernel
theorem dL_size_14 : decode cL_size 14 = .ok (.ireturn, 1) := by decide +kernel
theorem dL_size_15 : decode cL_size 15 = .ok (.iconst 0, 1) := by decide +kernel
theorem dL_size_16 : decode cL_size 16 = .ok (.ireturn, 1) := by decide +kernel
theorem dL_far_0 : decode cL_far 0 = .ok (.aload_n 3, 1) := by decide +kernel
theorem dL_far_1 : decode cL_far 1 = .ok (.iconst 0, 1) := by decide +kernel
theorem dL_far_2 : decode cL_far 2 = .ok (.aload_n 0, 1) := by decide +kernel
theorem dL_far_3 : decode cL_far 3 = .ok (.iload_n 1, 1) := by decide +kernel
theorem dL_far_4 : decode cL_far 4 = .ok (.iload_n 2, 1) := by decide +kernel
theorem dL_far_5 : decode cL_far 5 = .ok (.invokevirtual 45, 3) := by decide +kernel
theorem dL_far_8 : decode cL_far 8 = .ok (.i2l, 1) := by decide +kernel
theorem dL_far_9 : decode cL_far 9 = .ok (.lastore, 1) := by decide +kernel
theorem dL_far_10 : decode cL_far 10 = .ok (.goto 7, 3) := by decide +kernel
theorem dL_far_13 : decode cL_far 13 = .ok (.astore 4, 2) := by decide +kernel
theorem dL_far_15 : decode cL_far 15 = .ok (.iconst 1, 1) := by decide +kernel
theorem dL_far_16 : decode cL_far 16 = .ok (.ireturn, 1) := by decide +kernel
theorem dL_far_17 : decode cL_far 17 = .ok (.iconst 0, 1) := by decide +kernel
theorem dL_far_18 : decode cL_far 18 = .ok (.ireturn, 1) := by decide +kernel
end
section
theorem dL_noise_0 : decode cL_noise 0 = .ok (.aload 7, 2) := by decide +kernel
theorem dL_noise_2 : decode cL_noise 2 = .ok (.iconst 0, 1) := by decide +kernel
theorem dL_noise_3 : decode cL_noise 3 = .ok (.aload_n 0, 1) := by decide +kernel
theorem dL_noise_4 : decode cL_noise 4 = .ok (.iload_n 1, 1) := by decide +kernel
theorem dL_noise_5 : decode cL_noise 5 = .ok (.iload_n 2, 1) := by decide +kernel
theorem dL_noise_6 : decode cL_noise 6 = .ok (.lload_n 3, 1) := by decide +kernel
theorem dL_noise_7 : decode cL_noise 7 = .ok (.lload 5, 2) := by decide +kernel
theorem dL_noise_9 : decode cL_noise 9 = .ok (.invokevirtual 48, 3) := by decide +kernel
theorem dL_noise_12 : decode cL_noise 12 = .ok (.i2l, 1) := by decide +kernel
theorem dL_noise_13 : decode cL_noise 13 = .ok (.lastore, 1) := by decide +kernel
theorem dL_noise_14 : decode cL_noise 14 = .ok (.goto 11, 3) := by decide +kernel
theorem dL_noise_17 : decode cL_noise 17 = .ok (.astore 8, 2) := by decide +kernel
theorem dL_noise_19 : decode cL_noise 19 = .ok (.iconst 1, 1) := by decide +kernel
theorem dL_noise_20 : decode cL_noise 20 = .ok (.ireturn, 1) := by decide +kernel
theorem dL_noise_21 : decode cL_noise 21 = .ok (.astore 8, 2) := by decide +kernel
theorem dL_noise_23 : decode cL_noise 23 = .ok (.iconst 2, 1) := by decide +kernel
theorem dL_noise_24 : decode cL_noise 24 = .ok (.ireturn, 1) := by decide +kernel
theorem dL_noise_25 : decode cL_noise 25 = .ok (.iconst 0, 1) := by decide +kernel
theorem dL_noise_26 : decode cL_noise 26 = .ok (.ireturn, 1) := by decide +kernel
theorem dL_value_0 : decode cL_value 0 = .ok (.aload_n 3, 1) := by decide +kernel
theorem dL_value_1 : decode cL_value 1 = .ok (.iconst 0, 1) := by decide +kernel
theorem dL_value_2 : decode cL_value 2 = .ok (.aload_n 0, 1) := by decide +kernel
theorem dL_value_3 : decode cL_value 3 = .ok (.iload_n 1, 1) := by decide +kernel
theorem dL_value_4 : decode cL_value 4 = .ok (.iload_n 2, 1) := by decide +kernel
theorem dL_value_5 : decode cL_value 5 = .ok (.invokevirtual 52, 3) := by decide +kernel
theorem dL_value_8 : decode cL_value 8 = .ok (.i2l, 1) := by decide +kernel
theorem dL_value_9 : decode cL_value 9 = .ok (.lastore, 1) := by decide +kernel
theorem dL_value_10 : decode cL_value 10 = .ok (.goto 7, 3) := by decide +kernel
theorem dL_value_13 : decode cL_value 13 = .ok (.astore 4, 2) := by decide +kernel
theorem dL_value_15 : decode cL_value 15 = .ok (.iconst 1, 1) := by decide +kernel
theorem dL_value_16 : decode cL_value 16 = .ok (.ireturn, 1) := by decide +kernel
theorem dL_value_17 : decode cL_value 17 = .ok (.iconst 0, 1) := by decide +kernel
theorem dL_value_18 : decode cL_value 18 = .ok (.ireturn, 1) := by decide +kernel
theorem dL_unit_0 : decode cL_unit 0 = .ok (.aload_n 2, 1) := by decide +kernel
theorem dL_unit_1 : decode cL_unit 1 = .ok (.iconst 0, 1) := by decide +kernel
theorem dL_unit_2 : decode cL_unit 2 = .ok (.aload_n 0, 1) := by decide +kernel
theorem dL_unit_3 : decode cL_unit 3 = .ok (.iload_n 1, 1) := by decide +kernel
theorem dL_unit_4 : decode cL_unit 4 = .ok (.invokevirtual 55, 3) := by decide +kernel
theorem dL_unit_7 : decode cL_unit 7 = .ok (.ifCond .eq 7, 3) := by decide +kernel
theorem dL_unit_10 : decode cL_unit 10 = .ok (.lconst 1, 1) := by decide +kernel
theorem dL_unit_11 : decode cL_unit 11 = .ok (.goto 4, 3) := by decide +kernel
theorem dL_unit_14 : decode cL_unit 14 = .ok (.lconst 0, 1) := by decide +kernel
theorem dL_unit_15 : decode cL_unit 15 = .ok (.lastore, 1) := by decide +kernel
theorem dL_unit_16 : decode cL_unit 16 = .ok (.goto 6, 3) := by decide +kernel
theorem dL_unit_19 : decode cL_unit 19 = .ok (.astore_n 3, 1) := by decide +kernel
theorem dL_unit_20 : decode cL_unit 20 = .ok (.iconst 1, 1) := by decide +kernel
theorem dL_unit_21 : decode cL_unit 21 = .ok (.ireturn, 1) := by decide +kernel
theorem dL_unit_22 : decode cL_unit 22 = .ok (.iconst 0, 1) := by decide +kernel
theorem dL_unit_23 : decode cL_unit 23 = .ok (.ireturn, 1) := by decide +kernel
end
section
theorem dL_law_0 : decode cL_law 0 = .ok (.new 8, 3) := by decide +kernel
theorem dL_law_3 : decode cL_law 3 = .ok (.dup, 1) := by decide +kernel
theorem dL_law_4 : decode cL_law 4 = .ok (.invokespecial 59, 3) := by decide +kernel
theorem dL_law_7 : decode cL_law 7 = .ok (.astore_n 1, 1) := by decide +kernel
theorem dL_law_8 : decode cL_law 8 = .ok (.new 60, 3) := by decide +kernel
theorem dL_law_11 : decode cL_law 11 = .ok (.dup, 1) := by decide +kernel
theorem dL_law_12 : decode cL_law 12 = .ok (.invokespecial 62, 3) := by decide +kernel
theorem dL_law_15 : decode cL_law 15 = .ok (.astore_n 2, 1) := by decide +kernel
theorem dL_law_16 : decode cL_law 16 = .ok (.iconst 1, 1) := by decide +kernel
theorem dL_law_17 : decode cL_law 17 = .ok (.newarray .long, 2) := by decide +kernel
theorem dL_law_19 : decode cL_law 19 = .ok (.astore_n 3, 1) := by decide +kernel
theorem dL_law_20 : decode cL_law 20 = .ok (.iconst 0, 1) := by decide +kernel
theorem dL_law_21 : decode cL_law 21 = .ok (.istore 4, 2) := by decide +kernel
theorem dL_law_23 : decode cL_law 23 = .ok (.iload 4, 2) := by decide +kernel
theorem dL_law_25 : decode cL_law 25 = .ok (.aload_n 0, 1) := by decide +kernel
theorem dL_law_26 : decode cL_law 26 = .ok (.arraylength, 1) := by decide +kernel
theorem dL_law_27 : decode cL_law 27 = .ok (.bipush 7, 2) := by decide +kernel
theorem dL_law_29 : decode cL_law 29 = .ok (.isub, 1) := by decide +kernel
theorem dL_law_30 : decode cL_law 30 = .ok (.if_icmp .gt 1206, 3) := by decide +kernel
theorem dL_law_33 : decode cL_law 33 = .ok (.aload_n 0, 1) := by decide +kernel
theorem dL_law_34 : decode cL_law 34 = .ok (.iload 4, 2) := by decide +kernel
theorem dL_law_36 : decode cL_law 36 = .ok (.iaload, 1) := by decide +kernel
theorem dL_law_37 : decode cL_law 37 = .ok (.bipush 15, 2) := by decide +kernel
theorem dL_law_39 : decode cL_law 39 = .ok (.iand, 1) := by decide +kernel
theorem dL_law_40 : decode cL_law 40 = .ok (.tableswitch 1190 0 13 #[72, 128, 208, 276, 368, 460, 568, 660, 752, 808, 876, 1034, 1102, 1165], 72) := by decide +kernel
theorem dL_law_112 : decode cL_law 112 = .ok (.aload_n 1, 1) := by decide +kernel
theorem dL_law_113 : decode cL_law 113 = .ok (.aload_n 0, 1) := by decide +kernel
theorem dL_law_114 : decode cL_law 114 = .ok (.iload 4, 2) := by decide +kernel
theorem dL_law_116 : decode cL_law 116 = .ok (.iconst 1, 1) := by decide +kernel
theorem dL_law_117 : decode cL_law 117 = .ok (.iadd, 1) := by decide +kernel
theorem dL_law_118 : decode cL_law 118 = .ok (.iaload, 1) := by decide +kernel
theorem dL_law_119 : decode cL_law 119 = .ok (.aload_n 3, 1) := by decide +kernel
theorem dL_law_120 : decode cL_law 120 = .ok (.invokestatic 63, 3) := by decide +kernel
theorem dL_law_123 : decode cL_law 123 = .ok (.istore 5, 2) := by decide +kernel
theorem dL_law_125 : decode cL_law 125 = .ok (.aload_n 2, 1) := by decide +kernel
theorem dL_law_126 : decode cL_law 126 = .ok (.aload_n 0, 1) := by decide +kernel
theorem dL_law_127 : decode cL_law 127 = .ok (.iload 4, 2) := by decide +kernel
theorem dL_law_129 : decode cL_law 129 = .ok (.iconst 1, 1) := by decide +kernel
theorem dL_law_130 : decode cL_law 130 = .ok (.iadd, 1) := by decide +kernel
theorem dL_law_131 : decode cL_law 131 = .ok (.iaload, 1) := by decide +kernel
theorem dL_law_132 : decode cL_law 132 = .ok (.invokevirtual 68, 3) := by decide +kernel
theorem dL_law_135 : decode cL_law 135 = .ok (.istore 6, 2) := by decide +kernel
theorem dL_law_137 : decode cL_law 137 = .ok (.aload_n 2, 1) := by decide +kernel
theorem dL_law_138 : decode cL_law 138 = .ok (.invokevirtual 69, 3) := by decide +kernel
theorem dL_law_141 : decode cL_law 141 = .ok (.iload 5, 2) := by decide +kernel
theorem dL_law_143 : decode cL_law 143 = .ok (.if_icmp .eq 5, 3) := by decide +kernel
theorem dL_law_146 : decode cL_law 146 = .ok (.iconst 0, 1) := by decide +kernel
theorem dL_law_147 : decode cL_law 147 = .ok (.ireturn, 1) := by decide +kernel
theorem dL_law_148 : decode cL_law 148 = .ok (.iload 5, 2) := by decide +kernel
theorem dL_law_150 : decode cL_law 150 = .ok (.ifCond .ne 15, 3) := by decide +kernel
theorem dL_law_153 : decode cL_law 153 = .ok (.aload_n 3, 1) := by decide +kernel
theorem dL_law_154 : decode cL_law 154 = .ok (.iconst 0, 1) := by decide +kernel
theorem dL_law_155 : decode cL_law 155 = .ok (.laload, 1) := by decide +kernel
theorem dL_law_156 : decode cL_law 156 = .ok (.iload 6, 2) := by decide +kernel
theorem dL_law_158 : decode cL_law 158 = .ok (.i2l, 1) := by decide +kernel
theorem dL_law_159 : decode cL_law 159 = .ok (.lcmp, 1) := by decide +kernel
theorem dL_law_160 : decode cL_law 160 = .ok (.ifCond .eq 5, 3) := by decide +kernel
theorem dL_law_163 : decode cL_law 163 = .ok (.iconst 0, 1) := by decide +kernel
theorem dL_law_164 : decode cL_law 164 = .ok (.ireturn, 1) := by decide +kernel
theorem dL_law_165 : decode cL_law 165 = .ok (.goto 1065, 3) := by decide +kernel
theorem dL_law_168 : decode cL_law 168 = .ok (.aload_n 1, 1) := by decide +kernel
theorem dL_law_169 : decode cL_law 169 = .ok (.aload_n 0, 1) := by decide +kernel
theorem dL_law_170 : decode cL_law 170 = .ok (.iload 4, 2) := by decide +kernel
theorem dL_law_172 : decode cL_law 172 = .ok (.iconst 1, 1) := by decide +kernel
theorem dL_law_173 : decode cL_law 173 = .ok (.iadd, 1) := by decide +kernel
theorem dL_law_174 : decode cL_law 174 = .ok (.iaload, 1) := by decide +kernel
theorem dL_law_175 : decode cL_law 175 = .ok (.aload_n 0, 1) := by decide +kernel
theorem dL_law_176 : decode cL_law 176 = .ok (.iload 4, 2) := by decide +kernel
theorem dL_law_178 : decode cL_law 178 = .ok (.iconst 2, 1) := by decide +kernel
theorem dL_law_179 : decode cL_law 179 = .ok (.iadd, 1) := by decide +kernel
theorem dL_law_180 : decode cL_law 180 = .ok (.iaload, 1) := by decide +kernel
theorem dL_law_181 : decode cL_law 181 = .ok (.aload_n 0, 1) := by decide +kernel
theorem dL_law_182 : decode cL_law 182 = .ok (.iload 4, 2) := by decide +kernel
theorem dL_law_184 : decode cL_law 184 = .ok (.iconst 3, 1) := by decide +kernel
theorem dL_law_185 : decode cL_law 185 = .ok (.iadd, 1) := by decide +kernel
theorem dL_law_186 : decode cL_law 186 = .ok (.iaload, 1) := by decide +kernel
theorem dL_law_187 : decode cL_law 187 = .ok (.aload_n 3, 1) := by decide +kernel
theorem dL_law_188 : decode cL_law 188 = .ok (.invokestatic 73, 3) := by decide +kernel
theorem dL_law_191 : decode cL_law 191 = .ok (.istore 5, 2) := by decide +kernel
theorem dL_law_193 : decode cL_law 193 = .ok (.aload_n 2, 1) := by decide +kernel
theorem dL_law_194 : decode cL_law 194 = .ok (.aload_n 0, 1) := by decide +kernel
theorem dL_law_195 : decode cL_law 195 = .ok (.iload 4, 2) := by decide +kernel
theorem dL_law_197 : decode cL_law 197 = .ok (.iconst 1, 1) := by decide +kernel
theorem dL_law_198 : decode cL_law 198 = .ok (.iadd, 1) := by decide +kernel
theorem dL_law_199 : decode cL_law 199 = .ok (.iaload, 1) := by decide +kernel
theorem dL_law_200 : decode cL_law 200 = .ok (.aload_n 0, 1) := by decide +kernel
theorem dL_law_201 : decode cL_law 201 = .ok (.iload 4, 2) := by decide +kernel
theorem dL_law_203 : decode cL_law 203 = .ok (.iconst 2, 1) := by decide +kernel
theorem dL_law_204 : decode cL_law 204 = .ok (.iadd, 1) := by decide +kernel
theorem dL_law_205 : decode cL_law 205 = .ok (.iaload, 1) := by decide +kernel
theorem dL_law_206 : decode cL_law 206 = .ok (.aload_n 0, 1) := by decide +kernel
theorem dL_law_207 : decode cL_law 207 = .ok (.iload 4, 2) := by decide +kernel
theorem dL_law_209 : decode cL_law 209 = .ok (.iconst 3, 1) := by decide +kernel
theorem dL_law_210 : decode cL_law 210 = .ok (.iadd, 1) := by decide +kernel
theorem dL_law_211 : decode cL_law 211 = .ok (.iaload, 1) := by decide +kernel
theorem dL_law_212 : decode cL_law 212 = .ok (.invokevirtual 76, 3) := by decide +kernel
theorem dL_law_215 : decode cL_law 215 = .ok (.istore 6, 2) := by decide +kernel
theorem dL_law_217 : decode cL_law 217 = .ok (.aload_n 2, 1) := by decide +kernel
theorem dL_law_218 : decode cL_law 218 = .ok (.invokevirtual 69, 3) := by decide +kernel
theorem dL_law_221 : decode cL_law 221 = .ok (.iload 5, 2) := by decide +kernel
theorem dL_law_223 : decode cL_law 223 = .ok (.if_icmp .eq 5, 3) := by decide +kernel
theorem dL_law_226 : decode cL_law 226 = .ok (.iconst 0, 1) := by decide +kernel
theorem dL_law_227 : decode cL_law 227 = .ok (.ireturn, 1) := by decide +kernel
theorem dL_law_228 : decode cL_law 228 = .ok (.iload 5, 2) := by decide +kernel
theorem dL_law_230 : decode cL_law 230 = .ok (.ifCond .ne 15, 3) := by decide +kernel
theorem dL_law_233 : decode cL_law 233 = .ok (.aload_n 3, 1) := by decide +kernel
theorem dL_law_234 : decode cL_law 234 = .ok (.iconst 0, 1) := by decide +kernel
theorem dL_law_235 : decode cL_law 235 = .ok (.laload, 1) := by decide +kernel
theorem dL_law_236 : decode cL_law 236 = .ok (.iload 6, 2) := by decide +kernel
theorem dL_law_238 : decode cL_law 238 = .ok (.i2l, 1) := by decide +kernel
theorem dL_law_239 : decode cL_law 239 = .ok (.lcmp, 1) := by decide +kernel
theorem dL_law_240 : decode cL_law 240 = .ok (.ifCond .eq 5, 3) := by decide +kernel
theorem dL_law_243 : decode cL_law 243 = .ok (.iconst 0, 1) := by decide +kernel
theorem dL_law_244 : decode cL_law 244 = .ok (.ireturn, 1) := by decide +kernel
theorem dL_law_245 : decode cL_law 245 = .ok (.goto 985, 3) := by decide +kernel
theorem dL_law_248 : decode cL_law 248 = .ok (.aload_n 1, 1) := by decide +kernel
theorem dL_law_249 : decode cL_law 249 = .ok (.aload_n 0, 1) := by decide +kernel
theorem dL_law_250 : decode cL_law 250 = .ok (.iload 4, 2) := by decide +kernel
theorem dL_law_252 : decode cL_law 252 = .ok (.iconst 1, 1) := by decide +kernel
theorem dL_law_253 : decode cL_law 253 = .ok (.iadd, 1) := by decide +kernel
theorem dL_law_254 : decode cL_law 254 = .ok (.iaload, 1) := by decide +kernel
theorem dL_law_255 : decode cL_law 255 = .ok (.aload_n 0, 1) := by decide +kernel
theorem dL_law_256 : decode cL_law 256 = .ok (.iload 4, 2) := by decide +kernel
theorem dL_law_258 : decode cL_law 258 = .ok (.iconst 2, 1) := by decide +kernel
theorem dL_law_259 : decode cL_law 259 = .ok (.iadd, 1) := by decide +kernel
theorem dL_law_260 : decode cL_law 260 = .ok (.iaload, 1) := by decide +kernel
theorem dL_law_261 : decode cL_law 261 = .ok (.aload_n 3, 1) := by decide +kernel
theorem dL_law_262 : decode cL_law 262 = .ok (.invokestatic 77, 3) := by decide +kernel
theorem dL_law_265 : decode cL_law 265 = .ok (.istore 5, 2) := by decide +kernel
theorem dL_law_267 : decode cL_law 267 = .ok (.aload_n 2, 1) := by decide +kernel
theorem dL_law_268 : decode cL_law 268 = .ok (.aload_n 0, 1) := by decide +kernel
theorem dL_law_269 : decode cL_law 269 = .ok (.iload 4, 2) := by decide +kernel
theorem dL_law_271 : decode cL_law 271 = .ok (.iconst 1, 1) := by decide +kernel
theorem dL_law_272 : decode cL_law 272 = .ok (.iadd, 1) := by decide +kernel
theorem dL_law_273 : decode cL_law 273 = .ok (.iaload, 1) := by decide +kernel
theorem dL_law_274 : decode cL_law 274 = .ok (.aload_n 0, 1) := by decide +kernel
theorem dL_law_275 : decode cL_law 275 = .ok (.iload 4, 2) := by decide +kernel
theorem dL_law_277 : decode cL_law 277 = .ok (.iconst 2, 1) := by decide +kernel
theorem dL_law_278 : decode cL_law 278 = .ok (.iadd, 1) := by decide +kernel
theorem dL_law_279 : decode cL_law 279 = .ok (.iaload, 1) := by decide +kernel
theorem dL_law_280 : decode cL_law 280 = .ok (.invokevirtual 80, 3) := by decide +kernel
theorem dL_law_283 : decode cL_law 283 = .ok (.istore 6, 2) := by decide +kernel
theorem dL_law_285 : decode cL_law 285 = .ok (.aload_n 2, 1) := by decide +kernel
theorem dL_law_286 : decode cL_law 286 = .ok (.invokevirtual 69, 3) := by decide +kernel
theorem dL_law_289 : decode cL_law 289 = .ok (.iload 5, 2) := by decide +kernel
theorem dL_law_291 : decode cL_law 291 = .ok (.if_icmp .eq 5, 3) := by decide +kernel
theorem dL_law_294 : decode cL_law 294 = .ok (.iconst 0, 1) := by decide +kernel
theorem dL_law_295 : decode cL_law 295 = .ok (.ireturn, 1) := by decide +kernel
theorem dL_law_296 : decode cL_law 296 = .ok (.iload 5, 2) := by decide +kernel
theorem dL_law_298 : decode cL_law 298 = .ok (.ifCond .ne 15, 3) := by decide +kernel
theorem dL_law_301 : decode cL_law 301 = .ok (.aload_n 3, 1) := by decide +kernel
theorem dL_law_302 : decode cL_law 302 = .ok (.iconst 0, 1) := by decide +kernel
theorem dL_law_303 : decode cL_law 303 = .ok (.laload, 1) := by decide +kernel
theorem dL_law_304 : decode cL_law 304 = .ok (.iload 6, 2) := by decide +kernel
theorem dL_law_306 : decode cL_law 306 = .ok (.i2l, 1) := by decide +kernel
theorem dL_law_307 : decode cL_law 307 = .ok (.lcmp, 1) := by decide +kernel
theorem dL_law_308 : decode cL_law 308 = .ok (.ifCond .eq 5, 3) := by decide +kernel
theorem dL_law_311 : decode cL_law 311 = .ok (.iconst 0, 1) := by decide +kernel
theorem dL_law_312 : decode cL_law 312 = .ok (.ireturn, 1) := by decide +kernel
theorem dL_law_313 : decode cL_law 313 = .ok (.goto 917, 3) := by decide +kernel
theorem dL_law_316 : decode cL_law 316 = .ok (.aload_n 1, 1) := by decide +kernel
theorem dL_law_317 : decode cL_law 317 = .ok (.aload_n 0, 1) := by decide +kernel
theorem dL_law_318 : decode cL_law 318 = .ok (.iload 4, 2) := by decide +kernel
theorem dL_law_320 : decode cL_law 320 = .ok (.iconst 1, 1) := by decide +kernel
theorem dL_law_321 : decode cL_law 321 = .ok (.iadd, 1) := by decide +kernel
theorem dL_law_322 : decode cL_law 322 = .ok (.iaload, 1) := by decide +kernel
theorem dL_law_323 : decode cL_law 323 = .ok (.aload_n 0, 1) := by decide +kernel
theorem dL_law_324 : decode cL_law 324 = .ok (.iload 4, 2) := by decide +kernel
theorem dL_law_326 : decode cL_law 326 = .ok (.iconst 2, 1) := by decide +kernel
theorem dL_law_327 : decode cL_law 327 = .ok (.iadd, 1) := by decide +kernel
theorem dL_law_328 : decode cL_law 328 = .ok (.iaload, 1) := by decide +kernel
theorem dL_law_329 : decode cL_law 329 = .ok (.aload_n 0, 1) := by decide +kernel
theorem dL_law_330 : decode cL_law 330 = .ok (.iload 4, 2) := by decide +kernel
theorem dL_law_332 : decode cL_law 332 = .ok (.iconst 3, 1) := by decide +kernel
theorem dL_law_333 : decode cL_law 333 = .ok (.iadd, 1) := by decide +kernel
theorem dL_law_334 : decode cL_law 334 = .ok (.iaload, 1) := by decide +kernel
theorem dL_law_335 : decode cL_law 335 = .ok (.aload_n 0, 1) := by decide +kernel
theorem dL_law_336 : decode cL_law 336 = .ok (.iload 4, 2) := by decide +kernel
theorem dL_law_338 : decode cL_law 338 = .ok (.iconst 4, 1) := by decide +kernel
theorem dL_law_339 : decode cL_law 339 = .ok (.iadd, 1) := by decide +kernel
theorem dL_law_340 : decode cL_law 340 = .ok (.iaload, 1) := by decide +kernel
theorem dL_law_341 : decode cL_law 341 = .ok (.aload_n 3, 1) := by decide +kernel
theorem dL_law_342 : decode cL_law 342 = .ok (.invokestatic 81, 3) := by decide +kernel
theorem dL_law_345 : decode cL_law 345 = .ok (.istore 5, 2) := by decide +kernel
theorem dL_law_347 : decode cL_law 347 = .ok (.aload_n 2, 1) := by decide +kernel
theorem dL_law_348 : decode cL_law 348 = .ok (.aload_n 0, 1) := by decide +kernel
theorem dL_law_349 : decode cL_law 349 = .ok (.iload 4, 2) := by decide +kernel
theorem dL_law_351 : decode cL_law 351 = .ok (.iconst 1, 1) := by decide +kernel
theorem dL_law_352 : decode cL_law 352 = .ok (.iadd, 1) := by decide +kernel
theorem dL_law_353 : decode cL_law 353 = .ok (.iaload, 1) := by decide +kernel
theorem dL_law_354 : decode cL_law 354 = .ok (.aload_n 0, 1) := by decide +kernel
theorem dL_law_355 : decode cL_law 355 = .ok (.iload 4, 2) := by decide +kernel
theorem dL_law_357 : decode cL_law 357 = .ok (.iconst 2, 1) := by decide +kernel
theorem dL_law_358 : decode cL_law 358 = .ok (.iadd, 1) := by decide +kernel
theorem dL_law_359 : decode cL_law 359 = .ok (.iaload, 1) := by decide +kernel
theorem dL_law_360 : decode cL_law 360 = .ok (.aload_n 0, 1) := by decide +kernel
theorem dL_law_361 : decode cL_law 361 = .ok (.iload 4, 2) := by decide +kernel
theorem dL_law_363 : decode cL_law 363 = .ok (.iconst 3, 1) := by decide +kernel
theorem dL_law_364 : decode cL_law 364 = .ok (.iadd, 1) := by decide +kernel
theorem dL_law_365 : decode cL_law 365 = .ok (.iaload, 1) := by decide +kernel
end
section
theorem dL_law_366 : decode cL_law 366 = .ok (.aload_n 0, 1) := by decide +kernel
theorem dL_law_367 : decode cL_law 367 = .ok (.iload 4, 2) := by decide +kernel
theorem dL_law_369 : decode cL_law 369 = .ok (.iconst 4, 1) := by decide +kernel
theorem dL_law_370 : decode cL_law 370 = .ok (.iadd, 1) := by decide +kernel
theorem dL_law_371 : decode cL_law 371 = .ok (.iaload, 1) := by decide +kernel
theorem dL_law_372 : decode cL_law 372 = .ok (.invokevirtual 84, 3) := by decide +kernel
theorem dL_law_375 : decode cL_law 375 = .ok (.istore 6, 2) := by decide +kernel
theorem dL_law_377 : decode cL_law 377 = .ok (.aload_n 2, 1) := by decide +kernel
theorem dL_law_378 : decode cL_law 378 = .ok (.invokevirtual 69, 3) := by decide +kernel
theorem dL_law_381 : decode cL_law 381 = .ok (.iload 5, 2) := by decide +kernel
theorem dL_law_383 : decode cL_law 383 = .ok (.if_icmp .eq 5, 3) := by decide +kernel
theorem dL_law_386 : decode cL_law 386 = .ok (.iconst 0, 1) := by decide +kernel
theorem dL_law_387 : decode cL_law 387 = .ok (.ireturn, 1) := by decide +kernel
theorem dL_law_388 : decode cL_law 388 = .ok (.iload 5, 2) := by decide +kernel
theorem dL_law_390 : decode cL_law 390 = .ok (.ifCond .ne 15, 3) := by decide +kernel
theorem dL_law_393 : decode cL_law 393 = .ok (.aload_n 3, 1) := by decide +kernel
theorem dL_law_394 : decode cL_law 394 = .ok (.iconst 0, 1) := by decide +kernel
theorem dL_law_395 : decode cL_law 395 = .ok (.laload, 1) := by decide +kernel
theorem dL_law_396 : decode cL_law 396 = .ok (.iload 6, 2) := by decide +kernel
theorem dL_law_398 : decode cL_law 398 = .ok (.i2l, 1) := by decide +kernel
theorem dL_law_399 : decode cL_law 399 = .ok (.lcmp, 1) := by decide +kernel
theorem dL_law_400 : decode cL_law 400 = .ok (.ifCond .eq 5, 3) := by decide +kernel
theorem dL_law_403 : decode cL_law 403 = .ok (.iconst 0, 1) := by decide +kernel
theorem dL_law_404 : decode cL_law 404 = .ok (.ireturn, 1) := by decide +kernel
theorem dL_law_405 : decode cL_law 405 = .ok (.goto 825, 3) := by decide +kernel
theorem dL_law_408 : decode cL_law 408 = .ok (.aload_n 1, 1) := by decide +kernel
theorem dL_law_409 : decode cL_law 409 = .ok (.aload_n 0, 1) := by decide +kernel
theorem dL_law_410 : decode cL_law 410 = .ok (.iload 4, 2) := by decide +kernel
theorem dL_law_412 : decode cL_law 412 = .ok (.iconst 1, 1) := by decide +kernel
theorem dL_law_413 : decode cL_law 413 = .ok (.iadd, 1) := by decide +kernel
theorem dL_law_414 : decode cL_law 414 = .ok (.iaload, 1) := by decide +kernel
theorem dL_law_415 : decode cL_law 415 = .ok (.aload_n 0, 1) := by decide +kernel
theorem dL_law_416 : decode cL_law 416 = .ok (.iload 4, 2) := by decide +kernel
theorem dL_law_418 : decode cL_law 418 = .ok (.iconst 2, 1) := by decide +kernel
theorem dL_law_419 : decode cL_law 419 = .ok (.iadd, 1) := by decide +kernel
theorem dL_law_420 : decode cL_law 420 = .ok (.iaload, 1) := by decide +kernel
theorem dL_law_421 : decode cL_law 421 = .ok (.aload_n 0, 1) := by decide +kernel
theorem dL_law_422 : decode cL_law 422 = .ok (.iload 4, 2) := by decide +kernel
theorem dL_law_424 : decode cL_law 424 = .ok (.iconst 3, 1) := by decide +kernel
theorem dL_law_425 : decode cL_law 425 = .ok (.iadd, 1) := by decide +kernel
theorem dL_law_426 : decode cL_law 426 = .ok (.iaload, 1) := by decide +kernel
theorem dL_law_427 : decode cL_law 427 = .ok (.aload_n 0, 1) := by decide +kernel
theorem dL_law_428 : decode cL_law 428 = .ok (.iload 4, 2) := by decide +kernel
theorem dL_law_430 : decode cL_law 430 = .ok (.iconst 4, 1) := by decide +kernel
theorem dL_law_431 : decode cL_law 431 = .ok (.iadd, 1) := by decide +kernel
theorem dL_law_432 : decode cL_law 432 = .ok (.iaload, 1) := by decide +kernel
theorem dL_law_433 : decode cL_law 433 = .ok (.aload_n 3, 1) := by decide +kernel
theorem dL_law_434 : decode cL_law 434 = .ok (.invokestatic 85, 3) := by decide +kernel
theorem dL_law_437 : decode cL_law 437 = .ok (.istore 5, 2) := by decide +kernel
theorem dL_law_439 : decode cL_law 439 = .ok (.aload_n 2, 1) := by decide +kernel
theorem dL_law_440 : decode cL_law 440 = .ok (.aload_n 0, 1) := by decide +kernel
theorem dL_law_441 : decode cL_law 441 = .ok (.iload 4, 2) := by decide +kernel
theorem dL_law_443 : decode cL_law 443 = .ok (.iconst 1, 1) := by decide +kernel
theorem dL_law_444 : decode cL_law 444 = .ok (.iadd, 1) := by decide +kernel
theorem dL_law_445 : decode cL_law 445 = .ok (.iaload, 1) := by decide +kernel
theorem dL_law_446 : decode cL_law 446 = .ok (.aload_n 0, 1) := by decide +kernel
theorem dL_law_447 : decode cL_law 447 = .ok (.iload 4, 2) := by decide +kernel
theorem dL_law_449 : decode cL_law 449 = .ok (.iconst 2, 1) := by decide +kernel
theorem dL_law_450 : decode cL_law 450 = .ok (.iadd, 1) := by decide +kernel
theorem dL_law_451 : decode cL_law 451 = .ok (.iaload, 1) := by decide +kernel
theorem dL_law_452 : decode cL_law 452 = .ok (.aload_n 0, 1) := by decide +kernel
theorem dL_law_453 : decode cL_law 453 = .ok (.iload 4, 2) := by decide +kernel
theorem dL_law_455 : decode cL_law 455 = .ok (.iconst 3, 1) := by decide +kernel
theorem dL_law_456 : decode cL_law 456 = .ok (.iadd, 1) := by decide +kernel
theorem dL_law_457 : decode cL_law 457 = .ok (.iaload, 1) := by decide +kernel
theorem dL_law_458 : decode cL_law 458 = .ok (.aload_n 0, 1) := by decide +kernel
theorem dL_law_459 : decode cL_law 459 = .ok (.iload 4, 2) := by decide +kernel
theorem dL_law_461 : decode cL_law 461 = .ok (.iconst 4, 1) := by decide +kernel
theorem dL_law_462 : decode cL_law 462 = .ok (.iadd, 1) := by decide +kernel
theorem dL_law_463 : decode cL_law 463 = .ok (.iaload, 1) := by decide +kernel
theorem dL_law_464 : decode cL_law 464 = .ok (.invokevirtual 87, 3) := by decide +kernel
theorem dL_law_467 : decode cL_law 467 = .ok (.istore 6, 2) := by decide +kernel
theorem dL_law_469 : decode cL_law 469 = .ok (.aload_n 2, 1) := by decide +kernel
theorem dL_law_470 : decode cL_law 470 = .ok (.invokevirtual 69, 3) := by decide +kernel
theorem dL_law_473 : decode cL_law 473 = .ok (.iload 5, 2) := by decide +kernel
theorem dL_law_475 : decode cL_law 475 = .ok (.if_icmp .eq 5, 3) := by decide +kernel
theorem dL_law_478 : decode cL_law 478 = .ok (.iconst 0, 1) := by decide +kernel
theorem dL_law_479 : decode cL_law 479 = .ok (.ireturn, 1) := by decide +kernel
theorem dL_law_480 : decode cL_law 480 = .ok (.iload 5, 2) := by decide +kernel
theorem dL_law_482 : decode cL_law 482 = .ok (.ifCond .ne 15, 3) := by decide +kernel
theorem dL_law_485 : decode cL_law 485 = .ok (.aload_n 3, 1) := by decide +kernel
theorem dL_law_486 : decode cL_law 486 = .ok (.iconst 0, 1) := by decide +kernel
theorem dL_law_487 : decode cL_law 487 = .ok (.laload, 1) := by decide +kernel
theorem dL_law_488 : decode cL_law 488 = .ok (.iload 6, 2) := by decide +kernel
theorem dL_law_490 : decode cL_law 490 = .ok (.i2l, 1) := by decide +kernel
theorem dL_law_491 : decode cL_law 491 = .ok (.lcmp, 1) := by decide +kernel
theorem dL_law_492 : decode cL_law 492 = .ok (.ifCond .eq 5, 3) := by decide +kernel
theorem dL_law_495 : decode cL_law 495 = .ok (.iconst 0, 1) := by decide +kernel
theorem dL_law_496 : decode cL_law 496 = .ok (.ireturn, 1) := by decide +kernel
theorem dL_law_497 : decode cL_law 497 = .ok (.goto 733, 3) := by decide +kernel
theorem dL_law_500 : decode cL_law 500 = .ok (.aload_n 1, 1) := by decide +kernel
theorem dL_law_501 : decode cL_law 501 = .ok (.aload_n 0, 1) := by decide +kernel
theorem dL_law_502 : decode cL_law 502 = .ok (.iload 4, 2) := by decide +kernel
theorem dL_law_504 : decode cL_law 504 = .ok (.iconst 1, 1) := by decide +kernel
theorem dL_law_505 : decode cL_law 505 = .ok (.iadd, 1) := by decide +kernel
theorem dL_law_506 : decode cL_law 506 = .ok (.iaload, 1) := by decide +kernel
theorem dL_law_507 : decode cL_law 507 = .ok (.aload_n 0, 1) := by decide +kernel
theorem dL_law_508 : decode cL_law 508 = .ok (.iload 4, 2) := by decide +kernel
theorem dL_law_510 : decode cL_law 510 = .ok (.iconst 2, 1) := by decide +kernel
theorem dL_law_511 : decode cL_law 511 = .ok (.iadd, 1) := by decide +kernel
theorem dL_law_512 : decode cL_law 512 = .ok (.iaload, 1) := by decide +kernel
theorem dL_law_513 : decode cL_law 513 = .ok (.aload_n 0, 1) := by decide +kernel
theorem dL_law_514 : decode cL_law 514 = .ok (.iload 4, 2) := by decide +kernel
theorem dL_law_516 : decode cL_law 516 = .ok (.iconst 3, 1) := by decide +kernel
theorem dL_law_517 : decode cL_law 517 = .ok (.iadd, 1) := by decide +kernel
theorem dL_law_518 : decode cL_law 518 = .ok (.iaload, 1) := by decide +kernel
theorem dL_law_519 : decode cL_law 519 = .ok (.aload_n 0, 1) := by decide +kernel
theorem dL_law_520 : decode cL_law 520 = .ok (.iload 4, 2) := by decide +kernel
theorem dL_law_522 : decode cL_law 522 = .ok (.iconst 4, 1) := by decide +kernel
theorem dL_law_523 : decode cL_law 523 = .ok (.iadd, 1) := by decide +kernel
theorem dL_law_524 : decode cL_law 524 = .ok (.iaload, 1) := by decide +kernel
theorem dL_law_525 : decode cL_law 525 = .ok (.ifCond .eq 7, 3) := by decide +kernel
theorem dL_law_528 : decode cL_law 528 = .ok (.iconst 1, 1) := by decide +kernel
theorem dL_law_529 : decode cL_law 529 = .ok (.goto 4, 3) := by decide +kernel
theorem dL_law_532 : decode cL_law 532 = .ok (.iconst 0, 1) := by decide +kernel
theorem dL_law_533 : decode cL_law 533 = .ok (.aload_n 3, 1) := by decide +kernel
theorem dL_law_534 : decode cL_law 534 = .ok (.invokestatic 88, 3) := by decide +kernel
theorem dL_law_537 : decode cL_law 537 = .ok (.istore 5, 2) := by decide +kernel
theorem dL_law_539 : decode cL_law 539 = .ok (.aload_n 2, 1) := by decide +kernel
theorem dL_law_540 : decode cL_law 540 = .ok (.aload_n 0, 1) := by decide +kernel
theorem dL_law_541 : decode cL_law 541 = .ok (.iload 4, 2) := by decide +kernel
theorem dL_law_543 : decode cL_law 543 = .ok (.iconst 1, 1) := by decide +kernel
theorem dL_law_544 : decode cL_law 544 = .ok (.iadd, 1) := by decide +kernel
theorem dL_law_545 : decode cL_law 545 = .ok (.iaload, 1) := by decide +kernel
theorem dL_law_546 : decode cL_law 546 = .ok (.aload_n 0, 1) := by decide +kernel
theorem dL_law_547 : decode cL_law 547 = .ok (.iload 4, 2) := by decide +kernel
theorem dL_law_549 : decode cL_law 549 = .ok (.iconst 2, 1) := by decide +kernel
theorem dL_law_550 : decode cL_law 550 = .ok (.iadd, 1) := by decide +kernel
theorem dL_law_551 : decode cL_law 551 = .ok (.iaload, 1) := by decide +kernel
theorem dL_law_552 : decode cL_law 552 = .ok (.aload_n 0, 1) := by decide +kernel
theorem dL_law_553 : decode cL_law 553 = .ok (.iload 4, 2) := by decide +kernel
theorem dL_law_555 : decode cL_law 555 = .ok (.iconst 3, 1) := by decide +kernel
theorem dL_law_556 : decode cL_law 556 = .ok (.iadd, 1) := by decide +kernel
theorem dL_law_557 : decode cL_law 557 = .ok (.iaload, 1) := by decide +kernel
theorem dL_law_558 : decode cL_law 558 = .ok (.aload_n 0, 1) := by decide +kernel
theorem dL_law_559 : decode cL_law 559 = .ok (.iload 4, 2) := by decide +kernel
theorem dL_law_561 : decode cL_law 561 = .ok (.iconst 4, 1) := by decide +kernel
theorem dL_law_562 : decode cL_law 562 = .ok (.iadd, 1) := by decide +kernel
theorem dL_law_563 : decode cL_law 563 = .ok (.iaload, 1) := by decide +kernel
theorem dL_law_564 : decode cL_law 564 = .ok (.ifCond .eq 7, 3) := by decide +kernel
theorem dL_law_567 : decode cL_law 567 = .ok (.iconst 1, 1) := by decide +kernel
theorem dL_law_568 : decode cL_law 568 = .ok (.goto 4, 3) := by decide +kernel
theorem dL_law_571 : decode cL_law 571 = .ok (.iconst 0, 1) := by decide +kernel
theorem dL_law_572 : decode cL_law 572 = .ok (.invokevirtual 91, 3) := by decide +kernel
theorem dL_law_575 : decode cL_law 575 = .ok (.istore 6, 2) := by decide +kernel
theorem dL_law_577 : decode cL_law 577 = .ok (.aload_n 2, 1) := by decide +kernel
theorem dL_law_578 : decode cL_law 578 = .ok (.invokevirtual 69, 3) := by decide +kernel
theorem dL_law_581 : decode cL_law 581 = .ok (.iload 5, 2) := by decide +kernel
theorem dL_law_583 : decode cL_law 583 = .ok (.if_icmp .eq 5, 3) := by decide +kernel
theorem dL_law_586 : decode cL_law 586 = .ok (.iconst 0, 1) := by decide +kernel
theorem dL_law_587 : decode cL_law 587 = .ok (.ireturn, 1) := by decide +kernel
theorem dL_law_588 : decode cL_law 588 = .ok (.iload 5, 2) := by decide +kernel
theorem dL_law_590 : decode cL_law 590 = .ok (.ifCond .ne 15, 3) := by decide +kernel
theorem dL_law_593 : decode cL_law 593 = .ok (.aload_n 3, 1) := by decide +kernel
theorem dL_law_594 : decode cL_law 594 = .ok (.iconst 0, 1) := by decide +kernel
theorem dL_law_595 : decode cL_law 595 = .ok (.laload, 1) := by decide +kernel
theorem dL_law_596 : decode cL_law 596 = .ok (.iload 6, 2) := by decide +kernel
theorem dL_law_598 : decode cL_law 598 = .ok (.i2l, 1) := by decide +kernel
theorem dL_law_599 : decode cL_law 599 = .ok (.lcmp, 1) := by decide +kernel
theorem dL_law_600 : decode cL_law 600 = .ok (.ifCond .eq 5, 3) := by decide +kernel
theorem dL_law_603 : decode cL_law 603 = .ok (.iconst 0, 1) := by decide +kernel
theorem dL_law_604 : decode cL_law 604 = .ok (.ireturn, 1) := by decide +kernel
theorem dL_law_605 : decode cL_law 605 = .ok (.goto 625, 3) := by decide +kernel
theorem dL_law_608 : decode cL_law 608 = .ok (.aload_n 1, 1) := by decide +kernel
theorem dL_law_609 : decode cL_law 609 = .ok (.aload_n 0, 1) := by decide +kernel
theorem dL_law_610 : decode cL_law 610 = .ok (.iload 4, 2) := by decide +kernel
theorem dL_law_612 : decode cL_law 612 = .ok (.iconst 1, 1) := by decide +kernel
theorem dL_law_613 : decode cL_law 613 = .ok (.iadd, 1) := by decide +kernel
theorem dL_law_614 : decode cL_law 614 = .ok (.iaload, 1) := by decide +kernel
theorem dL_law_615 : decode cL_law 615 = .ok (.aload_n 0, 1) := by decide +kernel
theorem dL_law_616 : decode cL_law 616 = .ok (.iload 4, 2) := by decide +kernel
theorem dL_law_618 : decode cL_law 618 = .ok (.iconst 2, 1) := by decide +kernel
theorem dL_law_619 : decode cL_law 619 = .ok (.iadd, 1) := by decide +kernel
theorem dL_law_620 : decode cL_law 620 = .ok (.iaload, 1) := by decide +kernel
theorem dL_law_621 : decode cL_law 621 = .ok (.aload_n 0, 1) := by decide +kernel
theorem dL_law_622 : decode cL_law 622 = .ok (.iload 4, 2) := by decide +kernel
theorem dL_law_624 : decode cL_law 624 = .ok (.iconst 3, 1) := by decide +kernel
theorem dL_law_625 : decode cL_law 625 = .ok (.iadd, 1) := by decide +kernel
theorem dL_law_626 : decode cL_law 626 = .ok (.iaload, 1) := by decide +kernel
theorem dL_law_627 : decode cL_law 627 = .ok (.aload_n 0, 1) := by decide +kernel
theorem dL_law_628 : decode cL_law 628 = .ok (.iload 4, 2) := by decide +kernel
theorem dL_law_630 : decode cL_law 630 = .ok (.iconst 4, 1) := by decide +kernel
theorem dL_law_631 : decode cL_law 631 = .ok (.iadd, 1) := by decide +kernel
theorem dL_law_632 : decode cL_law 632 = .ok (.iaload, 1) := by decide +kernel
theorem dL_law_633 : decode cL_law 633 = .ok (.aload_n 3, 1) := by decide +kernel
theorem dL_law_634 : decode cL_law 634 = .ok (.invokestatic 92, 3) := by decide +kernel
theorem dL_law_637 : decode cL_law 637 = .ok (.istore 5, 2) := by decide +kernel
theorem dL_law_639 : decode cL_law 639 = .ok (.aload_n 2, 1) := by decide +kernel
theorem dL_law_640 : decode cL_law 640 = .ok (.aload_n 0, 1) := by decide +kernel
theorem dL_law_641 : decode cL_law 641 = .ok (.iload 4, 2) := by decide +kernel
theorem dL_law_643 : decode cL_law 643 = .ok (.iconst 1, 1) := by decide +kernel
theorem dL_law_644 : decode cL_law 644 = .ok (.iadd, 1) := by decide +kernel
theorem dL_law_645 : decode cL_law 645 = .ok (.iaload, 1) := by decide +kernel
theorem dL_law_646 : decode cL_law 646 = .ok (.aload_n 0, 1) := by decide +kernel
theorem dL_law_647 : decode cL_law 647 = .ok (.iload 4, 2) := by decide +kernel
theorem dL_law_649 : decode cL_law 649 = .ok (.iconst 2, 1) := by decide +kernel
theorem dL_law_650 : decode cL_law 650 = .ok (.iadd, 1) := by decide +kernel
theorem dL_law_651 : decode cL_law 651 = .ok (.iaload, 1) := by decide +kernel
theorem dL_law_652 : decode cL_law 652 = .ok (.aload_n 0, 1) := by decide +kernel
theorem dL_law_653 : decode cL_law 653 = .ok (.iload 4, 2) := by decide +kernel
end
section
theorem dL_law_655 : decode cL_law 655 = .ok (.iconst 3, 1) := by decide +kernel
theorem dL_law_656 : decode cL_law 656 = .ok (.iadd, 1) := by decide +kernel
theorem dL_law_657 : decode cL_law 657 = .ok (.iaload, 1) := by decide +kernel
theorem dL_law_658 : decode cL_law 658 = .ok (.aload_n 0, 1) := by decide +kernel
theorem dL_law_659 : decode cL_law 659 = .ok (.iload 4, 2) := by decide +kernel
theorem dL_law_661 : decode cL_law 661 = .ok (.iconst 4, 1) := by decide +kernel
theorem dL_law_662 : decode cL_law 662 = .ok (.iadd, 1) := by decide +kernel
theorem dL_law_663 : decode cL_law 663 = .ok (.iaload, 1) := by decide +kernel
theorem dL_law_664 : decode cL_law 664 = .ok (.invokevirtual 94, 3) := by decide +kernel
theorem dL_law_667 : decode cL_law 667 = .ok (.istore 6, 2) := by decide +kernel
theorem dL_law_669 : decode cL_law 669 = .ok (.aload_n 2, 1) := by decide +kernel
theorem dL_law_670 : decode cL_law 670 = .ok (.invokevirtual 69, 3) := by decide +kernel
theorem dL_law_673 : decode cL_law 673 = .ok (.iload 5, 2) := by decide +kernel
theorem dL_law_675 : decode cL_law 675 = .ok (.if_icmp .eq 5, 3) := by decide +kernel
theorem dL_law_678 : decode cL_law 678 = .ok (.iconst 0, 1) := by decide +kernel
theorem dL_law_679 : decode cL_law 679 = .ok (.ireturn, 1) := by decide +kernel
theorem dL_law_680 : decode cL_law 680 = .ok (.iload 5, 2) := by decide +kernel
theorem dL_law_682 : decode cL_law 682 = .ok (.ifCond .ne 15, 3) := by decide +kernel
theorem dL_law_685 : decode cL_law 685 = .ok (.aload_n 3, 1) := by decide +kernel
theorem dL_law_686 : decode cL_law 686 = .ok (.iconst 0, 1) := by decide +kernel
theorem dL_law_687 : decode cL_law 687 = .ok (.laload, 1) := by decide +kernel
theorem dL_law_688 : decode cL_law 688 = .ok (.iload 6, 2) := by decide +kernel
theorem dL_law_690 : decode cL_law 690 = .ok (.i2l, 1) := by decide +kernel
theorem dL_law_691 : decode cL_law 691 = .ok (.lcmp, 1) := by decide +kernel
theorem dL_law_692 : decode cL_law 692 = .ok (.ifCond .eq 5, 3) := by decide +kernel
theorem dL_law_695 : decode cL_law 695 = .ok (.iconst 0, 1) := by decide +kernel
theorem dL_law_696 : decode cL_law 696 = .ok (.ireturn, 1) := by decide +kernel
theorem dL_law_697 : decode cL_law 697 = .ok (.goto 533, 3) := by decide +kernel
theorem dL_law_700 : decode cL_law 700 = .ok (.aload_n 1, 1) := by decide +kernel
theorem dL_law_701 : decode cL_law 701 = .ok (.aload_n 0, 1) := by decide +kernel
theorem dL_law_702 : decode cL_law 702 = .ok (.iload 4, 2) := by decide +kernel
theorem dL_law_704 : decode cL_law 704 = .ok (.iconst 1, 1) := by decide +kernel
theorem dL_law_705 : decode cL_law 705 = .ok (.iadd, 1) := by decide +kernel
theorem dL_law_706 : decode cL_law 706 = .ok (.iaload, 1) := by decide +kernel
theorem dL_law_707 : decode cL_law 707 = .ok (.aload_n 0, 1) := by decide +kernel
theorem dL_law_708 : decode cL_law 708 = .ok (.iload 4, 2) := by decide +kernel
theorem dL_law_710 : decode cL_law 710 = .ok (.iconst 2, 1) := by decide +kernel
theorem dL_law_711 : decode cL_law 711 = .ok (.iadd, 1) := by decide +kernel
theorem dL_law_712 : decode cL_law 712 = .ok (.iaload, 1) := by decide +kernel
theorem dL_law_713 : decode cL_law 713 = .ok (.aload_n 0, 1) := by decide +kernel
theorem dL_law_714 : decode cL_law 714 = .ok (.iload 4, 2) := by decide +kernel
theorem dL_law_716 : decode cL_law 716 = .ok (.iconst 3, 1) := by decide +kernel
theorem dL_law_717 : decode cL_law 717 = .ok (.iadd, 1) := by decide +kernel
theorem dL_law_718 : decode cL_law 718 = .ok (.iaload, 1) := by decide +kernel
theorem dL_law_719 : decode cL_law 719 = .ok (.aload_n 0, 1) := by decide +kernel
theorem dL_law_720 : decode cL_law 720 = .ok (.iload 4, 2) := by decide +kernel
theorem dL_law_722 : decode cL_law 722 = .ok (.iconst 4, 1) := by decide +kernel
theorem dL_law_723 : decode cL_law 723 = .ok (.iadd, 1) := by decide +kernel
theorem dL_law_724 : decode cL_law 724 = .ok (.iaload, 1) := by decide +kernel
theorem dL_law_725 : decode cL_law 725 = .ok (.aload_n 3, 1) := by decide +kernel
theorem dL_law_726 : decode cL_law 726 = .ok (.invokestatic 95, 3) := by decide +kernel
theorem dL_law_729 : decode cL_law 729 = .ok (.istore 5, 2) := by decide +kernel
theorem dL_law_731 : decode cL_law 731 = .ok (.aload_n 2, 1) := by decide +kernel
theorem dL_law_732 : decode cL_law 732 = .ok (.aload_n 0, 1) := by decide +kernel
theorem dL_law_733 : decode cL_law 733 = .ok (.iload 4, 2) := by decide +kernel
theorem dL_law_735 : decode cL_law 735 = .ok (.iconst 1, 1) := by decide +kernel
theorem dL_law_736 : decode cL_law 736 = .ok (.iadd, 1) := by decide +kernel
theorem dL_law_737 : decode cL_law 737 = .ok (.iaload, 1) := by decide +kernel
theorem dL_law_738 : decode cL_law 738 = .ok (.aload_n 0, 1) := by decide +kernel
theorem dL_law_739 : decode cL_law 739 = .ok (.iload 4, 2) := by decide +kernel
theorem dL_law_741 : decode cL_law 741 = .ok (.iconst 2, 1) := by decide +kernel
theorem dL_law_742 : decode cL_law 742 = .ok (.iadd, 1) := by decide +kernel
theorem dL_law_743 : decode cL_law 743 = .ok (.iaload, 1) := by decide +kernel
theorem dL_law_744 : decode cL_law 744 = .ok (.aload_n 0, 1) := by decide +kernel
theorem dL_law_745 : decode cL_law 745 = .ok (.iload 4, 2) := by decide +kernel
theorem dL_law_747 : decode cL_law 747 = .ok (.iconst 3, 1) := by decide +kernel
theorem dL_law_748 : decode cL_law 748 = .ok (.iadd, 1) := by decide +kernel
theorem dL_law_749 : decode cL_law 749 = .ok (.iaload, 1) := by decide +kernel
theorem dL_law_750 : decode cL_law 750 = .ok (.aload_n 0, 1) := by decide +kernel
theorem dL_law_751 : decode cL_law 751 = .ok (.iload 4, 2) := by decide +kernel
theorem dL_law_753 : decode cL_law 753 = .ok (.iconst 4, 1) := by decide +kernel
theorem dL_law_754 : decode cL_law 754 = .ok (.iadd, 1) := by decide +kernel
theorem dL_law_755 : decode cL_law 755 = .ok (.iaload, 1) := by decide +kernel
theorem dL_law_756 : decode cL_law 756 = .ok (.invokevirtual 97, 3) := by decide +kernel
theorem dL_law_759 : decode cL_law 759 = .ok (.istore 6, 2) := by decide +kernel
theorem dL_law_761 : decode cL_law 761 = .ok (.aload_n 2, 1) := by decide +kernel
theorem dL_law_762 : decode cL_law 762 = .ok (.invokevirtual 69, 3) := by decide +kernel
theorem dL_law_765 : decode cL_law 765 = .ok (.iload 5, 2) := by decide +kernel
theorem dL_law_767 : decode cL_law 767 = .ok (.if_icmp .eq 5, 3) := by decide +kernel
theorem dL_law_770 : decode cL_law 770 = .ok (.iconst 0, 1) := by decide +kernel
theorem dL_law_771 : decode cL_law 771 = .ok (.ireturn, 1) := by decide +kernel
theorem dL_law_772 : decode cL_law 772 = .ok (.iload 5, 2) := by decide +kernel
theorem dL_law_774 : decode cL_law 774 = .ok (.ifCond .ne 15, 3) := by decide +kernel
theorem dL_law_777 : decode cL_law 777 = .ok (.aload_n 3, 1) := by decide +kernel
theorem dL_law_778 : decode cL_law 778 = .ok (.iconst 0, 1) := by decide +kernel
theorem dL_law_779 : decode cL_law 779 = .ok (.laload, 1) := by decide +kernel
theorem dL_law_780 : decode cL_law 780 = .ok (.iload 6, 2) := by decide +kernel
theorem dL_law_782 : decode cL_law 782 = .ok (.i2l, 1) := by decide +kernel
theorem dL_law_783 : decode cL_law 783 = .ok (.lcmp, 1) := by decide +kernel
theorem dL_law_784 : decode cL_law 784 = .ok (.ifCond .eq 5, 3) := by decide +kernel
theorem dL_law_787 : decode cL_law 787 = .ok (.iconst 0, 1) := by decide +kernel
theorem dL_law_788 : decode cL_law 788 = .ok (.ireturn, 1) := by decide +kernel
theorem dL_law_789 : decode cL_law 789 = .ok (.goto 441, 3) := by decide +kernel
theorem dL_law_792 : decode cL_law 792 = .ok (.aload_n 1, 1) := by decide +kernel
theorem dL_law_793 : decode cL_law 793 = .ok (.aload_n 0, 1) := by decide +kernel
theorem dL_law_794 : decode cL_law 794 = .ok (.iload 4, 2) := by decide +kernel
theorem dL_law_796 : decode cL_law 796 = .ok (.iconst 1, 1) := by decide +kernel
theorem dL_law_797 : decode cL_law 797 = .ok (.iadd, 1) := by decide +kernel
theorem dL_law_798 : decode cL_law 798 = .ok (.iaload, 1) := by decide +kernel
theorem dL_law_799 : decode cL_law 799 = .ok (.aload_n 3, 1) := by decide +kernel
theorem dL_law_800 : decode cL_law 800 = .ok (.invokestatic 98, 3) := by decide +kernel
theorem dL_law_803 : decode cL_law 803 = .ok (.istore 5, 2) := by decide +kernel
theorem dL_law_805 : decode cL_law 805 = .ok (.aload_n 2, 1) := by decide +kernel
theorem dL_law_806 : decode cL_law 806 = .ok (.aload_n 0, 1) := by decide +kernel
theorem dL_law_807 : decode cL_law 807 = .ok (.iload 4, 2) := by decide +kernel
theorem dL_law_809 : decode cL_law 809 = .ok (.iconst 1, 1) := by decide +kernel
theorem dL_law_810 : decode cL_law 810 = .ok (.iadd, 1) := by decide +kernel
theorem dL_law_811 : decode cL_law 811 = .ok (.iaload, 1) := by decide +kernel
theorem dL_law_812 : decode cL_law 812 = .ok (.invokevirtual 100, 3) := by decide +kernel
theorem dL_law_815 : decode cL_law 815 = .ok (.istore 6, 2) := by decide +kernel
theorem dL_law_817 : decode cL_law 817 = .ok (.aload_n 2, 1) := by decide +kernel
theorem dL_law_818 : decode cL_law 818 = .ok (.invokevirtual 69, 3) := by decide +kernel
theorem dL_law_821 : decode cL_law 821 = .ok (.iload 5, 2) := by decide +kernel
theorem dL_law_823 : decode cL_law 823 = .ok (.if_icmp .eq 5, 3) := by decide +kernel
theorem dL_law_826 : decode cL_law 826 = .ok (.iconst 0, 1) := by decide +kernel
theorem dL_law_827 : decode cL_law 827 = .ok (.ireturn, 1) := by decide +kernel
theorem dL_law_828 : decode cL_law 828 = .ok (.iload 5, 2) := by decide +kernel
theorem dL_law_830 : decode cL_law 830 = .ok (.ifCond .ne 15, 3) := by decide +kernel
theorem dL_law_833 : decode cL_law 833 = .ok (.aload_n 3, 1) := by decide +kernel
theorem dL_law_834 : decode cL_law 834 = .ok (.iconst 0, 1) := by decide +kernel
theorem dL_law_835 : decode cL_law 835 = .ok (.laload, 1) := by decide +kernel
theorem dL_law_836 : decode cL_law 836 = .ok (.iload 6, 2) := by decide +kernel
theorem dL_law_838 : decode cL_law 838 = .ok (.i2l, 1) := by decide +kernel
theorem dL_law_839 : decode cL_law 839 = .ok (.lcmp, 1) := by decide +kernel
theorem dL_law_840 : decode cL_law 840 = .ok (.ifCond .eq 5, 3) := by decide +kernel
theorem dL_law_843 : decode cL_law 843 = .ok (.iconst 0, 1) := by decide +kernel
theorem dL_law_844 : decode cL_law 844 = .ok (.ireturn, 1) := by decide +kernel
theorem dL_law_845 : decode cL_law 845 = .ok (.goto 385, 3) := by decide +kernel
theorem dL_law_848 : decode cL_law 848 = .ok (.aload_n 1, 1) := by decide +kernel
theorem dL_law_849 : decode cL_law 849 = .ok (.aload_n 0, 1) := by decide +kernel
theorem dL_law_850 : decode cL_law 850 = .ok (.iload 4, 2) := by decide +kernel
theorem dL_law_852 : decode cL_law 852 = .ok (.iconst 1, 1) := by decide +kernel
theorem dL_law_853 : decode cL_law 853 = .ok (.iadd, 1) := by decide +kernel
theorem dL_law_854 : decode cL_law 854 = .ok (.iaload, 1) := by decide +kernel
theorem dL_law_855 : decode cL_law 855 = .ok (.aload_n 0, 1) := by decide +kernel
theorem dL_law_856 : decode cL_law 856 = .ok (.iload 4, 2) := by decide +kernel
theorem dL_law_858 : decode cL_law 858 = .ok (.iconst 2, 1) := by decide +kernel
theorem dL_law_859 : decode cL_law 859 = .ok (.iadd, 1) := by decide +kernel
theorem dL_law_860 : decode cL_law 860 = .ok (.iaload, 1) := by decide +kernel
theorem dL_law_861 : decode cL_law 861 = .ok (.aload_n 3, 1) := by decide +kernel
theorem dL_law_862 : decode cL_law 862 = .ok (.invokestatic 101, 3) := by decide +kernel
theorem dL_law_865 : decode cL_law 865 = .ok (.istore 5, 2) := by decide +kernel
theorem dL_law_867 : decode cL_law 867 = .ok (.aload_n 2, 1) := by decide +kernel
theorem dL_law_868 : decode cL_law 868 = .ok (.aload_n 0, 1) := by decide +kernel
theorem dL_law_869 : decode cL_law 869 = .ok (.iload 4, 2) := by decide +kernel
theorem dL_law_871 : decode cL_law 871 = .ok (.iconst 1, 1) := by decide +kernel
theorem dL_law_872 : decode cL_law 872 = .ok (.iadd, 1) := by decide +kernel
theorem dL_law_873 : decode cL_law 873 = .ok (.iaload, 1) := by decide +kernel
theorem dL_law_874 : decode cL_law 874 = .ok (.aload_n 0, 1) := by decide +kernel
theorem dL_law_875 : decode cL_law 875 = .ok (.iload 4, 2) := by decide +kernel
theorem dL_law_877 : decode cL_law 877 = .ok (.iconst 2, 1) := by decide +kernel
theorem dL_law_878 : decode cL_law 878 = .ok (.iadd, 1) := by decide +kernel
theorem dL_law_879 : decode cL_law 879 = .ok (.iaload, 1) := by decide +kernel
theorem dL_law_880 : decode cL_law 880 = .ok (.invokevirtual 103, 3) := by decide +kernel
theorem dL_law_883 : decode cL_law 883 = .ok (.istore 6, 2) := by decide +kernel
theorem dL_law_885 : decode cL_law 885 = .ok (.aload_n 2, 1) := by decide +kernel
theorem dL_law_886 : decode cL_law 886 = .ok (.invokevirtual 69, 3) := by decide +kernel
theorem dL_law_889 : decode cL_law 889 = .ok (.iload 5, 2) := by decide +kernel
theorem dL_law_891 : decode cL_law 891 = .ok (.if_icmp .eq 5, 3) := by decide +kernel
theorem dL_law_894 : decode cL_law 894 = .ok (.iconst 0, 1) := by decide +kernel
theorem dL_law_895 : decode cL_law 895 = .ok (.ireturn, 1) := by decide +kernel
theorem dL_law_896 : decode cL_law 896 = .ok (.iload 5, 2) := by decide +kernel
theorem dL_law_898 : decode cL_law 898 = .ok (.ifCond .ne 15, 3) := by decide +kernel
theorem dL_law_901 : decode cL_law 901 = .ok (.aload_n 3, 1) := by decide +kernel
theorem dL_law_902 : decode cL_law 902 = .ok (.iconst 0, 1) := by decide +kernel
theorem dL_law_903 : decode cL_law 903 = .ok (.laload, 1) := by decide +kernel
theorem dL_law_904 : decode cL_law 904 = .ok (.iload 6, 2) := by decide +kernel
theorem dL_law_906 : decode cL_law 906 = .ok (.i2l, 1) := by decide +kernel
theorem dL_law_907 : decode cL_law 907 = .ok (.lcmp, 1) := by decide +kernel
theorem dL_law_908 : decode cL_law 908 = .ok (.ifCond .eq 5, 3) := by decide +kernel
theorem dL_law_911 : decode cL_law 911 = .ok (.iconst 0, 1) := by decide +kernel
theorem dL_law_912 : decode cL_law 912 = .ok (.ireturn, 1) := by decide +kernel
theorem dL_law_913 : decode cL_law 913 = .ok (.goto 317, 3) := by decide +kernel
theorem dL_law_916 : decode cL_law 916 = .ok (.aload_n 1, 1) := by decide +kernel
theorem dL_law_917 : decode cL_law 917 = .ok (.aload_n 0, 1) := by decide +kernel
theorem dL_law_918 : decode cL_law 918 = .ok (.iload 4, 2) := by decide +kernel
theorem dL_law_920 : decode cL_law 920 = .ok (.iconst 1, 1) := by decide +kernel
theorem dL_law_921 : decode cL_law 921 = .ok (.iadd, 1) := by decide +kernel
theorem dL_law_922 : decode cL_law 922 = .ok (.iaload, 1) := by decide +kernel
theorem dL_law_923 : decode cL_law 923 = .ok (.aload_n 0, 1) := by decide +kernel
theorem dL_law_924 : decode cL_law 924 = .ok (.iload 4, 2) := by decide +kernel
theorem dL_law_926 : decode cL_law 926 = .ok (.iconst 2, 1) := by decide +kernel
theorem dL_law_927 : decode cL_law 927 = .ok (.iadd, 1) := by decide +kernel
theorem dL_law_928 : decode cL_law 928 = .ok (.iaload, 1) := by decide +kernel
theorem dL_law_929 : decode cL_law 929 = .ok (.aload_n 0, 1) := by decide +kernel
theorem dL_law_930 : decode cL_law 930 = .ok (.iload 4, 2) := by decide +kernel
theorem dL_law_932 : decode cL_law 932 = .ok (.iconst 3, 1) := by decide +kernel
theorem dL_law_933 : decode cL_law 933 = .ok (.iadd, 1) := by decide +kernel
theorem dL_law_934 : decode cL_law 934 = .ok (.iaload, 1) := by decide +kernel
theorem dL_law_935 : decode cL_law 935 = .ok (.i2l, 1) := by decide +kernel
theorem dL_law_936 : decode cL_law 936 = .ok (.bipush 32, 2) := by decide +kernel
theorem dL_law_938 : decode cL_law 938 = .ok (.lshl, 1) := by decide +kernel
theorem dL_law_939 : decode cL_law 939 = .ok (.aload_n 0, 1) := by decide +kernel
theorem dL_law_940 : decode cL_law 940 = .ok (.iload 4, 2) := by decide +kernel
theorem dL_law_942 : decode cL_law 942 = .ok (.iconst 4, 1) := by decide +kernel
theorem dL_law_943 : decode cL_law 943 = .ok (.iadd, 1) := by decide +kernel
theorem dL_law_944 : decode cL_law 944 = .ok (.iaload, 1) := by decide +kernel
theorem dL_law_945 : decode cL_law 945 = .ok (.i2l, 1) := by decide +kernel
theorem dL_law_946 : decode cL_law 946 = .ok (.ldc2_w 104, 3) := by decide +kernel
theorem dL_law_949 : decode cL_law 949 = .ok (.land, 1) := by decide +kernel
end
section
theorem dL_law_950 : decode cL_law 950 = .ok (.lor, 1) := by decide +kernel
theorem dL_law_951 : decode cL_law 951 = .ok (.aload_n 0, 1) := by decide +kernel
theorem dL_law_952 : decode cL_law 952 = .ok (.iload 4, 2) := by decide +kernel
theorem dL_law_954 : decode cL_law 954 = .ok (.iconst 5, 1) := by decide +kernel
theorem dL_law_955 : decode cL_law 955 = .ok (.iadd, 1) := by decide +kernel
theorem dL_law_956 : decode cL_law 956 = .ok (.iaload, 1) := by decide +kernel
theorem dL_law_957 : decode cL_law 957 = .ok (.i2l, 1) := by decide +kernel
theorem dL_law_958 : decode cL_law 958 = .ok (.bipush 32, 2) := by decide +kernel
theorem dL_law_960 : decode cL_law 960 = .ok (.lshl, 1) := by decide +kernel
theorem dL_law_961 : decode cL_law 961 = .ok (.aload_n 0, 1) := by decide +kernel
theorem dL_law_962 : decode cL_law 962 = .ok (.iload 4, 2) := by decide +kernel
theorem dL_law_964 : decode cL_law 964 = .ok (.bipush 6, 2) := by decide +kernel
theorem dL_law_966 : decode cL_law 966 = .ok (.iadd, 1) := by decide +kernel
theorem dL_law_967 : decode cL_law 967 = .ok (.iaload, 1) := by decide +kernel
theorem dL_law_968 : decode cL_law 968 = .ok (.i2l, 1) := by decide +kernel
theorem dL_law_969 : decode cL_law 969 = .ok (.ldc2_w 104, 3) := by decide +kernel
theorem dL_law_972 : decode cL_law 972 = .ok (.land, 1) := by decide +kernel
theorem dL_law_973 : decode cL_law 973 = .ok (.lor, 1) := by decide +kernel
theorem dL_law_974 : decode cL_law 974 = .ok (.aload_n 3, 1) := by decide +kernel
theorem dL_law_975 : decode cL_law 975 = .ok (.invokestatic 106, 3) := by decide +kernel
theorem dL_law_978 : decode cL_law 978 = .ok (.istore 5, 2) := by decide +kernel
theorem dL_law_980 : decode cL_law 980 = .ok (.aload_n 2, 1) := by decide +kernel
theorem dL_law_981 : decode cL_law 981 = .ok (.aload_n 0, 1) := by decide +kernel
theorem dL_law_982 : decode cL_law 982 = .ok (.iload 4, 2) := by decide +kernel
theorem dL_law_984 : decode cL_law 984 = .ok (.iconst 1, 1) := by decide +kernel
theorem dL_law_985 : decode cL_law 985 = .ok (.iadd, 1) := by decide +kernel
theorem dL_law_986 : decode cL_law 986 = .ok (.iaload, 1) := by decide +kernel
theorem dL_law_987 : decode cL_law 987 = .ok (.aload_n 0, 1) := by decide +kernel
theorem dL_law_988 : decode cL_law 988 = .ok (.iload 4, 2) := by decide +kernel
theorem dL_law_990 : decode cL_law 990 = .ok (.iconst 2, 1) := by decide +kernel
theorem dL_law_991 : decode cL_law 991 = .ok (.iadd, 1) := by decide +kernel
theorem dL_law_992 : decode cL_law 992 = .ok (.iaload, 1) := by decide +kernel
theorem dL_law_993 : decode cL_law 993 = .ok (.aload_n 0, 1) := by decide +kernel
theorem dL_law_994 : decode cL_law 994 = .ok (.iload 4, 2) := by decide +kernel
theorem dL_law_996 : decode cL_law 996 = .ok (.iconst 3, 1) := by decide +kernel
theorem dL_law_997 : decode cL_law 997 = .ok (.iadd, 1) := by decide +kernel
theorem dL_law_998 : decode cL_law 998 = .ok (.iaload, 1) := by decide +kernel
theorem dL_law_999 : decode cL_law 999 = .ok (.i2l, 1) := by decide +kernel
theorem dL_law_1000 : decode cL_law 1000 = .ok (.bipush 32, 2) := by decide +kernel
theorem dL_law_1002 : decode cL_law 1002 = .ok (.lshl, 1) := by decide +kernel
theorem dL_law_1003 : decode cL_law 1003 = .ok (.aload_n 0, 1) := by decide +kernel
theorem dL_law_1004 : decode cL_law 1004 = .ok (.iload 4, 2) := by decide +kernel
theorem dL_law_1006 : decode cL_law 1006 = .ok (.iconst 4, 1) := by decide +kernel
theorem dL_law_1007 : decode cL_law 1007 = .ok (.iadd, 1) := by decide +kernel
theorem dL_law_1008 : decode cL_law 1008 = .ok (.iaload, 1) := by decide +kernel
theorem dL_law_1009 : decode cL_law 1009 = .ok (.i2l, 1) := by decide +kernel
theorem dL_law_1010 : decode cL_law 1010 = .ok (.ldc2_w 104, 3) := by decide +kernel
theorem dL_law_1013 : decode cL_law 1013 = .ok (.land, 1) := by decide +kernel
theorem dL_law_1014 : decode cL_law 1014 = .ok (.lor, 1) := by decide +kernel
theorem dL_law_1015 : decode cL_law 1015 = .ok (.aload_n 0, 1) := by decide +kernel
theorem dL_law_1016 : decode cL_law 1016 = .ok (.iload 4, 2) := by decide +kernel
theorem dL_law_1018 : decode cL_law 1018 = .ok (.iconst 5, 1) := by decide +kernel
theorem dL_law_1019 : decode cL_law 1019 = .ok (.iadd, 1) := by decide +kernel
theorem dL_law_1020 : decode cL_law 1020 = .ok (.iaload, 1) := by decide +kernel
theorem dL_law_1021 : decode cL_law 1021 = .ok (.i2l, 1) := by decide +kernel
theorem dL_law_1022 : decode cL_law 1022 = .ok (.bipush 32, 2) := by decide +kernel
theorem dL_law_1024 : decode cL_law 1024 = .ok (.lshl, 1) := by decide +kernel
theorem dL_law_1025 : decode cL_law 1025 = .ok (.aload_n 0, 1) := by decide +kernel
theorem dL_law_1026 : decode cL_law 1026 = .ok (.iload 4, 2) := by decide +kernel
theorem dL_law_1028 : decode cL_law 1028 = .ok (.bipush 6, 2) := by decide +kernel
theorem dL_law_1030 : decode cL_law 1030 = .ok (.iadd, 1) := by decide +kernel
theorem dL_law_1031 : decode cL_law 1031 = .ok (.iaload, 1) := by decide +kernel
theorem dL_law_1032 : decode cL_law 1032 = .ok (.i2l, 1) := by decide +kernel
theorem dL_law_1033 : decode cL_law 1033 = .ok (.ldc2_w 104, 3) := by decide +kernel
theorem dL_law_1036 : decode cL_law 1036 = .ok (.land, 1) := by decide +kernel
theorem dL_law_1037 : decode cL_law 1037 = .ok (.lor, 1) := by decide +kernel
theorem dL_law_1038 : decode cL_law 1038 = .ok (.invokevirtual 109, 3) := by decide +kernel
theorem dL_law_1041 : decode cL_law 1041 = .ok (.istore 6, 2) := by decide +kernel
theorem dL_law_1043 : decode cL_law 1043 = .ok (.aload_n 2, 1) := by decide +kernel
theorem dL_law_1044 : decode cL_law 1044 = .ok (.invokevirtual 69, 3) := by decide +kernel
theorem dL_law_1047 : decode cL_law 1047 = .ok (.iload 5, 2) := by decide +kernel
theorem dL_law_1049 : decode cL_law 1049 = .ok (.if_icmp .eq 5, 3) := by decide +kernel
theorem dL_law_1052 : decode cL_law 1052 = .ok (.iconst 0, 1) := by decide +kernel
theorem dL_law_1053 : decode cL_law 1053 = .ok (.ireturn, 1) := by decide +kernel
theorem dL_law_1054 : decode cL_law 1054 = .ok (.iload 5, 2) := by decide +kernel
theorem dL_law_1056 : decode cL_law 1056 = .ok (.ifCond .ne 15, 3) := by decide +kernel
theorem dL_law_1059 : decode cL_law 1059 = .ok (.aload_n 3, 1) := by decide +kernel
theorem dL_law_1060 : decode cL_law 1060 = .ok (.iconst 0, 1) := by decide +kernel
theorem dL_law_1061 : decode cL_law 1061 = .ok (.laload, 1) := by decide +kernel
theorem dL_law_1062 : decode cL_law 1062 = .ok (.iload 6, 2) := by decide +kernel
theorem dL_law_1064 : decode cL_law 1064 = .ok (.i2l, 1) := by decide +kernel
theorem dL_law_1065 : decode cL_law 1065 = .ok (.lcmp, 1) := by decide +kernel
theorem dL_law_1066 : decode cL_law 1066 = .ok (.ifCond .eq 5, 3) := by decide +kernel
theorem dL_law_1069 : decode cL_law 1069 = .ok (.iconst 0, 1) := by decide +kernel
theorem dL_law_1070 : decode cL_law 1070 = .ok (.ireturn, 1) := by decide +kernel
theorem dL_law_1071 : decode cL_law 1071 = .ok (.goto 159, 3) := by decide +kernel
theorem dL_law_1074 : decode cL_law 1074 = .ok (.aload_n 1, 1) := by decide +kernel
theorem dL_law_1075 : decode cL_law 1075 = .ok (.aload_n 0, 1) := by decide +kernel
theorem dL_law_1076 : decode cL_law 1076 = .ok (.iload 4, 2) := by decide +kernel
theorem dL_law_1078 : decode cL_law 1078 = .ok (.iconst 1, 1) := by decide +kernel
theorem dL_law_1079 : decode cL_law 1079 = .ok (.iadd, 1) := by decide +kernel
theorem dL_law_1080 : decode cL_law 1080 = .ok (.iaload, 1) := by decide +kernel
theorem dL_law_1081 : decode cL_law 1081 = .ok (.aload_n 0, 1) := by decide +kernel
theorem dL_law_1082 : decode cL_law 1082 = .ok (.iload 4, 2) := by decide +kernel
theorem dL_law_1084 : decode cL_law 1084 = .ok (.iconst 2, 1) := by decide +kernel
theorem dL_law_1085 : decode cL_law 1085 = .ok (.iadd, 1) := by decide +kernel
theorem dL_law_1086 : decode cL_law 1086 = .ok (.iaload, 1) := by decide +kernel
theorem dL_law_1087 : decode cL_law 1087 = .ok (.aload_n 3, 1) := by decide +kernel
theorem dL_law_1088 : decode cL_law 1088 = .ok (.invokestatic 110, 3) := by decide +kernel
theorem dL_law_1091 : decode cL_law 1091 = .ok (.istore 5, 2) := by decide +kernel
theorem dL_law_1093 : decode cL_law 1093 = .ok (.aload_n 2, 1) := by decide +kernel
theorem dL_law_1094 : decode cL_law 1094 = .ok (.aload_n 0, 1) := by decide +kernel
theorem dL_law_1095 : decode cL_law 1095 = .ok (.iload 4, 2) := by decide +kernel
theorem dL_law_1097 : decode cL_law 1097 = .ok (.iconst 1, 1) := by decide +kernel
theorem dL_law_1098 : decode cL_law 1098 = .ok (.iadd, 1) := by decide +kernel
theorem dL_law_1099 : decode cL_law 1099 = .ok (.iaload, 1) := by decide +kernel
theorem dL_law_1100 : decode cL_law 1100 = .ok (.aload_n 0, 1) := by decide +kernel
theorem dL_law_1101 : decode cL_law 1101 = .ok (.iload 4, 2) := by decide +kernel
theorem dL_law_1103 : decode cL_law 1103 = .ok (.iconst 2, 1) := by decide +kernel
theorem dL_law_1104 : decode cL_law 1104 = .ok (.iadd, 1) := by decide +kernel
theorem dL_law_1105 : decode cL_law 1105 = .ok (.iaload, 1) := by decide +kernel
theorem dL_law_1106 : decode cL_law 1106 = .ok (.invokevirtual 112, 3) := by decide +kernel
theorem dL_law_1109 : decode cL_law 1109 = .ok (.istore 6, 2) := by decide +kernel
theorem dL_law_1111 : decode cL_law 1111 = .ok (.aload_n 2, 1) := by decide +kernel
theorem dL_law_1112 : decode cL_law 1112 = .ok (.invokevirtual 69, 3) := by decide +kernel
theorem dL_law_1115 : decode cL_law 1115 = .ok (.iload 5, 2) := by decide +kernel
theorem dL_law_1117 : decode cL_law 1117 = .ok (.if_icmp .eq 5, 3) := by decide +kernel
theorem dL_law_1120 : decode cL_law 1120 = .ok (.iconst 0, 1) := by decide +kernel
theorem dL_law_1121 : decode cL_law 1121 = .ok (.ireturn, 1) := by decide +kernel
theorem dL_law_1122 : decode cL_law 1122 = .ok (.iload 5, 2) := by decide +kernel
theorem dL_law_1124 : decode cL_law 1124 = .ok (.ifCond .ne 15, 3) := by decide +kernel
theorem dL_law_1127 : decode cL_law 1127 = .ok (.aload_n 3, 1) := by decide +kernel
theorem dL_law_1128 : decode cL_law 1128 = .ok (.iconst 0, 1) := by decide +kernel
theorem dL_law_1129 : decode cL_law 1129 = .ok (.laload, 1) := by decide +kernel
theorem dL_law_1130 : decode cL_law 1130 = .ok (.iload 6, 2) := by decide +kernel
theorem dL_law_1132 : decode cL_law 1132 = .ok (.i2l, 1) := by decide +kernel
theorem dL_law_1133 : decode cL_law 1133 = .ok (.lcmp, 1) := by decide +kernel
theorem dL_law_1134 : decode cL_law 1134 = .ok (.ifCond .eq 5, 3) := by decide +kernel
theorem dL_law_1137 : decode cL_law 1137 = .ok (.iconst 0, 1) := by decide +kernel
theorem dL_law_1138 : decode cL_law 1138 = .ok (.ireturn, 1) := by decide +kernel
theorem dL_law_1139 : decode cL_law 1139 = .ok (.goto 91, 3) := by decide +kernel
theorem dL_law_1142 : decode cL_law 1142 = .ok (.aload_n 1, 1) := by decide +kernel
theorem dL_law_1143 : decode cL_law 1143 = .ok (.aload_n 0, 1) := by decide +kernel
theorem dL_law_1144 : decode cL_law 1144 = .ok (.iload 4, 2) := by decide +kernel
theorem dL_law_1146 : decode cL_law 1146 = .ok (.iconst 1, 1) := by decide +kernel
theorem dL_law_1147 : decode cL_law 1147 = .ok (.iadd, 1) := by decide +kernel
theorem dL_law_1148 : decode cL_law 1148 = .ok (.iaload, 1) := by decide +kernel
theorem dL_law_1149 : decode cL_law 1149 = .ok (.aload_n 3, 1) := by decide +kernel
theorem dL_law_1150 : decode cL_law 1150 = .ok (.invokestatic 113, 3) := by decide +kernel
theorem dL_law_1153 : decode cL_law 1153 = .ok (.istore 5, 2) := by decide +kernel
theorem dL_law_1155 : decode cL_law 1155 = .ok (.aload_n 2, 1) := by decide +kernel
theorem dL_law_1156 : decode cL_law 1156 = .ok (.aload_n 0, 1) := by decide +kernel
theorem dL_law_1157 : decode cL_law 1157 = .ok (.iload 4, 2) := by decide +kernel
theorem dL_law_1159 : decode cL_law 1159 = .ok (.iconst 1, 1) := by decide +kernel
theorem dL_law_1160 : decode cL_law 1160 = .ok (.iadd, 1) := by decide +kernel
theorem dL_law_1161 : decode cL_law 1161 = .ok (.iaload, 1) := by decide +kernel
theorem dL_law_1162 : decode cL_law 1162 = .ok (.invokevirtual 115, 3) := by decide +kernel
theorem dL_law_1165 : decode cL_law 1165 = .ok (.istore 6, 2) := by decide +kernel
theorem dL_law_1167 : decode cL_law 1167 = .ok (.aload_n 2, 1) := by decide +kernel
theorem dL_law_1168 : decode cL_law 1168 = .ok (.invokevirtual 69, 3) := by decide +kernel
theorem dL_law_1171 : decode cL_law 1171 = .ok (.iload 5, 2) := by decide +kernel
theorem dL_law_1173 : decode cL_law 1173 = .ok (.if_icmp .eq 5, 3) := by decide +kernel
theorem dL_law_1176 : decode cL_law 1176 = .ok (.iconst 0, 1) := by decide +kernel
theorem dL_law_1177 : decode cL_law 1177 = .ok (.ireturn, 1) := by decide +kernel
theorem dL_law_1178 : decode cL_law 1178 = .ok (.iload 5, 2) := by decide +kernel
theorem dL_law_1180 : decode cL_law 1180 = .ok (.ifCond .ne 22, 3) := by decide +kernel
theorem dL_law_1183 : decode cL_law 1183 = .ok (.aload_n 3, 1) := by decide +kernel
theorem dL_law_1184 : decode cL_law 1184 = .ok (.iconst 0, 1) := by decide +kernel
theorem dL_law_1185 : decode cL_law 1185 = .ok (.laload, 1) := by decide +kernel
theorem dL_law_1186 : decode cL_law 1186 = .ok (.iload 6, 2) := by decide +kernel
theorem dL_law_1188 : decode cL_law 1188 = .ok (.ifCond .eq 7, 3) := by decide +kernel
theorem dL_law_1191 : decode cL_law 1191 = .ok (.lconst 1, 1) := by decide +kernel
theorem dL_law_1192 : decode cL_law 1192 = .ok (.goto 4, 3) := by decide +kernel
theorem dL_law_1195 : decode cL_law 1195 = .ok (.lconst 0, 1) := by decide +kernel
theorem dL_law_1196 : decode cL_law 1196 = .ok (.lcmp, 1) := by decide +kernel
theorem dL_law_1197 : decode cL_law 1197 = .ok (.ifCond .eq 5, 3) := by decide +kernel
theorem dL_law_1200 : decode cL_law 1200 = .ok (.iconst 0, 1) := by decide +kernel
theorem dL_law_1201 : decode cL_law 1201 = .ok (.ireturn, 1) := by decide +kernel
theorem dL_law_1202 : decode cL_law 1202 = .ok (.goto 28, 3) := by decide +kernel
theorem dL_law_1205 : decode cL_law 1205 = .ok (.aload_n 1, 1) := by decide +kernel
theorem dL_law_1206 : decode cL_law 1206 = .ok (.aload_n 0, 1) := by decide +kernel
theorem dL_law_1207 : decode cL_law 1207 = .ok (.iload 4, 2) := by decide +kernel
theorem dL_law_1209 : decode cL_law 1209 = .ok (.iconst 1, 1) := by decide +kernel
theorem dL_law_1210 : decode cL_law 1210 = .ok (.iadd, 1) := by decide +kernel
theorem dL_law_1211 : decode cL_law 1211 = .ok (.iaload, 1) := by decide +kernel
theorem dL_law_1212 : decode cL_law 1212 = .ok (.invokevirtual 116, 3) := by decide +kernel
theorem dL_law_1215 : decode cL_law 1215 = .ok (.aload_n 2, 1) := by decide +kernel
theorem dL_law_1216 : decode cL_law 1216 = .ok (.aload_n 0, 1) := by decide +kernel
theorem dL_law_1217 : decode cL_law 1217 = .ok (.iload 4, 2) := by decide +kernel
theorem dL_law_1219 : decode cL_law 1219 = .ok (.iconst 1, 1) := by decide +kernel
theorem dL_law_1220 : decode cL_law 1220 = .ok (.iadd, 1) := by decide +kernel
theorem dL_law_1221 : decode cL_law 1221 = .ok (.iaload, 1) := by decide +kernel
theorem dL_law_1222 : decode cL_law 1222 = .ok (.invokevirtual 119, 3) := by decide +kernel
theorem dL_law_1225 : decode cL_law 1225 = .ok (.if_icmp .eq 5, 3) := by decide +kernel
theorem dL_law_1228 : decode cL_law 1228 = .ok (.iconst 0, 1) := by decide +kernel
theorem dL_law_1229 : decode cL_law 1229 = .ok (.ireturn, 1) := by decide +kernel
theorem dL_law_1230 : decode cL_law 1230 = .ok (.iinc 4 7, 3) := by decide +kernel
theorem dL_law_1233 : decode cL_law 1233 = .ok (.goto (-1210), 3) := by decide +kernel
theorem dL_law_1236 : decode cL_law 1236 = .ok (.iconst 1, 1) := by decide +kernel
theorem dL_law_1237 : decode cL_law 1237 = .ok (.ireturn, 1) := by decide +kernel
end
section
/-! Ints and longs by their numbers (Int), and the kit's rows said in them. -/
def iI (z : Int) : Int32 := Int32.ofInt z
def lI (z : Int) : Int64 := Int64.ofInt z
theorem iI_add (a b : Int) : iI a + iI b = iI (a + b) := (Int32.ofInt_add a b).symm
theorem iI_sub (a b : Int) : iI a - iI b = iI (a - b) := (Int32.ofInt_sub a b).symm
theorem iI_mul (a b : Int) : iI a * iI b = iI (a * b) := (Int32.ofInt_mul a b).symm
theorem lI_add (a b : Int) : lI a + lI b = lI (a + b) := (Int64.ofInt_add a b).symm
theorem lI_sub (a b : Int) : lI a - lI b = lI (a - b) := (Int64.ofInt_sub a b).symm
theorem lI_mul (a b : Int) : lI a * lI b = lI (a * b) := (Int64.ofInt_mul a b).symm
theorem iI_toInt {z : Int} (h1 : -2147483648 ≤ z) (h2 : z < 2147483648) : (iI z).toInt = z := Int32.toInt_ofInt_of_le (Int.le_trans (by decide) h1) (Int.lt_of_lt_of_le h2 (by decide))
theorem lI_toInt {z : Int} (h1 : -9223372036854775808 ≤ z) (h2 : z < 9223372036854775808) : (lI z).toInt = z := Int64.toInt_ofInt_of_le (Int.le_trans (by decide) h1) (Int.lt_of_lt_of_le h2 (by decide))
theorem iI_of (x : Int32) : ∃ z : Int, (-2147483648 ≤ z ∧ z < 2147483648) ∧ x = iI z := ⟨x.toInt, ⟨Int32.le_toInt x, Int32.toInt_lt x⟩, (Int32.ofInt_toInt x).symm⟩
theorem lI_of (x : Int64) : ∃ z : Int, (-9223372036854775808 ≤ z ∧ z < 9223372036854775808) ∧ x = lI z := ⟨x.toInt, ⟨Int64.le_toInt x, Int64.toInt_lt x⟩, (Int64.ofInt_toInt x).symm⟩
theorem iI_nI (n : Nat) : nI n = iI n := (Int32.ofInt_eq_ofNat (n := n)).symm
theorem lI_lN (n : Nat) : lN n = lI n := (Int64.ofInt_eq_ofNat (n := n)).symm
theorem iI_lt {a b : Int} (a1 : -2147483648 ≤ a) (a2 : a < 2147483648) (b1 : -2147483648 ≤ b) (b2 : b < 2147483648) : iI a < iI b ↔ a < b := by
  rw [Int32.lt_iff_toInt_lt, iI_toInt a1 a2, iI_toInt b1 b2]
theorem iI_le {a b : Int} (a1 : -2147483648 ≤ a) (a2 : a < 2147483648) (b1 : -2147483648 ≤ b) (b2 : b < 2147483648) : iI a ≤ iI b ↔ a ≤ b := by
  rw [Int32.le_iff_toInt_le, iI_toInt a1 a2, iI_toInt b1 b2]
theorem iI_eq {a b : Int} (a1 : -2147483648 ≤ a) (a2 : a < 2147483648) (b1 : -2147483648 ≤ b) (b2 : b < 2147483648) : iI a = iI b ↔ a = b := by
  rw [← Int32.toInt_inj, iI_toInt a1 a2, iI_toInt b1 b2]
theorem lI_eq {a b : Int} (a1 : -9223372036854775808 ≤ a) (a2 : a < 9223372036854775808) (b1 : -9223372036854775808 ≤ b) (b2 : b < 9223372036854775808) : lI a = lI b ↔ a = b := by
  rw [← Int64.toInt_inj, lI_toInt a1 a2, lI_toInt b1 b2]
theorem iI_0 : iI 0 = 0 := rfl
theorem iI_l {z : Int} (h1 : -2147483648 ≤ z) (h2 : z < 2147483648) : (iI z).toInt64 = lI z := by
  rw [← Int64.toInt_inj, Int32.toInt_toInt64, iI_toInt h1 h2, lI_toInt (by omega) (by omega)]
theorem lI_i (z : Int) : (lI z).toInt32 = iI z := Int64.toInt32_ofInt
theorem iI_tdiv {a b : Int} (a1 : -2147483648 ≤ a) (a2 : a < 2147483648) (b1 : -2147483648 ≤ b) (b2 : b < 2147483648) : iI a / iI b = iI (a.tdiv b) :=
  (Int32.ofInt_tdiv (Int.le_trans (by decide) a1) (Int.le_trans (Int.le_sub_one_of_lt a2) (by decide)) (Int.le_trans (by decide) b1) (Int.le_trans (Int.le_sub_one_of_lt b2) (by decide))).symm
theorem lI_tdiv {a b : Int} (a1 : -9223372036854775808 ≤ a) (a2 : a < 9223372036854775808) (b1 : -9223372036854775808 ≤ b) (b2 : b < 9223372036854775808) : lI a / lI b = lI (a.tdiv b) :=
  (Int64.ofInt_tdiv (Int.le_trans (by decide) a1) (Int.le_trans (Int.le_sub_one_of_lt a2) (by decide)) (Int.le_trans (by decide) b1) (Int.le_trans (Int.le_sub_one_of_lt b2) (by decide))).symm
theorem iI_div {a b : Int} (a1 : 0 ≤ a) (a2 : a < 2147483648) (b1 : 0 < b) (b2 : b < 2147483648) : iI a / iI b = iI (a / b) := by
  rw [iI_tdiv (by omega) a2 (by omega) b2, Int.tdiv_eq_ediv_of_nonneg a1]
theorem lI_div {a b : Int} (a1 : 0 ≤ a) (a2 : a < 9223372036854775808) (b1 : 0 < b) (b2 : b < 9223372036854775808) : lI a / lI b = lI (a / b) := by
  rw [lI_tdiv (by omega) a2 (by omega) b2, Int.tdiv_eq_ediv_of_nonneg a1]
theorem iI_tmod {a b : Int} (a1 : -2147483648 ≤ a) (a2 : a < 2147483648) (b1 : -2147483648 ≤ b) (b2 : b < 2147483648) : iI a - iI a / iI b * iI b = iI (a.tmod b) := by
  rw [iI_tdiv a1 a2 b1 b2, iI_mul, iI_sub, Int.tmod_def, Int.mul_comm]
theorem lI_tmod {a b : Int} (a1 : -9223372036854775808 ≤ a) (a2 : a < 9223372036854775808) (b1 : -9223372036854775808 ≤ b) (b2 : b < 9223372036854775808) : lI a - lI a / lI b * lI b = lI (a.tmod b) := by
  rw [lI_tdiv a1 a2 b1 b2, lI_mul, lI_sub, Int.tmod_def, Int.mul_comm]
theorem iI_rem {a b : Int} (a1 : 0 ≤ a) (a2 : a < 2147483648) (b1 : 0 < b) (b2 : b < 2147483648) : iI a - iI a / iI b * iI b = iI (a % b) := by
  rw [iI_tmod (by omega) a2 (by omega) b2, Int.tmod_eq_emod_of_nonneg a1]
theorem lI_rem {a b : Int} (a1 : 0 ≤ a) (a2 : a < 9223372036854775808) (b1 : 0 < b) (b2 : b < 9223372036854775808) : lI a - lI a / lI b * lI b = lI (a % b) := by
  rw [lI_tmod (by omega) a2 (by omega) b2, Int.tmod_eq_emod_of_nonneg a1]
theorem iI_ne0 {b : Int} (b1 : 0 < b) (b2 : b < 2147483648) : ¬ iI b = 0 := by
  rw [← iI_0, iI_eq (by omega) b2 (by omega) (by omega)]
  omega
theorem lI_ne0 {b : Int} (b1 : 0 < b) (b2 : b < 9223372036854775808) : ¬ lI b = 0 := by
  rw [show (0 : Int64) = lI 0 from rfl, lI_eq (by omega) b2 (by omega) (by omega)]
  omega
theorem iI_in {i n : Nat} (h : i < n) (hn : n < 2147483648) : vp_in (iI i) n := by
  rw [← iI_nI]
  exact vp_in_nI h hn
theorem iI_cl {i : Nat} (h : i < 2147483648) : (iI i).toNatClampNeg = i := by
  rw [← iI_nI]
  exact nI_clamp h
section IX
variable {p : Program} {l : Launch} {e : Env} {R : Room} {s : State} {m : MethodId} {args : Array Value} {below : List Frame} {meth : Method} {c : Code} {H : Heap} {locs : List Loc} {cells slots : Nat} {Q : State → Prop}
variable {cc : ByteArray} {pc : Nat} {ls : Array Slot} {rest : List Value}
theorem wx_i {x y : Int32} (h : x = y) (k : W p l e R s m args below meth c H locs cells slots Q (F0 m pc ls (.int y :: rest))) : W p l e R s m args below meth c H locs cells slots Q (F0 m pc ls (.int x :: rest)) := h ▸ k
theorem wx_l {x y : Int64} (h : x = y) (k : W p l e R s m args below meth c H locs cells slots Q (F0 m pc ls (.long y :: rest))) : W p l e R s m args below meth c H locs cells slots Q (F0 m pc ls (.long x :: rest)) := h ▸ k
theorem ix_iconst (hexec : p.tables.exec = Jvm.exec) (hb : c.code = cc) {n : Int} (hdg : decode cc pc = .ok (.iconst n, 1))
    (k : W p l e R s m args below meth c H locs cells slots Q (F0 m (pc + 1) ls (.int (iI n) :: rest))) : W p l e R s m args below meth c H locs cells slots Q (F0 m pc ls (rest)) := lv_iconst hexec hb hdg rfl k
theorem ix_bipush (hexec : p.tables.exec = Jvm.exec) (hb : c.code = cc) {n : Int} (hv : (Int8.ofInt n).toInt32 = iI n) (hdg : decode cc pc = .ok (.bipush n, 2))
    (k : W p l e R s m args below meth c H locs cells slots Q (F0 m (pc + 2) ls (.int (iI n) :: rest))) : W p l e R s m args below meth c H locs cells slots Q (F0 m pc ls (rest)) := lv_bipush hexec hb hdg hv k
theorem ix_sipush (hexec : p.tables.exec = Jvm.exec) (hb : c.code = cc) {n : Int} (hv : (Int16.ofInt n).toInt32 = iI n) (hdg : decode cc pc = .ok (.sipush n, 3))
    (k : W p l e R s m args below meth c H locs cells slots Q (F0 m (pc + 3) ls (.int (iI n) :: rest))) : W p l e R s m args below meth c H locs cells slots Q (F0 m pc ls (rest)) := lv_sipush hexec hb hdg hv k
theorem ix_iadd (hexec : p.tables.exec = Jvm.exec) (hb : c.code = cc) {a b : Int} (hdg : decode cc pc = .ok (.iadd, 1))
    (k : W p l e R s m args below meth c H locs cells slots Q (F0 m (pc + 1) ls (.int (iI (a + b)) :: rest))) : W p l e R s m args below meth c H locs cells slots Q (F0 m pc ls (.int (iI b) :: .int (iI a) :: rest)) := lv_iadd hexec hb hdg (wx_i (iI_add a b) k)
theorem ix_isub (hexec : p.tables.exec = Jvm.exec) (hb : c.code = cc) {a b : Int} (hdg : decode cc pc = .ok (.isub, 1))
    (k : W p l e R s m args below meth c H locs cells slots Q (F0 m (pc + 1) ls (.int (iI (a - b)) :: rest))) : W p l e R s m args below meth c H locs cells slots Q (F0 m pc ls (.int (iI b) :: .int (iI a) :: rest)) := lv_isub hexec hb hdg (wx_i (iI_sub a b) k)
theorem ix_imul (hexec : p.tables.exec = Jvm.exec) (hb : c.code = cc) {a b : Int} (hdg : decode cc pc = .ok (.imul, 1))
    (k : W p l e R s m args below meth c H locs cells slots Q (F0 m (pc + 1) ls (.int (iI (a * b)) :: rest))) : W p l e R s m args below meth c H locs cells slots Q (F0 m pc ls (.int (iI b) :: .int (iI a) :: rest)) := lv_imul hexec hb hdg (wx_i (iI_mul a b) k)
theorem ix_ladd (hexec : p.tables.exec = Jvm.exec) (hb : c.code = cc) {a b : Int} (hdg : decode cc pc = .ok (.ladd, 1))
    (k : W p l e R s m args below meth c H locs cells slots Q (F0 m (pc + 1) ls (.long (lI (a + b)) :: rest))) : W p l e R s m args below meth c H locs cells slots Q (F0 m pc ls (.long (lI b) :: .long (lI a) :: rest)) := lv_ladd hexec hb hdg (wx_l (lI_add a b) k)
theorem ix_lsub (hexec : p.tables.exec = Jvm.exec) (hb : c.code = cc) {a b : Int} (hdg : decode cc pc = .ok (.lsub, 1))
    (k : W p l e R s m args below meth c H locs cells slots Q (F0 m (pc + 1) ls (.long (lI (a - b)) :: rest))) : W p l e R s m args below meth c H locs cells slots Q (F0 m pc ls (.long (lI b) :: .long (lI a) :: rest)) := lv_lsub hexec hb hdg (wx_l (lI_sub a b) k)
theorem ix_lmul (hexec : p.tables.exec = Jvm.exec) (hb : c.code = cc) {a b : Int} (hdg : decode cc pc = .ok (.lmul, 1))
    (k : W p l e R s m args below meth c H locs cells slots Q (F0 m (pc + 1) ls (.long (lI (a * b)) :: rest))) : W p l e R s m args below meth c H locs cells slots Q (F0 m pc ls (.long (lI b) :: .long (lI a) :: rest)) := lv_lmul hexec hb hdg (wx_l (lI_mul a b) k)
theorem ix_idiv (hexec : p.tables.exec = Jvm.exec) (hb : c.code = cc) {a b : Int} (a1 : 0 ≤ a) (a2 : a < 2147483648) (b1 : 0 < b) (b2 : b < 2147483648) (hdg : decode cc pc = .ok (.idiv, 1))
    (k : W p l e R s m args below meth c H locs cells slots Q (F0 m (pc + 1) ls (.int (iI (a / b)) :: rest))) : W p l e R s m args below meth c H locs cells slots Q (F0 m pc ls (.int (iI b) :: .int (iI a) :: rest)) := lv_idiv hexec hb hdg (iI_ne0 b1 b2) (wx_i (iI_div a1 a2 b1 b2) k)
theorem ix_irem (hexec : p.tables.exec = Jvm.exec) (hb : c.code = cc) {a b : Int} (a1 : 0 ≤ a) (a2 : a < 2147483648) (b1 : 0 < b) (b2 : b < 2147483648) (hdg : decode cc pc = .ok (.irem, 1))
    (k : W p l e R s m args below meth c H locs cells slots Q (F0 m (pc + 1) ls (.int (iI (a % b)) :: rest))) : W p l e R s m args below meth c H locs cells slots Q (F0 m pc ls (.int (iI b) :: .int (iI a) :: rest)) := lv_irem hexec hb hdg (iI_ne0 b1 b2) (wx_i (iI_rem a1 a2 b1 b2) k)
theorem ix_iremT (hexec : p.tables.exec = Jvm.exec) (hb : c.code = cc) {a b : Int} (a1 : -2147483648 ≤ a) (a2 : a < 2147483648) (b1 : 0 < b) (b2 : b < 2147483648) (hdg : decode cc pc = .ok (.irem, 1))
    (k : W p l e R s m args below meth c H locs cells slots Q (F0 m (pc + 1) ls (.int (iI (a.tmod b)) :: rest))) : W p l e R s m args below meth c H locs cells slots Q (F0 m pc ls (.int (iI b) :: .int (iI a) :: rest)) := lv_irem hexec hb hdg (iI_ne0 b1 b2) (wx_i (iI_tmod a1 a2 (by omega) b2) k)
theorem ix_idivT (hexec : p.tables.exec = Jvm.exec) (hb : c.code = cc) {a b : Int} (a1 : -2147483648 ≤ a) (a2 : a < 2147483648) (b1 : 0 < b) (b2 : b < 2147483648) (hdg : decode cc pc = .ok (.idiv, 1))
    (k : W p l e R s m args below meth c H locs cells slots Q (F0 m (pc + 1) ls (.int (iI (a.tdiv b)) :: rest))) : W p l e R s m args below meth c H locs cells slots Q (F0 m pc ls (.int (iI b) :: .int (iI a) :: rest)) := lv_idiv hexec hb hdg (iI_ne0 b1 b2) (wx_i (iI_tdiv a1 a2 (by omega) b2) k)
theorem ix_ldiv (hexec : p.tables.exec = Jvm.exec) (hb : c.code = cc) {a b : Int} (a1 : 0 ≤ a) (a2 : a < 9223372036854775808) (b1 : 0 < b) (b2 : b < 9223372036854775808) (hdg : decode cc pc = .ok (.ldiv, 1))
    (k : W p l e R s m args below meth c H locs cells slots Q (F0 m (pc + 1) ls (.long (lI (a / b)) :: rest))) : W p l e R s m args below meth c H locs cells slots Q (F0 m pc ls (.long (lI b) :: .long (lI a) :: rest)) := lv_ldiv hexec hb hdg (lI_ne0 b1 b2) (wx_l (lI_div a1 a2 b1 b2) k)
theorem ix_lrem (hexec : p.tables.exec = Jvm.exec) (hb : c.code = cc) {a b : Int} (a1 : 0 ≤ a) (a2 : a < 9223372036854775808) (b1 : 0 < b) (b2 : b < 9223372036854775808) (hdg : decode cc pc = .ok (.lrem, 1))
    (k : W p l e R s m args below meth c H locs cells slots Q (F0 m (pc + 1) ls (.long (lI (a % b)) :: rest))) : W p l e R s m args below meth c H locs cells slots Q (F0 m pc ls (.long (lI b) :: .long (lI a) :: rest)) := lv_lrem hexec hb hdg (lI_ne0 b1 b2) (wx_l (lI_rem a1 a2 b1 b2) k)
theorem ix_lremT (hexec : p.tables.exec = Jvm.exec) (hb : c.code = cc) {a b : Int} (a1 : -9223372036854775808 ≤ a) (a2 : a < 9223372036854775808) (b1 : 0 < b) (b2 : b < 9223372036854775808) (hdg : decode cc pc = .ok (.lrem, 1))
    (k : W p l e R s m args below meth c H locs cells slots Q (F0 m (pc + 1) ls (.long (lI (a.tmod b)) :: rest))) : W p l e R s m args below meth c H locs cells slots Q (F0 m pc ls (.long (lI b) :: .long (lI a) :: rest)) := lv_lrem hexec hb hdg (lI_ne0 b1 b2) (wx_l (lI_tmod a1 a2 (by omega) b2) k)
theorem ix_ldivT (hexec : p.tables.exec = Jvm.exec) (hb : c.code = cc) {a b : Int} (a1 : -9223372036854775808 ≤ a) (a2 : a < 9223372036854775808) (b1 : 0 < b) (b2 : b < 9223372036854775808) (hdg : decode cc pc = .ok (.ldiv, 1))
    (k : W p l e R s m args below meth c H locs cells slots Q (F0 m (pc + 1) ls (.long (lI (a.tdiv b)) :: rest))) : W p l e R s m args below meth c H locs cells slots Q (F0 m pc ls (.long (lI b) :: .long (lI a) :: rest)) := lv_ldiv hexec hb hdg (lI_ne0 b1 b2) (wx_l (lI_tdiv a1 a2 (by omega) b2) k)
theorem ix_i2l (hexec : p.tables.exec = Jvm.exec) (hb : c.code = cc) {a : Int} (a1 : -2147483648 ≤ a) (a2 : a < 2147483648) (hdg : decode cc pc = .ok (.i2l, 1))
    (k : W p l e R s m args below meth c H locs cells slots Q (F0 m (pc + 1) ls (.long (lI a) :: rest))) : W p l e R s m args below meth c H locs cells slots Q (F0 m pc ls (.int (iI a) :: rest)) := lv_i2l hexec hb hdg (iI_l a1 a2) k
theorem ix_l2i (hexec : p.tables.exec = Jvm.exec) (hb : c.code = cc) {a : Int} (hdg : decode cc pc = .ok (.l2i, 1))
    (k : W p l e R s m args below meth c H locs cells slots Q (F0 m (pc + 1) ls (.int (iI a) :: rest))) : W p l e R s m args below meth c H locs cells slots Q (F0 m pc ls (.long (lI a) :: rest)) := lv_l2i hexec hb hdg (lI_i a) k
theorem ix_lconst0 (hexec : p.tables.exec = Jvm.exec) (hb : c.code = cc) (hdg : decode cc pc = .ok (.lconst 0, 1)) (k : W p l e R s m args below meth c H locs cells slots Q (F0 m (pc + 1) ls (.long (lI 0) :: rest))) : W p l e R s m args below meth c H locs cells slots Q (F0 m pc ls rest) := lv_lconst hexec hb hdg (by decide) k
theorem ix_lconst1 (hexec : p.tables.exec = Jvm.exec) (hb : c.code = cc) (hdg : decode cc pc = .ok (.lconst 1, 1)) (k : W p l e R s m args below meth c H locs cells slots Q (F0 m (pc + 1) ls (.long (lI 1) :: rest))) : W p l e R s m args below meth c H locs cells slots Q (F0 m pc ls rest) := lv_lconst hexec hb hdg (by decide) k
theorem ix_icmp_eq (hexec : p.tables.exec = Jvm.exec) (hb : c.code = cc) {a b : Int} (a1 : -2147483648 ≤ a) (a2 : a < 2147483648) (b1 : -2147483648 ≤ b) (b2 : b < 2147483648) {off : Int} {tgt : Nat} (hdg : decode cc pc = .ok (.if_icmp .eq off, 3)) (ht : (pc : Int) + off = (tgt : Int))
    (kt : a = b → W p l e R s m args below meth c H locs cells slots Q (F0 m tgt ls rest)) (kf : ¬ a = b → W p l e R s m args below meth c H locs cells slots Q (F0 m (pc + 3) ls rest)) : W p l e R s m args below meth c H locs cells slots Q (F0 m pc ls (.int (iI b) :: .int (iI a) :: rest)) := by
  have pf := iI_eq a1 a2 b1 b2
  exact lv_icmp_eq hexec hb hdg ht (fun h => kt (pf.mp h)) (fun h => kf (fun q => h (pf.mpr q)))
theorem ix_if_eq (hexec : p.tables.exec = Jvm.exec) (hb : c.code = cc) {a : Int} (a1 : -2147483648 ≤ a) (a2 : a < 2147483648) {off : Int} {tgt : Nat} (hdg : decode cc pc = .ok (.ifCond .eq off, 3)) (ht : (pc : Int) + off = (tgt : Int))
    (kt : a = 0 → W p l e R s m args below meth c H locs cells slots Q (F0 m tgt ls rest)) (kf : ¬ a = 0 → W p l e R s m args below meth c H locs cells slots Q (F0 m (pc + 3) ls rest)) : W p l e R s m args below meth c H locs cells slots Q (F0 m pc ls (.int (iI a) :: rest)) := by
  have pf : (iI a = iI 0 ↔ a = 0) := iI_eq a1 a2 (by decide) (by decide)
  rw [iI_0] at pf
  exact lv_if_eq hexec hb hdg ht (fun h => kt (pf.mp h)) (fun h => kf (fun q => h (pf.mpr q)))
theorem ix_icmp_ne (hexec : p.tables.exec = Jvm.exec) (hb : c.code = cc) {a b : Int} (a1 : -2147483648 ≤ a) (a2 : a < 2147483648) (b1 : -2147483648 ≤ b) (b2 : b < 2147483648) {off : Int} {tgt : Nat} (hdg : decode cc pc = .ok (.if_icmp .ne off, 3)) (ht : (pc : Int) + off = (tgt : Int))
    (kt : ¬ a = b → W p l e R s m args below meth c H locs cells slots Q (F0 m tgt ls rest)) (kf : a = b → W p l e R s m args below meth c H locs cells slots Q (F0 m (pc + 3) ls rest)) : W p l e R s m args below meth c H locs cells slots Q (F0 m pc ls (.int (iI b) :: .int (iI a) :: rest)) := by
  have pf := (iI_eq a1 a2 b1 b2)
  exact lv_icmp_ne hexec hb hdg ht (fun h => kt (fun q => h (pf.mpr q))) (fun h => kf (pf.mp h))
theorem ix_if_ne (hexec : p.tables.exec = Jvm.exec) (hb : c.code = cc) {a : Int} (a1 : -2147483648 ≤ a) (a2 : a < 2147483648) {off : Int} {tgt : Nat} (hdg : decode cc pc = .ok (.ifCond .ne off, 3)) (ht : (pc : Int) + off = (tgt : Int))
    (kt : ¬ a = 0 → W p l e R s m args below meth c H locs cells slots Q (F0 m tgt ls rest)) (kf : a = 0 → W p l e R s m args below meth c H locs cells slots Q (F0 m (pc + 3) ls rest)) : W p l e R s m args below meth c H locs cells slots Q (F0 m pc ls (.int (iI a) :: rest)) := by
  have pf : (iI a = iI 0 ↔ a = 0) := (iI_eq a1 a2 (by decide) (by decide))
  rw [iI_0] at pf
  exact lv_if_ne hexec hb hdg ht (fun h => kt (fun q => h (pf.mpr q))) (fun h => kf (pf.mp h))
theorem ix_icmp_lt (hexec : p.tables.exec = Jvm.exec) (hb : c.code = cc) {a b : Int} (a1 : -2147483648 ≤ a) (a2 : a < 2147483648) (b1 : -2147483648 ≤ b) (b2 : b < 2147483648) {off : Int} {tgt : Nat} (hdg : decode cc pc = .ok (.if_icmp .lt off, 3)) (ht : (pc : Int) + off = (tgt : Int))
    (kt : a < b → W p l e R s m args below meth c H locs cells slots Q (F0 m tgt ls rest)) (kf : ¬ a < b → W p l e R s m args below meth c H locs cells slots Q (F0 m (pc + 3) ls rest)) : W p l e R s m args below meth c H locs cells slots Q (F0 m pc ls (.int (iI b) :: .int (iI a) :: rest)) := by
  have pf := iI_lt a1 a2 b1 b2
  exact lv_icmp_lt hexec hb hdg ht (fun h => kt (pf.mp h)) (fun h => kf (fun q => h (pf.mpr q)))
theorem ix_if_lt (hexec : p.tables.exec = Jvm.exec) (hb : c.code = cc) {a : Int} (a1 : -2147483648 ≤ a) (a2 : a < 2147483648) {off : Int} {tgt : Nat} (hdg : decode cc pc = .ok (.ifCond .lt off, 3)) (ht : (pc : Int) + off = (tgt : Int))
    (kt : a < 0 → W p l e R s m args below meth c H locs cells slots Q (F0 m tgt ls rest)) (kf : ¬ a < 0 → W p l e R s m args below meth c H locs cells slots Q (F0 m (pc + 3) ls rest)) : W p l e R s m args below meth c H locs cells slots Q (F0 m pc ls (.int (iI a) :: rest)) := by
  have pf : (iI a < iI 0 ↔ a < 0) := iI_lt a1 a2 (by decide) (by decide)
  rw [iI_0] at pf
  exact lv_if_lt hexec hb hdg ht (fun h => kt (pf.mp h)) (fun h => kf (fun q => h (pf.mpr q)))
theorem ix_icmp_ge (hexec : p.tables.exec = Jvm.exec) (hb : c.code = cc) {a b : Int} (a1 : -2147483648 ≤ a) (a2 : a < 2147483648) (b1 : -2147483648 ≤ b) (b2 : b < 2147483648) {off : Int} {tgt : Nat} (hdg : decode cc pc = .ok (.if_icmp .ge off, 3)) (ht : (pc : Int) + off = (tgt : Int))
    (kt : b ≤ a → W p l e R s m args below meth c H locs cells slots Q (F0 m tgt ls rest)) (kf : ¬ b ≤ a → W p l e R s m args below meth c H locs cells slots Q (F0 m (pc + 3) ls rest)) : W p l e R s m args below meth c H locs cells slots Q (F0 m pc ls (.int (iI b) :: .int (iI a) :: rest)) := by
  have pf := iI_le b1 b2 a1 a2
  exact lv_icmp_ge hexec hb hdg ht (fun h => kt (pf.mp h)) (fun h => kf (fun q => h (pf.mpr q)))
theorem ix_if_ge (hexec : p.tables.exec = Jvm.exec) (hb : c.code = cc) {a : Int} (a1 : -2147483648 ≤ a) (a2 : a < 2147483648) {off : Int} {tgt : Nat} (hdg : decode cc pc = .ok (.ifCond .ge off, 3)) (ht : (pc : Int) + off = (tgt : Int))
    (kt : 0 ≤ a → W p l e R s m args below meth c H locs cells slots Q (F0 m tgt ls rest)) (kf : ¬ 0 ≤ a → W p l e R s m args below meth c H locs cells slots Q (F0 m (pc + 3) ls rest)) : W p l e R s m args below meth c H locs cells slots Q (F0 m pc ls (.int (iI a) :: rest)) := by
  have pf : (iI 0 ≤ iI a ↔ 0 ≤ a) := iI_le (by decide) (by decide) a1 a2
  rw [iI_0] at pf
  exact lv_if_ge hexec hb hdg ht (fun h => kt (pf.mp h)) (fun h => kf (fun q => h (pf.mpr q)))
theorem ix_icmp_gt (hexec : p.tables.exec = Jvm.exec) (hb : c.code = cc) {a b : Int} (a1 : -2147483648 ≤ a) (a2 : a < 2147483648) (b1 : -2147483648 ≤ b) (b2 : b < 2147483648) {off : Int} {tgt : Nat} (hdg : decode cc pc = .ok (.if_icmp .gt off, 3)) (ht : (pc : Int) + off = (tgt : Int))
    (kt : b < a → W p l e R s m args below meth c H locs cells slots Q (F0 m tgt ls rest)) (kf : ¬ b < a → W p l e R s m args below meth c H locs cells slots Q (F0 m (pc + 3) ls rest)) : W p l e R s m args below meth c H locs cells slots Q (F0 m pc ls (.int (iI b) :: .int (iI a) :: rest)) := by
  have pf := iI_lt b1 b2 a1 a2
  exact lv_icmp_gt hexec hb hdg ht (fun h => kt (pf.mp h)) (fun h => kf (fun q => h (pf.mpr q)))
theorem ix_if_gt (hexec : p.tables.exec = Jvm.exec) (hb : c.code = cc) {a : Int} (a1 : -2147483648 ≤ a) (a2 : a < 2147483648) {off : Int} {tgt : Nat} (hdg : decode cc pc = .ok (.ifCond .gt off, 3)) (ht : (pc : Int) + off = (tgt : Int))
    (kt : 0 < a → W p l e R s m args below meth c H locs cells slots Q (F0 m tgt ls rest)) (kf : ¬ 0 < a → W p l e R s m args below meth c H locs cells slots Q (F0 m (pc + 3) ls rest)) : W p l e R s m args below meth c H locs cells slots Q (F0 m pc ls (.int (iI a) :: rest)) := by
  have pf : (iI 0 < iI a ↔ 0 < a) := iI_lt (by decide) (by decide) a1 a2
  rw [iI_0] at pf
  exact lv_if_gt hexec hb hdg ht (fun h => kt (pf.mp h)) (fun h => kf (fun q => h (pf.mpr q)))
theorem ix_icmp_le (hexec : p.tables.exec = Jvm.exec) (hb : c.code = cc) {a b : Int} (a1 : -2147483648 ≤ a) (a2 : a < 2147483648) (b1 : -2147483648 ≤ b) (b2 : b < 2147483648) {off : Int} {tgt : Nat} (hdg : decode cc pc = .ok (.if_icmp .le off, 3)) (ht : (pc : Int) + off = (tgt : Int))
    (kt : a ≤ b → W p l e R s m args below meth c H locs cells slots Q (F0 m tgt ls rest)) (kf : ¬ a ≤ b → W p l e R s m args below meth c H locs cells slots Q (F0 m (pc + 3) ls rest)) : W p l e R s m args below meth c H locs cells slots Q (F0 m pc ls (.int (iI b) :: .int (iI a) :: rest)) := by
  have pf := iI_le a1 a2 b1 b2
  exact lv_icmp_le hexec hb hdg ht (fun h => kt (pf.mp h)) (fun h => kf (fun q => h (pf.mpr q)))
theorem ix_if_le (hexec : p.tables.exec = Jvm.exec) (hb : c.code = cc) {a : Int} (a1 : -2147483648 ≤ a) (a2 : a < 2147483648) {off : Int} {tgt : Nat} (hdg : decode cc pc = .ok (.ifCond .le off, 3)) (ht : (pc : Int) + off = (tgt : Int))
    (kt : a ≤ 0 → W p l e R s m args below meth c H locs cells slots Q (F0 m tgt ls rest)) (kf : ¬ a ≤ 0 → W p l e R s m args below meth c H locs cells slots Q (F0 m (pc + 3) ls rest)) : W p l e R s m args below meth c H locs cells slots Q (F0 m pc ls (.int (iI a) :: rest)) := by
  have pf : (iI a ≤ iI 0 ↔ a ≤ 0) := iI_le a1 a2 (by decide) (by decide)
  rw [iI_0] at pf
  exact lv_if_le hexec hb hdg ht (fun h => kt (pf.mp h)) (fun h => kf (fun q => h (pf.mpr q)))
/-- a loop that changes only locals: j counts the rounds -/
theorem ix_loop {head : Nat} {I : Nat → Array Slot → Prop} (N j0 : Nat) (hj : j0 ≤ N) (h0 : I j0 ls)
    (done : ∀ ls : Array Slot, I N ls → W p l e R s m args below meth c H locs cells slots Q (F0 m head ls rest))
    (step : ∀ (j : Nat) (ls : Array Slot), j < N → I j ls → (∀ ls' : Array Slot, I (j + 1) ls' → W p l e R s m args below meth c H locs cells slots Q (F0 m head ls' rest)) → W p l e R s m args below meth c H locs cells slots Q (F0 m head ls rest)) :
    W p l e R s m args below meth c H locs cells slots Q (F0 m head ls rest) := by
  have key : ∀ (k j : Nat) (ls : Array Slot), j + k = N → I j ls → W p l e R s m args below meth c H locs cells slots Q (F0 m head ls rest) := by
    intro k
    induction k with
    | zero =>
      intro j ls h hI
      have h : j = N := h
      subst h
      exact done ls hI
    | succ k ih =>
      intro j ls h hI
      exact step j ls (by omega) hI (fun ls' hI' => ih (j + 1) ls' (by omega) hI')
  exact key (N - j0) j0 ls (by omega) h0
/-- a loop that writes: the heap and the written places go along -/
theorem ix_loopH {head : Nat} {I : Nat → Array Slot → Heap → List Loc → Prop} (N j0 : Nat) (hj : j0 ≤ N) (h0 : I j0 ls H locs)
    (done : ∀ (ls : Array Slot) (H : Heap) (locs : List Loc), I N ls H locs → W p l e R s m args below meth c H locs cells slots Q (F0 m head ls rest))
    (step : ∀ (j : Nat) (ls : Array Slot) (H : Heap) (locs : List Loc), j < N → I j ls H locs → (∀ (ls' : Array Slot) (H' : Heap) (locs' : List Loc), I (j + 1) ls' H' locs' → W p l e R s m args below meth c H' locs' cells slots Q (F0 m head ls' rest)) → W p l e R s m args below meth c H locs cells slots Q (F0 m head ls rest)) :
    W p l e R s m args below meth c H locs cells slots Q (F0 m head ls rest) := by
  have key : ∀ (k j : Nat) (ls : Array Slot) (H : Heap) (locs : List Loc), j + k = N → I j ls H locs → W p l e R s m args below meth c H locs cells slots Q (F0 m head ls rest) := by
    intro k
    induction k with
    | zero =>
      intro j ls H locs h hI
      have h : j = N := h
      subst h
      exact done ls H locs hI
    | succ k ih =>
      intro j ls H locs h hI
      exact step j ls H locs (by omega) hI (fun ls' H' locs' hI' => ih (j + 1) ls' H' locs' (by omega) hI')
  exact key (N - j0) j0 ls H locs (by omega) h0
end IX
end
section
/-! What the document asks, in numbers: both the class and the reference are held against these. -/
def kQ (k : Int) : Int := if k = 0 then 3329 else 8380417
def kB (k : Int) : Int := if k = 0 then 17 else 1753
def kZ (k : Int) : Int := kB k ^ 16 % kQ k
theorem kQ_in {k : Int} : 3329 ≤ kQ k ∧ kQ k ≤ 8380417 := by unfold kQ; split <;> omega
def sPow (q b : Int) (n : Nat) : Int := b ^ n % q
theorem sPow_0 {q b : Int} (h : 1 < q) : sPow q b 0 = 1 := by
  show b ^ 0 % q = 1
  rw [Int.pow_zero]
  exact Int.emod_eq_of_lt (by decide) h
theorem sPow_s {q b : Int} (n : Nat) : sPow q b n * b % q = sPow q b (n + 1) := by
  show b ^ n % q * b % q = b ^ (n + 1) % q
  rw [Int.pow_succ, Int.mul_emod (b ^ n % q) b q, Int.emod_emod_of_dvd _ (Int.dvd_refl q), ← Int.mul_emod]
theorem sPow_in {q b : Int} (h : 0 < q) (n : Nat) : 0 ≤ sPow q b n ∧ sPow q b n < q := ⟨Int.emod_nonneg _ (by omega), Int.emod_lt_of_pos _ h⟩
/-- the size, centred -/
def sCs (q v : Int) : Int := if q < 2 * v then q - v else v
def sMax (q : Int) (f : Nat → Int) : Nat → Int
  | 0 => 0
  | n + 1 => max (sMax q f n) (sCs q (f n))
def sCnt (f : Nat → Int) : Nat → Int
  | 0 => 0
  | n + 1 => sCnt f n + (if f n = 0 then 0 else 1)
def sFar (q : Int) (a b : Nat → Int) : Nat → Int
  | 0 => 0
  | n + 1 => sFar q a b n + sCs q ((a n - b n) % q)
def sPol (g : Nat → Int) (x : Int) : Nat → Int
  | 0 => 0
  | n + 1 => sPol g x n + g n * x ^ n
theorem sPol_left (g : Nat → Int) (x : Int) (n : Nat) : sPol g x (n + 1) = g 0 + x * sPol (fun u => g (u + 1)) x n := by
  induction n with
  | zero => simp [sPol]
  | succ n ih =>
    rw [sPol, ih]
    show _ = g 0 + x * (sPol (fun u => g (u + 1)) x n + g (n + 1) * x ^ n)
    rw [Int.mul_add, Int.pow_succ, ← Int.add_assoc]
    congr 1
    rw [Int.mul_comm (x ^ n) x, ← Int.mul_assoc, ← Int.mul_assoc, Int.mul_comm (g (n + 1)) x]
/-- the coefficient at place k of the product, its first n terms -/
def sProd (a b : Nat → Int) (k : Nat) : Nat → Int
  | 0 => 0
  | i + 1 => sProd a b k i + (if i ≤ k then a i * b (k - i) else -(a i * b (16 + k - i)))
def sJoin (q : Int) (op : Int) (a b : Nat → Int) (i : Nat) : Int := if op = 0 then (a i + b i) % q else if op = 1 then (a i - b i) % q else sProd a b i 16 % q
def sNear (x m : Int) : Int := if m < 2 * (x % m) then x % m - m else x % m
def sRound (q : Int) (op : Int) (x : Int) (d : Nat) : Int :=
  if op = 0 then (x * 2 ^ (d + 1) + q) / (2 * q) % 2 ^ d else if op = 1 then (q * (x % 2 ^ d) + 2 ^ (d - 1)) / 2 ^ d else if op = 2 then sNear x (2 ^ d) % q else (x - sNear x (2 ^ d)) / 2 ^ d
def sPart (q x a : Int) : Int := if x - sNear x a = q - 1 then 0 else (x - sNear x a) / a
def sRest (q x a : Int) : Int := if x - sNear x a = q - 1 then sNear x a - 1 else sNear x a
def sMov (q x a : Int) : Int := (sPart q x a + (if 0 < sRest q x a then 1 else -1)) % ((q - 1) / a)
def sHint (q a x y : Int) : Int := if sPart q x a = sPart q ((x + y) % q) a then 0 else 1
def sUse (q a x y : Int) : Int := if y = 0 then sPart q x a else sMov q x a
def sChg (q a : Int) (f g : Nat → Int) : Nat → Int
  | 0 => 0
  | n + 1 => sChg q a f g n + (if sUse q a (f n) (g n) = sPart q (f n) a then 0 else 1)
/-- an ALPHA that can be -/
def sAl (q a : Int) : Prop := 0 < a ∧ a % 2 = 0 ∧ (q - 1) % a = 0
def sAli (q a : Int) : Int := if 0 < a ∧ a % 2 = 0 ∧ (q - 1) % a = 0 then 1 else 0
/-- bit k of low and high together -/
def sBit (low high : Int64) (k : Nat) : Int := if k < 64 then ((low.toBitVec.toNat / 2 ^ k % 2 : Nat) : Int) else ((high.toBitVec.toNat / 2 ^ (k - 64) % 2 : Nat) : Int)
def sOnes (low high : Int64) (first : Nat) : Nat → Int
  | 0 => 0
  | n + 1 => sOnes low high first n + sBit low high (first + n)
def sNoise (q : Int) (low high : Int64) (eta i : Nat) : Int := (sOnes low high (2 * eta * i) eta - sOnes low high (2 * eta * i + eta) eta) % q
def sVal (k : Int) (f : Nat → Int) (i : Nat) : Int :=
  if k = 0 then sPol (fun u => f (i % 2 + 2 * u)) (sPow (kQ k) (kZ k) (2 * (i / 2) + 1)) 8 % kQ k else sPol f (sPow (kQ k) (kZ k) (2 * i + 1)) 16 % kQ k
/-- the zero from which all zeros of x^16 + 1 come -/
def kO (k : Int) : Int := sPow (kQ k) (kB k) (if k = 0 then 8 else 16)
def sUnit (k : Int) (f : Nat → Int) (n : Nat) : Prop := ∀ i, i < n → ¬ sPol f (sPow (kQ k) (kO k) (2 * i + 1)) 16 % kQ k = 0
def sEmp (M : Nat → Nat → Int) : Nat → Int
  | 0 => 0
  | n + 1 => sEmp M n + (if sCnt (M n) 16 = 0 then 1 else 0)
/-- registers with one of them written -/
def upR (M : Nat → Nat → Int) (r : Nat) (f : Nat → Int) : Nat → Nat → Int := fun a => if a = r then f else M a
def upI (f : Nat → Int) (i : Nat) (v : Int) : Nat → Int := fun j => if j = i then v else f j
/-! bounds -/
theorem sCs_in {q v : Int} (h0 : 0 ≤ v) (h1 : v < q) : 0 ≤ sCs q v ∧ sCs q v ≤ q := by unfold sCs; split <;> omega
theorem sCnt_in (f : Nat → Int) (n : Nat) : 0 ≤ sCnt f n ∧ sCnt f n ≤ n := by
  induction n with
  | zero => exact ⟨Int.le_refl _, Int.le_refl _⟩
  | succ n ih =>
    rw [sCnt]
    split <;> omega
theorem sMax_in {q : Int} {f : Nat → Int} {n : Nat} (hq : 0 ≤ q) (h : ∀ i, i < n → 0 ≤ f i ∧ f i < q) : 0 ≤ sMax q f n ∧ sMax q f n ≤ q := by
  induction n with
  | zero => exact ⟨Int.le_refl _, hq⟩
  | succ n ih =>
    have h1 := ih (fun i hi => h i (by omega))
    have h2 := sCs_in (h n (by omega)).1 (h n (by omega)).2
    rw [sMax]
    omega
theorem sFar_in {q : Int} {a b : Nat → Int} (hq : 0 < q) (n : Nat) : 0 ≤ sFar q a b n ∧ sFar q a b n ≤ n * q := by
  induction n with
  | zero => simp [sFar]
  | succ n ih =>
    have h2 := sCs_in (q := q) (v := (a n - b n) % q) (Int.emod_nonneg _ (by omega)) (Int.emod_lt_of_pos _ hq)
    rw [sFar, Int.natCast_add, Int.add_mul]
    omega
theorem sNear_in {x m : Int} (hm : 0 < m) : -m ≤ sNear x m ∧ sNear x m ≤ m := by
  have h1 := Int.emod_nonneg x (show m ≠ 0 by omega)
  have h2 := Int.emod_lt_of_pos x hm
  unfold sNear
  split <;> omega
theorem sNear_low {x m : Int} (h0 : 0 ≤ x) (hm : 0 < m) : 0 ≤ x - sNear x m := by
  have h1 := Int.emod_nonneg x (show m ≠ 0 by omega)
  have h2 := Int.emod_lt_of_pos x hm
  have h3 : x % m ≤ x := by
    rw [Int.emod_def]
    have := Int.mul_nonneg (show 0 ≤ m by omega) (Int.ediv_nonneg h0 (show 0 ≤ m by omega))
    omega
  unfold sNear
  split <;> omega
theorem sBit_in (low high : Int64) (k : Nat) : 0 ≤ sBit low high k ∧ sBit low high k ≤ 1 := by
  unfold sBit
  split <;> omega
theorem sOnes_in (low high : Int64) (first n : Nat) : 0 ≤ sOnes low high first n ∧ sOnes low high first n ≤ n := by
  induction n with
  | zero => exact ⟨Int.le_refl _, Int.le_refl _⟩
  | succ n ih =>
    have h := sBit_in low high (first + n)
    rw [sOnes]
    omega
theorem sEmp_in (M : Nat → Nat → Int) (n : Nat) : 0 ≤ sEmp M n ∧ sEmp M n ≤ n := by
  induction n with
  | zero => exact ⟨Int.le_refl _, Int.le_refl _⟩
  | succ n ih =>
    rw [sEmp]
    split <;> omega
theorem sChg_in (q a : Int) (f g : Nat → Int) (n : Nat) : 0 ≤ sChg q a f g n ∧ sChg q a f g n ≤ n := by
  induction n with
  | zero => exact ⟨Int.le_refl _, Int.le_refl _⟩
  | succ n ih =>
    rw [sChg]
    split <;> omega
end
section
/-! Modular facts: powers, polynomials, Horner, and the unit test of KIND 0. -/
theorem cg_mul {q a b c d : Int} (h1 : a % q = b % q) (h2 : c % q = d % q) : (a * c) % q = (b * d) % q := by
  rw [Int.mul_emod, h1, h2, ← Int.mul_emod]
theorem cg_add {q a b c d : Int} (h1 : a % q = b % q) (h2 : c % q = d % q) : (a + c) % q = (b + d) % q := by
  rw [Int.add_emod, h1, h2, ← Int.add_emod]
theorem cg_m (q a : Int) : a % q % q = a % q := Int.emod_emod_of_dvd _ (Int.dvd_refl q)
theorem cg_neg {q a b : Int} (h1 : a % q = b % q) : (-a) % q = (-b) % q := by
  have h := cg_mul (c := -1) (d := -1) h1 rfl
  rwa [Int.mul_neg_one, Int.mul_neg_one] at h
theorem cg_sub {q a b c d : Int} (h1 : a % q = b % q) (h2 : c % q = d % q) : (a - c) % q = (b - d) % q := by
  rw [Int.sub_eq_add_neg, Int.sub_eq_add_neg]
  exact cg_add h1 (cg_neg h2)
theorem cg_pow {q a b : Int} (h : a % q = b % q) (n : Nat) : a ^ n % q = b ^ n % q := by
  induction n with
  | zero => rw [Int.pow_zero, Int.pow_zero]
  | succ n ih =>
    rw [Int.pow_succ, Int.pow_succ]
    exact cg_mul ih h
theorem cg_pol {q x y : Int} (g : Nat → Int) (h : x % q = y % q) (n : Nat) : sPol g x n % q = sPol g y n % q := by
  induction n with
  | zero => rfl
  | succ n ih => exact cg_add ih (cg_mul rfl (cg_pow h n))
theorem sPow_m (q b : Int) (n : Nat) : sPow q b n % q = b ^ n % q := cg_m q _
/-- the class's step: sum and factor -/
theorem pol_step {q x : Int} (g : Nat → Int) (n : Nat) : (sPol g x n % q + g n * (x ^ n % q)) % q = sPol g x (n + 1) % q := cg_add (cg_m q _) (cg_mul rfl (cg_m q _))
theorem fac_step {q x : Int} (n : Nat) : (x ^ n % q) * x % q = x ^ (n + 1) % q := by
  rw [Int.pow_succ]
  exact cg_mul (cg_m q _) rfl
/-- the reference's step, from the top -/
theorem hor_step {q x : Int} (g : Nat → Int) (n t : Nat) (h : t < n) : (sPol (fun u => g (n - t + u)) x t % q * x + g (n - 1 - t)) % q = sPol (fun u => g (n - (t + 1) + u)) x (t + 1) % q := by
  rw [sPol_left]
  have e1 : (fun u => g (n - (t + 1) + (u + 1))) = fun u => g (n - t + u) := by
    funext u
    congr 1
    omega
  rw [e1, show n - (t + 1) + 0 = n - 1 - t by omega, Int.add_comm (g (n - 1 - t))]
  exact cg_add ((cg_mul (cg_m q _) rfl).trans (by rw [Int.mul_comm])) rfl
theorem pol_cut {q x : Int} (g : Nat → Int) (n : Nat) : sPol (fun u => g (n - n + u)) x n % q = sPol g x n % q := by
  simp
theorem pol_two (f : Nat → Int) (x : Int) (n : Nat) : sPol f x (2 * n) = sPol (fun u => f (0 + 2 * u)) (x ^ 2) n + x * sPol (fun u => f (1 + 2 * u)) (x ^ 2) n := by
  induction n with
  | zero => simp [sPol]
  | succ n ih =>
    rw [show 2 * (n + 1) = 2 * n + 1 + 1 by omega, sPol, sPol, ih, sPol, sPol, Int.mul_add, ← Int.pow_mul, show 0 + 2 * n = 2 * n by omega, show 1 + 2 * n = 2 * n + 1 by omega, Int.pow_succ x (2 * n)]
    have h1 : x * (f (2 * n + 1) * x ^ (2 * n)) = f (2 * n + 1) * (x ^ (2 * n) * x) := by
      rw [Int.mul_left_comm, Int.mul_comm x]
    rw [h1]
    omega
theorem pr_gcd : (List.range 3329).all (fun r => r == 0 || Nat.gcd r 3329 == 1) = true := by decide +kernel
theorem pr_nat {a b : Nat} (h : 3329 ∣ a * b) : 3329 ∣ a ∨ 3329 ∣ b := by
  by_cases h0 : a % 3329 = 0
  · exact Or.inl (Nat.dvd_of_mod_eq_zero h0)
  · right
    have h1 := List.all_eq_true.mp pr_gcd (a % 3329) (List.mem_range.mpr (Nat.mod_lt _ (by decide)))
    simp only [Bool.or_eq_true, beq_iff_eq] at h1
    have h2 : Nat.gcd (a % 3329) 3329 = 1 := h1.resolve_left h0
    have h3 : Nat.Coprime 3329 a := by
      show Nat.gcd 3329 a = 1
      rw [Nat.gcd_rec]
      exact h2
    exact h3.dvd_of_dvd_mul_left h
theorem pr_int {a b : Int} (h : a * b % 3329 = 0) : a % 3329 = 0 ∨ b % 3329 = 0 := by
  have h1 : (3329 : Int) ∣ a * b := Int.dvd_of_emod_eq_zero h
  have h2 : 3329 ∣ (a * b).natAbs := Int.natAbs_dvd_natAbs.mpr h1
  rw [Int.natAbs_mul] at h2
  rcases pr_nat h2 with h3 | h3
  · exact Or.inl (Int.emod_eq_zero_of_dvd (Int.natAbs_dvd_natAbs.mp h3))
  · exact Or.inr (Int.emod_eq_zero_of_dvd (Int.natAbs_dvd_natAbs.mp h3))
theorem tm_z {a b : Int} : a.tmod b = 0 ↔ a % b = 0 := by
  rw [← Int.dvd_iff_tmod_eq_zero, Int.dvd_iff_emod_eq_zero]
/-- the reference's test at j, in KIND 0 -/
def sTst (f : Nat → Int) (j : Nat) : Int := sVal 0 f (2 * j) * sVal 0 f (2 * j) - sVal 0 f (2 * j + 1) * sVal 0 f (2 * j + 1) % 3329 * sPow 3329 (kZ 0) (2 * j + 1)
theorem un_pair (f : Nat → Int) (j : Nat) : sTst f j % 3329 = 0 ↔ (sPol f (sPow 3329 (kO 0) (2 * j + 1)) 16 % 3329 = 0 ∨ sPol f (sPow 3329 (kO 0) (2 * (j + 8) + 1)) 16 % 3329 = 0) := by
  have hw : kO 0 = 1062 := by decide +kernel
  have hz : kZ 0 = 2642 := by decide +kernel
  have hq : kQ 0 = 3329 := by decide +kernel
  rw [hw]
  generalize hr : (1062 : Int) ^ (2 * j + 1) = r
  have p1 : sPol f (sPow 3329 1062 (2 * j + 1)) 16 % 3329 = sPol f r 16 % 3329 := cg_pol f (by rw [sPow_m, hr]) 16
  have p2 : sPol f (sPow 3329 1062 (2 * (j + 8) + 1)) 16 % 3329 = sPol f (-r) 16 % 3329 := cg_pol f (by
    rw [sPow_m, show 2 * (j + 8) + 1 = (2 * j + 1) + 16 by omega, Int.pow_add, hr]
    have : (1062 : Int) ^ 16 % 3329 = (-1) % 3329 := by decide +kernel
    rw [cg_mul (a := r) (b := r) rfl this, Int.mul_neg_one]) 16
  have hc : sPow 3329 (kZ 0) (2 * j + 1) % 3329 = r ^ 2 % 3329 := by
    rw [sPow_m, hz, ← hr, ← Int.pow_mul, Nat.mul_comm (2 * j + 1) 2, Int.pow_mul]
    exact cg_pow (by decide +kernel) _
  generalize hC : sPow 3329 (kZ 0) (2 * j + 1) = C at hc
  have e0 : sVal 0 f (2 * j) = sPol (fun u => f (0 + 2 * u)) C 8 % 3329 := by
    unfold sVal
    rw [if_pos rfl, hq, show 2 * j % 2 = 0 by omega, show 2 * (2 * j / 2) + 1 = 2 * j + 1 by omega, hC]
  have e1 : sVal 0 f (2 * j + 1) = sPol (fun u => f (1 + 2 * u)) C 8 % 3329 := by
    unfold sVal
    rw [if_pos rfl, hq, show (2 * j + 1) % 2 = 1 by omega, show 2 * ((2 * j + 1) / 2) + 1 = 2 * j + 1 by omega, hC]
  generalize hE : sPol (fun u => f (0 + 2 * u)) (r ^ 2) 8 = A
  generalize hO : sPol (fun u => f (1 + 2 * u)) (r ^ 2) 8 = B
  have u0 : sVal 0 f (2 * j) % 3329 = A % 3329 := by rw [e0, cg_m, ← hE]; exact cg_pol _ hc 8
  have u1 : sVal 0 f (2 * j + 1) % 3329 = B % 3329 := by rw [e1, cg_m, ← hO]; exact cg_pol _ hc 8
  have t1 : sTst f j % 3329 = ((A + r * B) * (A + -r * B)) % 3329 := by
    unfold sTst
    rw [hC]
    have : (A + r * B) * (A + -r * B) = A * A - B * B * r ^ 2 := by
      rw [Int.add_mul, Int.mul_add, Int.mul_add, Int.pow_succ, Int.pow_succ, Int.pow_zero, Int.one_mul]
      have h1 : A * (-r * B) = -(r * B * A) := by rw [Int.neg_mul, Int.mul_neg, Int.mul_comm]
      have h2 : r * B * (-r * B) = -(B * B * (r * r)) := by
        rw [Int.neg_mul, Int.mul_neg]
        congr 1
        rw [Int.mul_assoc, Int.mul_left_comm B r B, ← Int.mul_assoc, Int.mul_comm (r * r)]
      rw [h1, h2]
      omega
    rw [this]
    exact cg_sub (cg_mul u0 u0) (cg_mul ((cg_m _ _).trans (cg_mul u1 u1)) hc)
  have f1 : sPol f r 16 = A + r * B := by rw [show 16 = 2 * 8 from rfl, pol_two, hE, hO]
  have f2 : sPol f (-r) 16 = A + -r * B := by
    rw [show 16 = 2 * 8 from rfl, pol_two, show (-r) ^ 2 = r ^ 2 by rw [Int.pow_succ, Int.pow_succ, Int.pow_zero, Int.one_mul, Int.neg_mul_neg, Int.pow_succ, Int.pow_succ, Int.pow_zero, Int.one_mul], hE, hO]
  rw [p1, p2, f1, f2, t1]
  constructor
  · exact pr_int
  · intro h
    rcases h with h | h
    · rw [Int.mul_emod, h, Int.zero_mul]; rfl
    · rw [Int.mul_emod, h, Int.mul_zero]; rfl
/-- all sixteen zeros, and the reference's eight tests -/
theorem un_all (f : Nat → Int) : sUnit 0 f 16 ↔ ∀ j, j < 8 → ¬ sTst f j % 3329 = 0 := by
  have hq : kQ 0 = 3329 := by decide +kernel
  unfold sUnit
  rw [hq]
  constructor
  · intro h j hj ht
    rcases (un_pair f j).mp ht with h1 | h1
    · exact h j (by omega) h1
    · exact h (j + 8) (by omega) h1
  · intro h i hi h0
    by_cases h8 : i < 8
    · exact h i h8 ((un_pair f i).mpr (Or.inl h0))
    · have e : i = (i - 8) + 8 := by omega
      rw [e] at h0
      exact h (i - 8) (by omega) ((un_pair f (i - 8)).mpr (Or.inr h0))
end
section
/-! Math.min, Math.max in numbers; a world of nothing. -/
set_option maxRecDepth 100000 in
theorem uMinC : Cond.code Lib.Math.min.name Lib.Math.min.code 2 (some .int) ∈ wsU := by decide +kernel
set_option maxRecDepth 100000 in
theorem uMaxC : Cond.code Lib.Math.max.name Lib.Math.max.code 2 (some .int) ∈ wsU := by decide +kernel
set_option maxRecDepth 100000 in
theorem uMinS : Cond.static Lib.Math.min.name ∈ wsU := by decide +kernel
set_option maxRecDepth 100000 in
theorem uMaxS : Cond.static Lib.Math.max.name ∈ wsU := by decide +kernel
set_option maxRecDepth 100000 in
theorem uMathI : Cond.initialized "java/lang/Math" ∈ wsU := by decide +kernel
section IXM
variable {p : Program} {l : Launch} {e : Env} {R : Room} {s : State} {m : MethodId} {args : Array Value} {below : List Frame} {meth : Method} {c : Code} {H : Heap} {locs : List Loc} {cells slots : Nat} {Q : State → Prop}
variable {cc : ByteArray} {pc : Nat} {ls : Array Slot} {rest : List Value}
theorem ix_mmin (hexec : p.tables.exec = Jvm.exec) (hb : c.code = cc) (hts : ∀ w ∈ wsU, w.before args s = true) (hml : c.maxLocals = ls.size) {own : String} {index : Nat} (hown : s.vm.findClass own = some m.cls) (hlink : Cond.methodLink own index Lib.Math.min.name ∈ wsU) {a b : Int} (a1 : -2147483648 ≤ a) (a2 : a < 2147483648) (b1 : -2147483648 ≤ b) (b2 : b < 2147483648)
    (hframes : 1 ≤ R.frames) (hlocals : (rest.map fun v => v.category).sum + 13 ≤ R.locals) (hc : cells ≤ R.cells) (hs : slots ≤ R.slots) (hdg : decode cc pc = .ok (.invokestatic index, 3))
    (kk : W p l e R s m args below meth c H locs cells slots Q (F0 m (pc + 3) ls (.int (iI (if b < a then b else a)) :: rest))) : W p l e R s m args below meth c H locs cells slots Q (F0 m pc ls (.int (iI b) :: .int (iI a) :: rest)) := by
  refine va_mmin hexec hb hml hown (hts _ hlink) (hts _ uMinS) (hts _ uMathI) (hts _ uMinC) hframes hlocals hc hs hdg (wx_i ?_ kk)
  have h := iI_lt b1 b2 a1 a2
  by_cases hh : b < a
  · rw [if_pos hh, if_pos (h.mpr hh)]
  · rw [if_neg hh, if_neg (fun q => hh (h.mp q))]
theorem ix_mmax (hexec : p.tables.exec = Jvm.exec) (hb : c.code = cc) (hts : ∀ w ∈ wsU, w.before args s = true) (hml : c.maxLocals = ls.size) {own : String} {index : Nat} (hown : s.vm.findClass own = some m.cls) (hlink : Cond.methodLink own index Lib.Math.max.name ∈ wsU) {a b : Int} (a1 : -2147483648 ≤ a) (a2 : a < 2147483648) (b1 : -2147483648 ≤ b) (b2 : b < 2147483648)
    (hframes : 1 ≤ R.frames) (hlocals : (rest.map fun v => v.category).sum + 13 ≤ R.locals) (hc : cells ≤ R.cells) (hs : slots ≤ R.slots) (hdg : decode cc pc = .ok (.invokestatic index, 3))
    (kk : W p l e R s m args below meth c H locs cells slots Q (F0 m (pc + 3) ls (.int (iI (if a < b then b else a)) :: rest))) : W p l e R s m args below meth c H locs cells slots Q (F0 m pc ls (.int (iI b) :: .int (iI a) :: rest)) := by
  refine va_mmax hexec hb hml hown (hts _ hlink) (hts _ uMaxS) (hts _ uMathI) (hts _ uMaxC) hframes hlocals hc hs hdg (wx_i ?_ kk)
  have h := iI_lt a1 a2 b1 b2
  by_cases hh : a < b
  · rw [if_pos hh, if_pos (h.mpr hh)]
  · rw [if_neg hh, if_neg (fun q => hh (h.mp q))]
/-- a start of which nothing is asked -/
theorem gn_S {As : List Value} : PreS s H (va_Pc As (fun _ => True)) As := ⟨fun a U g mk h => ⟨h.1, trivial⟩, fun U hU hW => ⟨rfl, trivial⟩⟩
end IXM
/-! the sign of an exclusive or -/
theorem iI_xor {a b : Int} (a1 : -2147483648 ≤ a) (a2 : a < 2147483648) (b1 : 0 < b) (b2 : b < 2147483648) : (0 : Int32) ≤ iI a ^^^ iI b ↔ 0 ≤ a := by
  have ha := iI_toInt a1 a2
  have hb := iI_toInt (z := b) (by omega) b2
  have h1 : (iI a).toBitVec.msb = decide (a < 0) := by
    have : (iI a).toBitVec.msb = decide ((iI a).toInt < 0) := BitVec.msb_eq_toInt
    rw [this, ha]
  have h2 : (iI b).toBitVec.msb = false := by
    have : (iI b).toBitVec.msb = decide ((iI b).toInt < 0) := BitVec.msb_eq_toInt
    rw [this, hb]
    exact decide_eq_false (by omega)
  have h3 : (iI a ^^^ iI b).toBitVec.msb = decide ((iI a ^^^ iI b).toInt < 0) := BitVec.msb_eq_toInt
  have h4 : (iI a ^^^ iI b).toBitVec.msb = ((iI a).toBitVec.msb ^^ (iI b).toBitVec.msb) := by
    rw [Int32.toBitVec_xor]
    exact BitVec.msb_xor
  rw [h1, h2, Bool.xor_false] at h4
  rw [h4] at h3
  have h5 : a < 0 ↔ (iI a ^^^ iI b).toInt < 0 := by
    have := congrArg (fun x => x = true) h3
    simpa using this
  rw [Int32.le_iff_toInt_le, Int32.toInt_zero]
  omega
theorem lI_xor {a b : Int} (a1 : -9223372036854775808 ≤ a) (a2 : a < 9223372036854775808) (b1 : 0 < b) (b2 : b < 9223372036854775808) : (lI a ^^^ lI b).toInt < 0 ↔ a < 0 := by
  have ha := lI_toInt a1 a2
  have hb := lI_toInt (z := b) (by omega) b2
  have h1 : (lI a).toBitVec.msb = decide (a < 0) := by
    have : (lI a).toBitVec.msb = decide ((lI a).toInt < 0) := BitVec.msb_eq_toInt
    rw [this, ha]
  have h2 : (lI b).toBitVec.msb = false := by
    have : (lI b).toBitVec.msb = decide ((lI b).toInt < 0) := BitVec.msb_eq_toInt
    rw [this, hb]
    exact decide_eq_false (by omega)
  have h3 : (lI a ^^^ lI b).toBitVec.msb = decide ((lI a ^^^ lI b).toInt < 0) := BitVec.msb_eq_toInt
  have h4 : (lI a ^^^ lI b).toBitVec.msb = ((lI a).toBitVec.msb ^^ (lI b).toBitVec.msb) := by
    rw [Int64.toBitVec_xor]
    exact BitVec.msb_xor
  rw [h1, h2, Bool.xor_false] at h4
  rw [h4] at h3
  have := congrArg (fun x => x = true) h3
  simpa using this.symm
/-- the machine's remainder and the document's -/
theorem tm_em {a b : Int} (hb : 0 < b) : a % b = if 0 ≤ a then a.tmod b else if a.tmod b = 0 then 0 else a.tmod b + b := by
  have h1 := Int.emod_add_mul_ediv a b
  have h2 := Int.tmod_add_mul_tdiv a b
  by_cases h : 0 ≤ a
  · rw [if_pos h, Int.tmod_eq_emod_of_nonneg h]
  · rw [if_neg h]
    split
    · next h0 => exact tm_z.mp h0
    · next h0 =>
      have h3 : a.tmod b = -((-a).tmod b) := by rw [Int.neg_tmod, Int.neg_neg]
      have h4 : (-a).tmod b = (-a) % b := Int.tmod_eq_emod_of_nonneg (by omega)
      have h5 := Int.emod_nonneg (-a) (show b ≠ 0 by omega)
      have h6 := Int.emod_lt_of_pos (-a) hb
      have h7 : (-a) % b ≠ 0 := fun q => h0 (by rw [h3, h4, q]; rfl)
      have h8 : (a % b) = ((-((-a) % b)) % b) := by
        have := cg_neg (q := b) (a := (-a) % b) (b := -a) (cg_m b (-a))
        rw [Int.neg_neg] at this
        exact this.symm
      rw [h8, h3, h4]
      have h9 : (-((-a) % b)) % b = (-((-a) % b) + b) % b := by rw [Int.add_emod_right]
      rw [h9, Int.emod_eq_of_lt (by omega) (by omega)]
end
section
/-! The class's world: the object, its rows, its work row; the statics that it reads; Throwable's statics. -/
abbrev WX : Type := va_G × (ClassId × ClassId) × (Nat × Nat × Nat) × (Nat → Nat) × (Nat → Nat)
def oI (ω : WX) : ClassId := ω.2.1.1
def oC (ω : WX) : ClassId := ω.2.1.2
def ox (ω : WX) : Nat := ω.2.2.1.1
def og (ω : WX) : Nat := ω.2.2.1.2.1
def ow (ω : WX) : Nat := ω.2.2.1.2.2
def oR (ω : WX) : Nat → Nat := ω.2.2.2.1
def oT (ω : WX) : Nat → Nat := ω.2.2.2.2
def Ax (ω : WX) : Nat → Prop := fun a => a = ox ω ∨ a = og ω ∨ a = ow ω ∨ ∃ r, r < 12 ∧ a = oR ω r
def oD (ω : WX) : Prop := (ox ω ≠ og ω ∧ ox ω ≠ ow ω ∧ og ω ≠ ow ω) ∧ (∀ r, r < 12 → oR ω r ≠ ox ω ∧ oR ω r ≠ og ω ∧ oR ω r ≠ ow ω) ∧ ∀ r t, r < 12 → t < 12 → oR ω r = oR ω t → r = t
def tbM (j : Nat) : Int := if j = 0 then 3329 else 8380417
def tbB (j : Nat) : Int := if j = 0 then 11 else 22
def tbR (j : Nat) : Int := if j = 0 then 17 else 1753
def tbZ (j : Nat) : Int := if j = 0 then 8 else 16
def sx_1 (ω : WX) (i : Nat) (n : String) (f : Nat → Int) (U : State) (H : Heap) : Prop := va_Z RX0 n "[I" (.ref (oT ω i)) (Ax ω) U H ∧ va_T .int (oT ω i) 2 (fun j => .int (iI (f j))) (Ax ω) U H
theorem sx_1.moved {ω : WX} {i : Nat} {n : String} {f : Nat → Int} {u U : State} {H : Heap} (h : u.vm.Alike U.vm) (k : sx_1 ω i n f u H) : sx_1 ω i n f U H := ⟨va_Z.moved h k.1, va_T.moved h k.2⟩
theorem sx_1.kept {ω : WX} {i : Nat} {n : String} {f : Nat → Int} {U : State} {H H1 : Heap} (h : ∀ a : Nat, a < H.size → ¬ Ax ω a → H1[a]? = H[a]?) (k : sx_1 ω i n f U H) : sx_1 ω i n f U H1 := ⟨k.1.kept h, k.2.kept h⟩
def SX (ω : WX) (U : State) (H : Heap) : Prop := sx_1 ω 0 "MODULUS" tbM U H ∧ sx_1 ω 1 "MOST_BITS" tbB U H ∧ sx_1 ω 2 "BASE_ROOT" tbR U H ∧ sx_1 ω 3 "ZERO_EXPONENT" tbZ U H
theorem SX.moved {ω : WX} {u U : State} {H : Heap} (h : u.vm.Alike U.vm) (k : SX ω u H) : SX ω U H := ⟨k.1.moved h, k.2.1.moved h, k.2.2.1.moved h, k.2.2.2.moved h⟩
theorem SX.kept {ω : WX} {U : State} {H H1 : Heap} (h : ∀ a : Nat, a < H.size → ¬ Ax ω a → H1[a]? = H[a]?) (k : SX ω U H) : SX ω U H1 := ⟨k.1.kept h, k.2.1.kept h, k.2.2.1.kept h, k.2.2.2.kept h⟩
abbrev nNSE : String := "java/util/NoSuchElementException"
abbrev nIAE : String := "java/lang/IllegalArgumentException"
/-- what a throw and a catch need beside the good words: Throwable's statics, the texts, three words on constructors, three on classes -/
def EX (ω : WX) (U : State) (H : Heap) : Prop := (vx_Zq Bundle.tN "UNASSIGNED_STACK" Bundle.steD (Ax ω) U H ∧ vx_Zq Bundle.tN "SUPPRESSED_SENTINEL" Bundle.listD (Ax ω) U H) ∧ (vk_R "NoiseRing" 115 "no such register" (oT ω 4) U ∧ vk_R "NoiseRing" 120 "no such coefficient" (oT ω 5) U ∧ vk_R "NoiseRing" 124 "an argument that can't be" (oT ω 6) U) ∧
  (va_Nw (.declares (Bundle.initS "java/lang/RuntimeException")) U ∧ va_Nw (.declares (Bundle.initS "java/lang/Exception")) U ∧ va_Nw (.declares (Bundle.initS Bundle.tN)) U) ∧ va_Nw (.castable nNSE nNSE) U ∧ va_Nw (.castable nIAE nIAE) U ∧ va_Nc nIAE nNSE U
theorem EX.moved {ω : WX} {u U : State} {H : Heap} (h : u.WarmedH U.vm) (k : EX ω u H) : EX ω U H := ⟨⟨k.1.1.moved h.alike, k.1.2.moved h.alike⟩, ⟨k.2.1.1.warm h, k.2.1.2.1.warm h, k.2.1.2.2.warm h⟩, ⟨k.2.2.1.1.warmD h, k.2.2.1.2.1.warmD h, k.2.2.1.2.2.warmD h⟩, k.2.2.2.1.warmC h, k.2.2.2.2.1.warmC h, k.2.2.2.2.2.moved h.alike⟩
theorem EX.kept {ω : WX} {U : State} {H H1 : Heap} (h : ∀ a : Nat, a < H.size → ¬ Ax ω a → H1[a]? = H[a]?) (k : EX ω U H) : EX ω U H1 := ⟨⟨k.1.1.kept h, k.1.2.kept h⟩, k.2⟩
/-- the tables and the statics -/
def BX (ω : WX) (U : State) (H : Heap) : Prop := va_K ω.1 vwCl [(oI ω, .int), (oC ω, .array .int)] U ∧ (SX ω U H ∧ EX ω U H) ∧ oD ω
theorem BX.moved {ω : WX} {u U : State} {H : Heap} (h : u.WarmedH U.vm) (k : BX ω u H) : BX ω U H := ⟨va_K.moved h.alike k.1, ⟨k.2.1.1.moved h.alike, k.2.1.2.moved h⟩, k.2.2⟩
theorem BX.kept {ω : WX} {U : State} {H H1 : Heap} (h : ∀ a : Nat, a < H.size → ¬ Ax ω a → H1[a]? = H[a]?) (k : BX ω U H) : BX ω U H1 := ⟨k.1, ⟨k.2.1.1.kept h, k.2.1.2.kept h⟩, k.2.2⟩
/-- the cells -/
def CX (ω : WX) (k q z : Int) (M : Nat → Nat → Int) (wk : Nat → Int) (H : Heap) : Prop :=
  va_P ω.1 vwCl [(ox ω, .inr (0, [.ref (og ω), .ref (ow ω), .int (iI k), .int (iI q), .int (iI z)]))] H ∧ H[og ω]? = some (vp_cell (oC ω) (12, .inr (.inr (.inr (.inr (fun r => some (oR ω r))))))) ∧ H[ow ω]? = some (vp_cell (oI ω) (16, .inl (fun i => iI (wk i)))) ∧
    ∀ r, r < 12 → H[oR ω r]? = some (vp_cell (oI ω) (16, .inl (fun i => iI (M r i))))
def GX (ω : WX) (k q z : Int) (M : Nat → Nat → Int) (wk : Nat → Int) (U : State) (H : Heap) : Prop := BX ω U H ∧ CX ω k q z M wk H
theorem GX.moved {ω : WX} {k q z : Int} {M : Nat → Nat → Int} {wk : Nat → Int} {u U : State} {H : Heap} (h : u.WarmedH U.vm) (g : GX ω k q z M wk u H) : GX ω k q z M wk U H := ⟨g.1.moved h, g.2⟩
theorem CX.kept {ω : WX} {k q z : Int} {M : Nat → Nat → Int} {wk : Nat → Int} {H H1 : Heap} (h : ∀ a : Nat, a < H.size → H1[a]? = H[a]?) (c : CX ω k q z M wk H) : CX ω k q z M wk H1 := by
  have lt : ∀ {a : Nat} {x : Cell}, H[a]? = some x → a < H.size := fun hx => (Array.getElem?_eq_some_iff.mp hx).1
  exact ⟨c.1.kept (fun a b hab => h _ ((c.1 a b hab).lt)), by rw [h _ (lt c.2.1)]; exact c.2.1, by rw [h _ (lt c.2.2.1)]; exact c.2.2.1, fun r hr => by rw [h _ (lt (c.2.2.2 r hr))]; exact c.2.2.2 r hr⟩
section GXR
variable {p : Program} {l : Launch} {e : Env} {R : Room} {s : State} {m : MethodId} {args : Array Value} {below : List Frame} {meth : Method} {c : Code} {H : Heap} {locs : List Loc} {cells slots : Nat} {Q : State → Prop}
variable {cc : ByteArray} {pc : Nat} {ls : Array Slot} {rest : List Value} {ω : WX} {k q z : Int} {M : Nat → Nat → Int} {wk : Nat → Int}
/-- a contract's start at a call -/
theorem gx_blind (av : List Value) : FrameBlind (va_Pc av (fun U => GX ω k q z M wk U U.heap)) := fun a U g mk h => ⟨h.1, GX.moved (u := U) (U := U.calling g mk a) (State.WarmedH.refl U) h.2⟩
theorem gx_S (hG : GX ω k q z M wk s H) {As : List Value} : PreS s H (va_Pc As (fun U => GX ω k q z M wk U U.heap)) As := ⟨gx_blind _, fun U hU hW => ⟨rfl, by have h := hG.moved hW; rw [← hU] at h; exact h⟩⟩
theorem gx_recv (hG : GX ω k q z M wk s H) : ∃ cell : Cell, H[ox ω]? = some cell ∧ cell.vm.isStatics = false ∧ s.vm.findClass RX0 = some cell.cls := va_recv (D := ω.1) (q := (RX0, TX0, 5)) (q0 := 0) (ci := 0) hG.1.1 hG.2.1 rfl rfl
theorem gx_V (hG : GX ω k q z M wk s H) {As : List Value} : PreV s H RX0 (ox ω) (va_Pc (.ref (ox ω) :: As) (fun U => GX ω k q z M wk U U.heap)) As := ⟨gx_blind _, gx_recv hG, fun U hU hW => ⟨rfl, by have h := hG.moved hW; rw [← hU] at h; exact h⟩⟩
theorem gx_row (hexec : p.tables.exec = Jvm.exec) (hb : c.code = cc) (hG : GX ω k q z M wk s H) {r : Nat} (hr : r < 12) (hdg : decode cc pc = .ok (.aaload, 1))
    (kk : W p l e R s m args below meth c H locs cells slots Q (F0 m (pc + 1) ls (.ref (oR ω r) :: rest))) : W p l e R s m args below meth c H locs cells slots Q (F0 m pc ls (.int (iI r) :: .ref (og ω) :: rest)) := by
  have hcl : (iI (r : Int)).toNatClampNeg = r := iI_cl (by omega)
  refine W.aald (v := .ref (oR ω r)) (ty := .array .int) hexec hb hG.2.2.1 ((hG.1.1.2 1 _ rfl).1 12 (fun j => .ref (oR ω j))) rfl (fun q => by cases q) ?_ ?_ rfl rfl hdg kk
  · show ¬ (_ ∨ (arrV _ _ _).slots.size ≤ _)
    rw [arrV_size]
    exact iI_in (n := 12) hr (by decide)
  · show (arrV _ _ _).slots[_]? = _
    rw [hcl, arrV_read _ _ hr]
    rfl
theorem gx_ild (hexec : p.tables.exec = Jvm.exec) (hb : c.code = cc) (hG : GX ω k q z M wk s H) {r i : Nat} (hr : r < 12) (hi : i < 16) (hdg : decode cc pc = .ok (.iaload, 1))
    (kk : W p l e R s m args below meth c H locs cells slots Q (F0 m (pc + 1) ls (.int (iI (M r i)) :: rest))) : W p l e R s m args below meth c H locs cells slots Q (F0 m pc ls (.int (iI i) :: .ref (oR ω r) :: rest)) := by
  have hcl : (iI (i : Int)).toNatClampNeg = i := iI_cl (by omega)
  refine W.iald (v := .int (iI (M r i))) hexec hb (hG.2.2.2.2 r hr) ((hG.1.1.2 0 _ rfl).1 16 (fun j => .int (iI (M r j)))) (fun q => by cases q) ?_ ?_ rfl rfl hdg kk
  · show ¬ (_ ∨ (arrV _ _ _).slots.size ≤ _)
    rw [arrV_size]
    exact iI_in (n := 16) hi (by decide)
  · show (arrV _ _ _).slots[_]? = _
    rw [hcl, arrV_read _ _ hi]
theorem gx_new {H1 : Heap} {a : Nat} (hG : GX ω k q z M wk s H) (ha : Ax ω a) (hz : H1.size = H.size) (oq : ∀ q, q ≠ a → H1[q]? = H[q]?) : BX ω s H1 := hG.1.kept (fun b _ hb => oq b (fun h => hb (h ▸ ha)))
theorem gx_ist (hexec : p.tables.exec = Jvm.exec) (hb : c.code = cc) (hG : GX ω k q z M wk s H) {H0 : Heap} (hS : va_S (Ax ω) H0 H locs) {r i : Nat} (hr : r < 12) (hi : i < 16) {v : Int} (hdg : decode cc pc = .ok (.iastore, 1))
    (kk : ∀ (H1 : Heap) (locs1 : List Loc), GX ω k q z (upR M r (upI (M r) i v)) wk s H1 → va_S (Ax ω) H0 H1 locs1 → W p l e R s m args below meth c H1 locs1 cells slots Q (F0 m (pc + 1) ls rest)) : W p l e R s m args below meth c H locs cells slots Q (F0 m pc ls (.int (iI v) :: .int (iI i) :: .ref (oR ω r) :: rest)) := by
  have hcl : (iI (i : Int)).toNatClampNeg = i := iI_cl (by omega)
  have hax : Ax ω (oR ω r) := Or.inr (Or.inr (Or.inr ⟨r, hr, rfl⟩))
  refine W.iast hexec hb (hG.2.2.2.2 r hr) ((hG.1.1.2 0 _ rfl).1 16 (fun j => .int (iI (M r j)))) (fun q => by cases q) ?_ rfl rfl hdg fun H1 e1 z1 oq => ?_
  · show ¬ (_ ∨ (arrV _ _ _).slots.size ≤ _)
    rw [arrV_size]
    exact iI_in (n := 16) hi (by decide)
  · obtain ⟨d1, d2, d3⟩ := hG.1.2.2
    obtain ⟨n1, n2, n3⟩ := d2 r hr
    refine kk H1 _ ⟨gx_new hG hax z1 oq, hG.2.1.kept (fun a b hab => ?_), ?_, ?_, fun t ht => ?_⟩ (hS.put z1 oq hax)
    · cases a with
      | zero => cases hab; exact oq _ (Ne.symm n1)
      | succ a => cases hab
    · rw [oq _ (Ne.symm n2)]; exact hG.2.2.1
    · rw [oq _ (Ne.symm n3)]; exact hG.2.2.2.1
    · by_cases htr : t = r
      · subst htr
        rw [e1, hcl, vp_cell_i, arrV_store, vp_cell_i]
        congr 2
        funext j
        unfold updV upR upI
        rw [if_pos rfl]
        split <;> rfl
      · rw [oq _ (fun h => htr (d3 t r ht hr h)), hG.2.2.2.2 t ht]
        unfold upR
        rw [if_neg htr]
theorem gx_get (hexec : p.tables.exec = Jvm.exec) (hb : c.code = cc) (hts : ∀ w ∈ wsU, w.before args s = true) (hown : s.vm.findClass "NoiseRing" = some m.cls) (hG : GX ω k q z M wk s H) (i : Nat) (hi : i < 5) {v : Value} (hv : ([.ref (og ω), .ref (ow ω), .int (iI k), .int (iI q), .int (iI z)] : List Value)[i]? = some v) {index : Nat} (hlink : Cond.fieldLink "NoiseRing" index "NoiseRing" (TX0 i).2.1 (TX0 i).2.2.1 ∈ wsU) (hdg : decode cc pc = .ok (.getfield index, 3))
    (kk : W p l e R s m args below meth c H locs cells slots Q (F0 m (pc + 3) ls (v :: rest))) : W p l e R s m args below meth c H locs cells slots Q (F0 m pc ls (.ref (ox ω) :: rest)) := by
  have hsame : ∀ x, s.fieldFound? (TX0 i).1 (TX0 i).2.1 (TX0 i).2.2.1 = some x → s.fieldFound? "NoiseRing" (TX0 i).2.1 (TX0 i).2.2.1 = some x := by
    have h0 : (TX0 i).1 = "NoiseRing" := by
      rcases (show i = 0 ∨ i = 1 ∨ i = 2 ∨ i = 3 ∨ i = 4 by omega) with rfl | rfl | rfl | rfl | rfl <;> rfl
    intro x hx
    rw [h0] at hx
    exact hx
  exact va_get (D := ω.1) (C := RX0) (T := TX0) (N := 5) hexec hb hts inX0 hown hG.1.1 hG.2.1 0 rfl rfl i hi (hts _ hlink) hsame hv hdg kk
end GXR
end
section
/-! Shifts and masks. The rows wb_ and pf_ are those of kit/laws/BITS.to-paste. -/
theorem wb_tb (n : Nat) : (lN n).toBitVec = BitVec.ofNat 64 n := rfl
theorem wb_inj {a b : Int64} (h : a.toBitVec = b.toBitVec) : a = b := Int64.toBitVec_inj.mp h
theorem wb_tn {n : Nat} (h : n < 2 ^ 64) : (lN n).toBitVec.toNat = n := by rw [wb_tb, BitVec.toNat_ofNat, Nat.mod_eq_of_lt h]
theorem wb_of (x : Int64) : ∃ n, n < 2 ^ 64 ∧ x = lN n := ⟨x.toBitVec.toNat, x.toBitVec.isLt, wb_inj (by rw [wb_tb]; simp)⟩
theorem wb_of32 (x : Int32) : ∃ n, n < 2 ^ 32 ∧ x = nI n := ⟨x.toBitVec.toNat, x.toBitVec.isLt, Int32.toBitVec_inj.mp (by show _ = BitVec.ofNat 32 _; simp)⟩
theorem wb_c : ∀ k, k < 64 → ((nI k).toInt64 &&& 63) = lN k := by decide +kernel
theorem wb_cu : ∀ k, k < 64 → ((nI k).toInt64.toUInt64 &&& Int64.toUInt64 63) = UInt64.ofNat k := by decide +kernel
theorem wb_sm : ∀ k, k < 64 → (BitVec.ofNat 64 k).smod 64 = BitVec.ofNat 64 k := by decide +kernel
theorem wb_pw {a b : Nat} (h : a ≤ b) : 2 ^ b = 2 ^ a * 2 ^ (b - a) := by rw [← Nat.pow_add]; congr 1; omega
theorem wb_lt2 {a b : Nat} (h : a < b) : 2 ^ a < 2 ^ b := Nat.pow_lt_pow_right (by decide) h
theorem wb_mod (n : Nat) : lN n = lN (n % 2 ^ 64) := wb_inj (by rw [wb_tb, wb_tb]; apply BitVec.eq_of_toNat_eq; rw [BitVec.toNat_ofNat, BitVec.toNat_ofNat, Nat.mod_mod])
theorem wb_shr {n k : Nat} (hn : n < 2 ^ 64) (hk : k < 64) : ((lN n).toUInt64 >>> ((nI k).toInt64.toUInt64 &&& Int64.toUInt64 63)).toInt64 = lN (n / 2 ^ k) := by
  rw [wb_cu k hk]
  apply wb_inj
  apply BitVec.eq_of_toNat_eq
  show ((lN n).toUInt64 >>> UInt64.ofNat k).toNat = (BitVec.ofNat 64 _).toNat
  have h1 : (UInt64.ofNat k).toNat = k := by
    show (BitVec.ofNat 64 k).toNat = k
    rw [BitVec.toNat_ofNat, Nat.mod_eq_of_lt (by omega)]
  have h2 : (lN n).toUInt64.toNat = n := wb_tn hn
  rw [UInt64.toNat_shiftRight, h1, h2, Nat.mod_eq_of_lt hk, Nat.shiftRight_eq_div_pow, BitVec.toNat_ofNat, Nat.mod_eq_of_lt (Nat.lt_of_le_of_lt (Nat.div_le_self _ _) hn)]
theorem wb_shl (n : Nat) {k : Nat} (hk : k < 64) : lN n <<< ((nI k).toInt64 &&& 63) = lN (n * 2 ^ k) := by
  rw [wb_c k hk]
  apply wb_inj
  rw [Int64.toBitVec_shiftLeft, wb_tb, wb_tb, wb_tb, wb_sm k hk]
  apply BitVec.eq_of_toNat_eq
  rw [BitVec.shiftLeft_eq', BitVec.toNat_shiftLeft, BitVec.toNat_ofNat, BitVec.toNat_ofNat, BitVec.toNat_ofNat, Nat.mod_eq_of_lt (show k < 2 ^ 64 by omega), Nat.shiftLeft_eq, Nat.mul_mod, Nat.mod_mod, ← Nat.mul_mod]
theorem wb_and {a b : Nat} (ha : a < 2 ^ 64) (hb : b < 2 ^ 64) : lN a &&& lN b = lN (a &&& b) := by
  apply wb_inj
  rw [Int64.toBitVec_and, wb_tb, wb_tb, wb_tb]
  apply BitVec.eq_of_toNat_eq
  rw [BitVec.toNat_and, BitVec.toNat_ofNat, BitVec.toNat_ofNat, BitVec.toNat_ofNat, Nat.mod_eq_of_lt ha, Nat.mod_eq_of_lt hb, Nat.mod_eq_of_lt (Nat.and_lt_two_pow _ hb)]
theorem wb_or {a b : Nat} (ha : a < 2 ^ 64) (hb : b < 2 ^ 64) : lN a ||| lN b = lN (a ||| b) := by
  apply wb_inj
  rw [Int64.toBitVec_or, wb_tb, wb_tb, wb_tb]
  apply BitVec.eq_of_toNat_eq
  rw [BitVec.toNat_or, BitVec.toNat_ofNat, BitVec.toNat_ofNat, BitVec.toNat_ofNat, Nat.mod_eq_of_lt ha, Nat.mod_eq_of_lt hb, Nat.mod_eq_of_lt (Nat.or_lt_two_pow ha hb)]
theorem wb_mask {n k : Nat} (hn : n < 2 ^ 64) (hk : k < 64) : lN n &&& lN (2 ^ k - 1) = lN (n % 2 ^ k) := by
  rw [wb_and hn (by have := wb_lt2 hk; omega), Nat.and_two_pow_sub_one_eq_mod]
theorem wb_a1 {n : Nat} (hn : n < 2 ^ 64) : lN n &&& 1 = lN (n % 2) := wb_mask (k := 1) hn (by decide)
theorem wb_bit {n k : Nat} (hn : n < 2 ^ 64) (hk : k < 64) : ((lN n).toUInt64 >>> ((nI k).toInt64.toUInt64 &&& Int64.toUInt64 63)).toInt64 &&& 1 = lN (n / 2 ^ k % 2) := by
  rw [wb_shr hn hk, wb_a1 (Nat.lt_of_le_of_lt (Nat.div_le_self _ _) hn)]
theorem pf_lI {a : Nat} (h : a < 2 ^ 63) : (lN a).toInt = (a : Int) := lg_ofNat_toInt h
theorem pf_shr {a d : Nat} {D : Int64} (hD : (D.toBitVec.smod 64).toNat = d) (h : a < 2 ^ 62) : lN a >>> D = lN (a / 2 ^ d) := by
  have hd : a / 2 ^ d ≤ a := Nat.div_le_self _ _
  apply Int64.toInt_inj.mp
  have e : (lN a >>> D).toInt = (lN a).toInt >>> d := by
    rw [← hD]
    exact BitVec.toInt_sshiftRight ..
  rw [e, Int.shiftRight_eq_div_pow, pf_lI (by omega), pf_lI (by omega)]
  rfl
theorem sh_l : ∀ n, n < 32 → ((nI n &&& 31).toBitVec.smod 32).toNat = n := by decide +kernel
theorem sh_L : ∀ n, n < 64 → (((nI n).toInt64 &&& 63).toBitVec.smod 64).toNat = n := by decide +kernel
theorem sh_U : ∀ k, k < 128 → ((nI k).toInt64.toUInt64 &&& Int64.toUInt64 63) = ((nI (k % 64)).toInt64.toUInt64 &&& Int64.toUInt64 63) := by decide +kernel
theorem pw_c (d : Nat) : ((2 ^ d : Nat) : Int) = 2 ^ d := Int.natCast_pow 2 d
theorem pw_in {d : Nat} (h : d ≤ 22) : 1 ≤ (2 : Int) ^ d ∧ (2 : Int) ^ d ≤ 4194304 := by
  rw [← pw_c]
  have h1 : 2 ^ d ≤ 2 ^ 22 := Nat.pow_le_pow_right (by decide) h
  have h2 : 1 ≤ 2 ^ d := Nat.one_le_two_pow
  omega
theorem pw_half {d : Nat} (h : 1 ≤ d) : (2 : Int) ^ d = 2 * 2 ^ (d - 1) := by
  have : d = (d - 1) + 1 := by omega
  rw [this, Int.pow_succ, Int.mul_comm]
  simp
theorem iI_shl1 {d : Nat} (hd : d < 31) : iI 1 <<< (iI d &&& 31) = iI (2 ^ d) := by
  have h := pk_shlN (n := 1) (nI d &&& 31) d (sh_l d (by omega)) (by rw [Nat.one_mul]; exact wb_lt2 (by omega))
  rw [Nat.one_mul, iI_nI, iI_nI, iI_nI, pw_c] at h
  exact h
theorem iI_shr {a : Int} {d : Nat} (a1 : 0 ≤ a) (a2 : a < 2147483648) (hd : d < 32) : iI a >>> (iI d &&& 31) = iI (a / 2 ^ d) := by
  obtain ⟨n, rfl⟩ := Int.eq_ofNat_of_zero_le a1
  have h := pk_shrN (n := n) (by omega) (nI d &&& 31) d (sh_l d hd)
  rw [iI_nI, iI_nI, iI_nI, Int.natCast_ediv, pw_c] at h
  exact h
theorem iI_mask {a : Int} {d : Nat} (a1 : 0 ≤ a) (a2 : a < 2147483648) (hd : d < 31) : iI a &&& iI (2 ^ d - 1) = iI (a % 2 ^ d) := by
  obtain ⟨n, rfl⟩ := Int.eq_ofNat_of_zero_le a1
  have h2 : 2 ^ d < 2 ^ 31 := wb_lt2 hd
  have h1 : 1 ≤ 2 ^ d := Nat.one_le_two_pow
  have h3 : (2 : Int) ^ d - 1 = ((2 ^ d - 1 : Nat) : Int) := by rw [← pw_c]; omega
  rw [h3, ← iI_nI, ← iI_nI]
  have h := pk_andN (n := n) (by omega) (m := nI (2 ^ d - 1)) d (pk_tn (by omega))
  rw [h, iI_nI, Int.natCast_emod, pw_c]
theorem lI_shl {a : Int} {d : Nat} (a1 : 0 ≤ a) (hd : d < 64) : lI a <<< ((iI d).toInt64 &&& 63) = lI (a * 2 ^ d) := by
  obtain ⟨n, rfl⟩ := Int.eq_ofNat_of_zero_le a1
  have h := wb_shl n hd
  rw [lI_lN, lI_lN, iI_nI, Int.natCast_mul, pw_c] at h
  exact h
theorem lI_shr {a : Int} {d : Nat} (a1 : 0 ≤ a) (a2 : a < 4611686018427387904) (hd : d < 64) : lI a >>> ((iI d).toInt64 &&& 63) = lI (a / 2 ^ d) := by
  obtain ⟨n, rfl⟩ := Int.eq_ofNat_of_zero_le a1
  have h := pf_shr (a := n) (sh_L d hd) (by omega)
  rw [lI_lN, lI_lN, iI_nI, Int.natCast_ediv, pw_c] at h
  exact h
/-- bit k of a word, the shift taken modulo 64 -/
theorem lI_bit (w : Int64) {k : Nat} (hk : k < 128) : (w.toUInt64 >>> ((iI k).toInt64.toUInt64 &&& Int64.toUInt64 63)).toInt64 &&& lI 1 = lI ((w.toBitVec.toNat / 2 ^ (k % 64) % 2 : Nat) : Int) := by
  have hw : w = lN w.toBitVec.toNat := wb_inj (by rw [wb_tb]; simp)
  have h := wb_bit (n := w.toBitVec.toNat) (k := k % 64) w.toBitVec.isLt (by omega)
  rw [← hw, ← sh_U k hk, lI_lN, iI_nI] at h
  exact h
section IXB
variable {p : Program} {l : Launch} {e : Env} {R : Room} {s : State} {m : MethodId} {args : Array Value} {below : List Frame} {meth : Method} {c : Code} {H : Heap} {locs : List Loc} {cells slots : Nat} {Q : State → Prop}
variable {cc : ByteArray} {pc : Nat} {ls : Array Slot} {rest : List Value}
theorem ix_ishl1 (hexec : p.tables.exec = Jvm.exec) (hb : c.code = cc) {d : Nat} (hd : d < 31) (hdg : decode cc pc = .ok (.ishl, 1)) (k : W p l e R s m args below meth c H locs cells slots Q (F0 m (pc + 1) ls (.int (iI (2 ^ d)) :: rest))) : W p l e R s m args below meth c H locs cells slots Q (F0 m pc ls (.int (iI d) :: .int (iI 1) :: rest)) := lv_ishl hexec hb hdg (wx_i (iI_shl1 hd) k)
theorem ix_ishr (hexec : p.tables.exec = Jvm.exec) (hb : c.code = cc) {a : Int} {d : Nat} (a1 : 0 ≤ a) (a2 : a < 2147483648) (hd : d < 32) (hdg : decode cc pc = .ok (.ishr, 1)) (k : W p l e R s m args below meth c H locs cells slots Q (F0 m (pc + 1) ls (.int (iI (a / 2 ^ d)) :: rest))) : W p l e R s m args below meth c H locs cells slots Q (F0 m pc ls (.int (iI d) :: .int (iI a) :: rest)) := lv_ishr hexec hb hdg (wx_i (iI_shr a1 a2 hd) k)
theorem ix_mask (hexec : p.tables.exec = Jvm.exec) (hb : c.code = cc) {a : Int} {d : Nat} (a1 : 0 ≤ a) (a2 : a < 2147483648) (hd : d < 31) (hdg : decode cc pc = .ok (.iand, 1)) (k : W p l e R s m args below meth c H locs cells slots Q (F0 m (pc + 1) ls (.int (iI (a % 2 ^ d)) :: rest))) : W p l e R s m args below meth c H locs cells slots Q (F0 m pc ls (.int (iI (2 ^ d - 1)) :: .int (iI a) :: rest)) := lv_iand hexec hb hdg (wx_i (iI_mask a1 a2 hd) k)
theorem ix_lshl (hexec : p.tables.exec = Jvm.exec) (hb : c.code = cc) {a : Int} {d : Nat} (a1 : 0 ≤ a) (hd : d < 64) (hdg : decode cc pc = .ok (.lshl, 1)) (k : W p l e R s m args below meth c H locs cells slots Q (F0 m (pc + 1) ls (.long (lI (a * 2 ^ d)) :: rest))) : W p l e R s m args below meth c H locs cells slots Q (F0 m pc ls (.int (iI d) :: .long (lI a) :: rest)) := lv_lshl hexec hb hdg (lI_shl a1 hd) k
theorem ix_lshr (hexec : p.tables.exec = Jvm.exec) (hb : c.code = cc) {a : Int} {d : Nat} (a1 : 0 ≤ a) (a2 : a < 4611686018427387904) (hd : d < 64) (hdg : decode cc pc = .ok (.lshr, 1)) (k : W p l e R s m args below meth c H locs cells slots Q (F0 m (pc + 1) ls (.long (lI (a / 2 ^ d)) :: rest))) : W p l e R s m args below meth c H locs cells slots Q (F0 m pc ls (.int (iI d) :: .long (lI a) :: rest)) := lv_lshr hexec hb hdg (lI_shr a1 a2 hd) k
end IXB
end
section
/-! Contracts of the class's read-only helpers, by program (wip/gen/x0.py). -/
set_option maxHeartbeats 4000000 in
set_option maxRecDepth 100000 in
theorem c_floorModI (l : Launch)  (a b : Int) (a1 : -2147483648 ≤ a) (a2 : a < 2147483648) (b1 : 0 < b) (b2 : b < 2147483648) : Met l yJ_floorModI wsJ_floorModI ({ frames := 0, cells := 0, slots := 0, locals := 0 }) (va_Pc [.int (iI (a)), .int (iI (b))] (fun _ => True)) (vp_Si (fun r_ => r_ = iI (a % b))) 0 0 (fun _ => False) := by
  refine va_MetF (cc := cJ_floorModI) (maxL := 3) (ret := (some .int)) (by decide +kernel) rfl ?_
  intro p e s m args below meth c s₁ B hml hv
  obtain ⟨rfl, hG⟩ := hv
  have hx := B.exec
  have hb := B.bytes
  have hrt := B.returns
  have hts : ∀ w ∈ wsU, w.before _ s = true := fun w h => atoms_spec (ws := wsJ_floorModI) B.pre w (List.mem_cons_of_mem _ h)
  have hown : s.vm.findClass "java/lang/Math" = some m.cls := findClass_of_methodNamed B.named
  have hlocks := B.notSynchronized
  have hl := lv_entry ([.int (iI (a)), .int (iI (b))]) (n := 3) (Nat.le_of_ble_eq_true rfl)
  rw [lg_entry_eq]
  generalize (lg_sl ([.int (iI (a)), .int (iI (b))]) ++ List.replicate (3 - (lg_sl ([.int (iI (a)), .int (iI (b))])).length) Slot.unset).toArray = ls at hl ⊢
  have hl : lv_has ls 3 [(0, .int (iI (a))), (1, .int (iI (b)))] := hl
  have hT := tm_em (a := a) b1
  have hL1 := Int.tmod_lt_of_pos a b1
  have hL2 : -b < a.tmod b := by
    have h9 := Int.lt_tmod_of_pos a b1
    omega
  refine lv_iload_n hx hb dJ_floorModI_0 rfl (lv_at hl 0 rfl) ?_
  refine lv_iload_n hx hb dJ_floorModI_1 rfl (lv_at hl 1 rfl) ?_
  refine ix_iremT hx hb a1 a2 b1 b2 dJ_floorModI_2 ?_
  refine lv_istore_n (lv' := [(2, .int (iI (a.tmod b))), (0, .int (iI (a))), (1, .int (iI (b)))]) hx hb dJ_floorModI_3 rfl hl (by decide) rfl (fun ls hl => ?_)
  refine lv_iload_n hx hb dJ_floorModI_4 rfl (lv_at hl 1 rfl) ?_
  refine lv_iload_n hx hb dJ_floorModI_5 rfl (lv_at hl 2 rfl) ?_
  refine lv_ixor hx hb dJ_floorModI_6 ?_
  refine lv_if_ge (tgt := 18) hx hb dJ_floorModI_7 (by decide) (fun h7 => ?_) (fun h7 => ?_)
  · have h7 := (iI_xor a1 a2 b1 b2).mp h7
    rw [if_pos h7] at hT
    refine lv_iload_n hx hb dJ_floorModI_18 rfl (lv_at hl 0 rfl) ?_
    exact W.iret hx hb hrt (fun t ht hW => ⟨_, rfl, congrArg iI (hT.symm), ht⟩) t_nil dJ_floorModI_19
  · have h7 : ¬ 0 ≤ a := fun g => h7 ((iI_xor a1 a2 b1 b2).mpr g)
    rw [if_neg h7] at hT
    refine lv_iload_n hx hb dJ_floorModI_10 rfl (lv_at hl 0 rfl) ?_
    refine ix_if_eq (tgt := 18) hx hb (by omega) (by omega) dJ_floorModI_11 (by decide) (fun h11 => ?_) (fun h11 => ?_)
    · skip
      rw [if_pos h11] at hT
      refine lv_iload_n hx hb dJ_floorModI_18 rfl (lv_at hl 0 rfl) ?_
      exact W.iret hx hb hrt (fun t ht hW => ⟨_, rfl, congrArg iI (h11.trans hT.symm), ht⟩) t_nil dJ_floorModI_19
    · skip
      rw [if_neg h11] at hT
      refine lv_iload_n hx hb dJ_floorModI_14 rfl (lv_at hl 0 rfl) ?_
      refine lv_iload_n hx hb dJ_floorModI_15 rfl (lv_at hl 2 rfl) ?_
      refine ix_iadd hx hb dJ_floorModI_16 ?_
      exact W.iret hx hb hrt (fun t ht hW => ⟨_, rfl, congrArg iI (hT.symm), ht⟩) t_nil dJ_floorModI_17
set_option maxHeartbeats 4000000 in
set_option maxRecDepth 100000 in
theorem c_nearRest (l : Launch)  (x a : Int) (x1 : 0 ≤ x) (x2 : x < 2147483648) (a1 : 0 < a) (a2 : a < 1073741824) (a3 : a % 2 = 0) : Met l yX0_nearRest wsX0_nearRest ({ frames := 0, cells := 0, slots := 0, locals := 0 }) (va_Pc [.int (iI (x)), .int (iI (a))] (fun _ => True)) (vp_Si (fun r_ => r_ = iI (sNear x a))) 0 0 (fun _ => False) := by
  refine Met.ofW (cc := cX0_nearRest) (maxL := 3) (ret := (some .int)) (by decide +kernel) rfl ?_
  intro p e s m args below meth c s₁ B hml hv
  obtain ⟨rfl, hG⟩ := hv
  have hx := B.exec
  have hb := B.bytes
  have hrt := B.returns
  have hts : ∀ w ∈ wsU, w.before _ s = true := fun w h => atoms_spec (ws := wsX0_nearRest) B.pre w (List.mem_cons_of_mem _ h)
  have hown : s.vm.findClass "NoiseRing" = some m.cls := findClass_of_methodNamed B.named
  have hlocks := B.notSynchronized
  have hl := lv_entry ([.int (iI (x)), .int (iI (a))]) (n := 3) (Nat.le_of_ble_eq_true rfl)
  rw [lg_entry_eq]
  generalize (lg_sl ([.int (iI (x)), .int (iI (a))]) ++ List.replicate (3 - (lg_sl ([.int (iI (x)), .int (iI (a))])).length) Slot.unset).toArray = ls at hl ⊢
  have hl : lv_has ls 3 [(0, .int (iI (x))), (1, .int (iI (a)))] := hl
  have h1 := Int.emod_nonneg x (show a ≠ 0 by omega)
  have h2 := Int.emod_lt_of_pos x a1
  refine lv_iload_n hx hb dX0_nearRest_0 rfl (lv_at hl 0 rfl) ?_
  refine lv_iload_n hx hb dX0_nearRest_1 rfl (lv_at hl 1 rfl) ?_
  refine ix_irem hx hb (by omega) (by omega) (by omega) (by omega) dX0_nearRest_2 ?_
  refine lv_istore_n (lv' := [(2, .int (iI ((x % a)))), (0, .int (iI (x))), (1, .int (iI (a)))]) hx hb dX0_nearRest_3 rfl hl (by decide) rfl (fun ls hl => ?_)
  refine lv_iload_n hx hb dX0_nearRest_4 rfl (lv_at hl 0 rfl) ?_
  refine lv_iload_n hx hb dX0_nearRest_5 rfl (lv_at hl 2 rfl) ?_
  refine ix_iconst hx hb dX0_nearRest_6 ?_
  refine ix_idiv hx hb (by omega) (by omega) (by omega) (by omega) dX0_nearRest_7 ?_
  refine ix_icmp_le (tgt := 17) hx hb (by omega) (by omega) (by omega) (by omega) dX0_nearRest_8 (by decide) (fun h8 => ?_) (fun h8 => ?_)
  · skip
    refine lv_iload_n hx hb dX0_nearRest_17 rfl (lv_at hl 0 rfl) ?_
    exact W.iret hx hb hrt (fun t ht hW => ⟨_, rfl, congrArg iI (by unfold sNear; first | rw [if_pos (by omega)] | rw [if_neg (by omega)]), ht⟩) t_nil dX0_nearRest_18
  · skip
    refine lv_iload_n hx hb dX0_nearRest_11 rfl (lv_at hl 0 rfl) ?_
    refine lv_iload_n hx hb dX0_nearRest_12 rfl (lv_at hl 2 rfl) ?_
    refine ix_isub hx hb dX0_nearRest_13 ?_
    refine lv_goto (tgt := 18) hx hb dX0_nearRest_14 (by decide) ?_
    exact W.iret hx hb hrt (fun t ht hW => ⟨_, rfl, congrArg iI (by unfold sNear; first | rw [if_pos (by omega)] | rw [if_neg (by omega)]), ht⟩) t_nil dX0_nearRest_18
set_option maxHeartbeats 4000000 in
set_option maxRecDepth 100000 in
theorem c_power (l : Launch) (ω : WX) (k q z : Int) (M : Nat → Nat → Int) (wk : Nat → Int) (b : Int) (n : Nat) (hq1 : 3329 ≤ q) (hq2 : q ≤ 8380417) (b1 : 0 ≤ b) (b2 : b < 8380417) (n2 : n < 1000) : Met l yX0_power wsX0_power ({ frames := 0, cells := 0, slots := 0, locals := 0 }) (va_Pc [.ref (ox ω), .int (iI (b)), .int (iI (n))] (fun U => GX ω k q z M wk U U.heap)) (vp_Si (fun r_ => r_ = iI (sPow q b n))) 0 0 (fun _ => False) := by
  refine Met.ofW (cc := cX0_power) (maxL := 6) (ret := (some .int)) (by decide +kernel) rfl ?_
  intro p e s m args below meth c s₁ B hml hv
  obtain ⟨rfl, hG⟩ := hv
  have hx := B.exec
  have hb := B.bytes
  have hrt := B.returns
  have hts : ∀ w ∈ wsU, w.before _ s = true := fun w h => atoms_spec (ws := wsX0_power) B.pre w (List.mem_cons_of_mem _ h)
  have hown : s.vm.findClass "NoiseRing" = some m.cls := findClass_of_methodNamed B.named
  have hlocks := B.notSynchronized
  have hl := lv_entry ([.ref (ox ω), .int (iI (b)), .int (iI (n))]) (n := 6) (Nat.le_of_ble_eq_true rfl)
  rw [lg_entry_eq]
  generalize (lg_sl ([.ref (ox ω), .int (iI (b)), .int (iI (n))]) ++ List.replicate (6 - (lg_sl ([.ref (ox ω), .int (iI (b)), .int (iI (n))])).length) Slot.unset).toArray = ls at hl ⊢
  have hl : lv_has ls 6 [(0, .ref (ox ω)), (1, .int (iI (b))), (2, .int (iI (n)))] := hl
  refine ix_lconst1 hx hb dX0_power_0 ?_
  refine wx_l (congrArg lI (sPow_0 (q := q) (b := b) (by omega)).symm) ?_
  refine lv_lstore_n (lv' := [(3, .long (lI (sPow q b 0))), (0, .ref (ox ω)), (1, .int (iI (b))), (2, .int (iI (n)))]) hx hb dX0_power_1 rfl hl (by decide) rfl (fun ls hl => ?_)
  refine ix_iconst hx hb dX0_power_2 ?_
  refine lv_istore (lv' := [(5, .int (iI (0))), (3, .long (lI (sPow q b 0))), (0, .ref (ox ω)), (1, .int (iI (b))), (2, .int (iI (n)))]) hx hb dX0_power_3 hl (by decide) rfl (fun ls hl => ?_)
  refine ix_loop (I := fun j ls => lv_has ls 6 [(5, .int (iI ((j : Nat)))), (3, .long (lI (sPow q b (j)))), (2, .int (iI (n))), (1, .int (iI (b))), (0, .ref (ox ω))]) (n) 0 (by omega) (lv_sub hl [0, 1, 4, 3, 2] rfl) (fun ls hl => ?_) (fun j ls hj hl ih5 => ?_)
  · skip
    have hl : lv_has ls 6 [(5, .int (iI ((n : Nat)))), (3, .long (lI (sPow q b (n)))), (2, .int (iI (n))), (1, .int (iI (b))), (0, .ref (ox ω))] := hl
    refine lv_iload hx hb dX0_power_5 (lv_at hl 0 rfl) ?_
    refine lv_iload_n hx hb dX0_power_7 rfl (lv_at hl 2 rfl) ?_
    refine ix_icmp_ge (tgt := 28) hx hb (by omega) (by omega) (by omega) (by omega) dX0_power_8 (by decide) (fun h8 => ?_) (fun h8 => absurd h8 (by omega))
    refine lv_lload_n hx hb dX0_power_28 rfl (lv_at hl 1 rfl) ?_
    refine ix_l2i hx hb dX0_power_29 ?_
    exact W.iret hx hb hrt (fun t ht hW => ⟨_, rfl, rfl, ht⟩) t_nil dX0_power_30
  · skip
    have hl : lv_has ls 6 [(5, .int (iI ((j : Nat)))), (3, .long (lI (sPow q b (j)))), (2, .int (iI (n))), (1, .int (iI (b))), (0, .ref (ox ω))] := hl
    refine lv_iload hx hb dX0_power_5 (lv_at hl 0 rfl) ?_
    refine lv_iload_n hx hb dX0_power_7 rfl (lv_at hl 2 rfl) ?_
    refine ix_icmp_ge (tgt := 28) hx hb (by omega) (by omega) (by omega) (by omega) dX0_power_8 (by decide) (fun h8 => absurd h8 (by omega)) (fun h8 => ?_)
    have hp := sPow_in (q := q) (b := b) (by omega) j
    have hp1 : 0 ≤ sPow q b j * b := Int.mul_nonneg hp.1 b1
    have hp2 : sPow q b j * b ≤ 8380417 * 8380417 := Int.mul_le_mul (by omega) (by omega) b1 (by decide)
    refine lv_lload_n hx hb dX0_power_11 rfl (lv_at hl 1 rfl) ?_
    refine lv_iload_n hx hb dX0_power_12 rfl (lv_at hl 3 rfl) ?_
    refine ix_i2l hx hb (by omega) (by omega) dX0_power_13 ?_
    refine ix_lmul hx hb dX0_power_14 ?_
    refine lv_aload_n hx hb dX0_power_15 rfl (lv_at hl 4 rfl) ?_
    refine gx_get hx hb hts hown hG 3 (by decide) rfl u58 dX0_power_16 ?_
    refine ix_i2l hx hb (by omega) (by omega) dX0_power_19 ?_
    refine ix_lrem hx hb (by omega) (by omega) (by omega) (by omega) dX0_power_20 ?_
    refine wx_l (congrArg lI (sPow_s (q := q) (b := b) j)) ?_
    refine lv_lstore_n (lv' := [(3, .long (lI (sPow q b (j + 1)))), (5, .int (iI ((j : Nat)))), (2, .int (iI (n))), (1, .int (iI (b))), (0, .ref (ox ω))]) hx hb dX0_power_21 rfl hl (by decide) rfl (fun ls hl => ?_)
    refine lv_iinc (k := 1) (v := iI ((j : Nat) + 1)) (lv' := [(5, .int (iI ((j : Nat) + 1))), (3, .long (lI (sPow q b (j + 1)))), (2, .int (iI (n))), (1, .int (iI (b))), (0, .ref (ox ω))]) hx hb dX0_power_22 hl rfl (iI_add _ _) (by decide) rfl (fun ls hl => ?_)
    refine lv_goto (tgt := 5) hx hb dX0_power_25 (by decide) ?_
    exact ih5 ls (lv_sub hl [0, 1, 2, 3, 4] rfl)
set_option maxHeartbeats 4000000 in
set_option maxRecDepth 100000 in
theorem c_centredSize (l : Launch) (ω : WX) (k q z : Int) (M : Nat → Nat → Int) (wk : Nat → Int) (x : Int) (hq1 : 3329 ≤ q) (hq2 : q ≤ 8380417) (x1 : 0 ≤ x) (x2 : x < q) : Met l yX0_centredSize wsX0_centredSize ({ frames := 1, cells := 0, slots := 0, locals := 16 }) (va_Pc [.ref (ox ω), .int (iI (x))] (fun U => GX ω k q z M wk U U.heap)) (vp_Si (fun r_ => r_ = iI (sCs q x))) 0 0 (fun _ => False) := by
  refine Met.ofW (cc := cX0_centredSize) (maxL := 2) (ret := (some .int)) (by decide +kernel) rfl ?_
  intro p e s m args below meth c s₁ B hml hv
  obtain ⟨rfl, hG⟩ := hv
  have hx := B.exec
  have hb := B.bytes
  have hrt := B.returns
  have hts : ∀ w ∈ wsU, w.before _ s = true := fun w h => atoms_spec (ws := wsX0_centredSize) B.pre w (List.mem_cons_of_mem _ h)
  have hown : s.vm.findClass "NoiseRing" = some m.cls := findClass_of_methodNamed B.named
  have hlocks := B.notSynchronized
  have hl := lv_entry ([.ref (ox ω), .int (iI (x))]) (n := 2) (Nat.le_of_ble_eq_true rfl)
  rw [lg_entry_eq]
  generalize (lg_sl ([.ref (ox ω), .int (iI (x))]) ++ List.replicate (2 - (lg_sl ([.ref (ox ω), .int (iI (x))])).length) Slot.unset).toArray = ls at hl ⊢
  have hl : lv_has ls 2 [(0, .ref (ox ω)), (1, .int (iI (x)))] := hl
  refine lv_iload_n hx hb dX0_centredSize_0 rfl (lv_at hl 1 rfl) ?_
  refine lv_aload_n hx hb dX0_centredSize_1 rfl (lv_at hl 0 rfl) ?_
  refine gx_get hx hb hts hown hG 3 (by decide) rfl u58 dX0_centredSize_2 ?_
  refine lv_iload_n hx hb dX0_centredSize_5 rfl (lv_at hl 1 rfl) ?_
  refine ix_isub hx hb dX0_centredSize_6 ?_
  refine ix_mmin hx hb hts (hml.trans hl.1.symm) hown u210 (by omega) (by omega) (by omega) (by omega) (Nat.le_of_ble_eq_true rfl) (Nat.le_of_ble_eq_true rfl) (Nat.le_of_ble_eq_true rfl) (Nat.le_of_ble_eq_true rfl) dX0_centredSize_7 ?_
  exact W.iret hx hb hrt (fun t ht hW => ⟨_, rfl, congrArg iI (by unfold sCs; split <;> split <;> omega), ht⟩) t_nil dX0_centredSize_10
set_option maxHeartbeats 4000000 in
set_option maxRecDepth 100000 in
theorem c_greatestSize (l : Launch) (ω : WX) (k q z : Int) (M : Nat → Nat → Int) (wk : Nat → Int) (r : Nat) (hr : r < 12) (hq1 : 3329 ≤ q) (hq2 : q ≤ 8380417) (hM : ∀ r i, r < 12 → i < 16 → 0 ≤ M r i ∧ M r i < q) : Met l yX0_greatestSize wsX0_greatestSize ({ frames := 2, cells := 0, slots := 0, locals := 37 }) (va_Pc [.ref (ox ω), .ref (oR ω (r))] (fun U => GX ω k q z M wk U U.heap)) (vp_Si (fun r_ => r_ = iI (sMax q (M r) 16))) 0 0 (fun _ => False) := by
  refine Met.ofW (cc := cX0_greatestSize) (maxL := 4) (ret := (some .int)) (by decide +kernel) rfl ?_
  intro p e s m args below meth c s₁ B hml hv
  obtain ⟨rfl, hG⟩ := hv
  have hx := B.exec
  have hb := B.bytes
  have hrt := B.returns
  have hts : ∀ w ∈ wsU, w.before _ s = true := fun w h => atoms_spec (ws := wsX0_greatestSize) B.pre w (List.mem_cons_of_mem _ h)
  have hown : s.vm.findClass "NoiseRing" = some m.cls := findClass_of_methodNamed B.named
  have hlocks := B.notSynchronized
  have hl := lv_entry ([.ref (ox ω), .ref (oR ω (r))]) (n := 4) (Nat.le_of_ble_eq_true rfl)
  rw [lg_entry_eq]
  generalize (lg_sl ([.ref (ox ω), .ref (oR ω (r))]) ++ List.replicate (4 - (lg_sl ([.ref (ox ω), .ref (oR ω (r))])).length) Slot.unset).toArray = ls at hl ⊢
  have hl : lv_has ls 4 [(0, .ref (ox ω)), (1, .ref (oR ω (r)))] := hl
  refine ix_iconst hx hb dX0_greatestSize_0 ?_
  refine lv_istore_n (lv' := [(2, .int (iI (0))), (0, .ref (ox ω)), (1, .ref (oR ω (r)))]) hx hb dX0_greatestSize_1 rfl hl (by decide) rfl (fun ls hl => ?_)
  refine ix_iconst hx hb dX0_greatestSize_2 ?_
  refine lv_istore_n (lv' := [(3, .int (iI (0))), (2, .int (iI (0))), (0, .ref (ox ω)), (1, .ref (oR ω (r)))]) hx hb dX0_greatestSize_3 rfl hl (by decide) rfl (fun ls hl => ?_)
  refine ix_loop (I := fun j ls => lv_has ls 4 [(3, .int (iI ((j : Nat)))), (2, .int (iI (sMax q (M r) (j)))), (1, .ref (oR ω (r))), (0, .ref (ox ω))]) (16) 0 (by omega) (lv_sub hl [0, 1, 3, 2] rfl) (fun ls hl => ?_) (fun j ls hj hl ih4 => ?_)
  · skip
    have hl : lv_has ls 4 [(3, .int (iI ((16 : Nat)))), (2, .int (iI (sMax q (M r) (16)))), (1, .ref (oR ω (r))), (0, .ref (ox ω))] := hl
    refine lv_iload_n hx hb dX0_greatestSize_4 rfl (lv_at hl 0 rfl) ?_
    refine ix_bipush hx hb (by decide) dX0_greatestSize_5 ?_
    refine ix_icmp_ge (tgt := 28) hx hb (by omega) (by omega) (by omega) (by omega) dX0_greatestSize_7 (by decide) (fun h7 => ?_) (fun h7 => absurd h7 (by omega))
    refine lv_iload_n hx hb dX0_greatestSize_28 rfl (lv_at hl 1 rfl) ?_
    exact W.iret hx hb hrt (fun t ht hW => ⟨_, rfl, rfl, ht⟩) t_nil dX0_greatestSize_29
  · skip
    have hl : lv_has ls 4 [(3, .int (iI ((j : Nat)))), (2, .int (iI (sMax q (M r) (j)))), (1, .ref (oR ω (r))), (0, .ref (ox ω))] := hl
    refine lv_iload_n hx hb dX0_greatestSize_4 rfl (lv_at hl 0 rfl) ?_
    refine ix_bipush hx hb (by decide) dX0_greatestSize_5 ?_
    refine ix_icmp_ge (tgt := 28) hx hb (by omega) (by omega) (by omega) (by omega) dX0_greatestSize_7 (by decide) (fun h7 => absurd h7 (by omega)) (fun h7 => ?_)
    have hm := hM r j hr hj
    have hx1 := sMax_in (q := q) (f := M r) (n := j) (by omega) (fun i hi => hM r i hr (by omega))
    have hc := sCs_in hm.1 hm.2
    refine lv_iload_n hx hb dX0_greatestSize_10 rfl (lv_at hl 1 rfl) ?_
    refine lv_aload_n hx hb dX0_greatestSize_11 rfl (lv_at hl 3 rfl) ?_
    refine lv_aload_n hx hb dX0_greatestSize_12 rfl (lv_at hl 2 rfl) ?_
    refine lv_iload_n hx hb dX0_greatestSize_13 rfl (lv_at hl 0 rfl) ?_
    refine gx_ild (r := r) (i := j) hx hb hG (by omega) (by omega) dX0_greatestSize_14 ?_
    refine vp_callSi (va_Run.run (va_runV (As := [.int (iI (M (r) (j)))]) (rest := [.int (iI (sMax q (M r) (j)))]) ⟨hx, hb, hml, hown, hts⟩ (c_centredSize l ω k q z M wk (M (r) (j)) hq1 hq2 (by omega) (by omega)) (cwV 1 hts (gU (hd := [.methodLink "NoiseRing" 85 yX0_centredSize, .instanceMethod yX0_centredSize, .selects "NoiseRing" yX0_centredSize yX0_centredSize, .initialized "NoiseRing"]) (List.forall_mem_cons.mpr ⟨u207, List.forall_mem_cons.mpr ⟨u208, List.forall_mem_cons.mpr ⟨u7, List.forall_mem_cons.mpr ⟨u29, fun _ h => by cases h⟩⟩⟩⟩) u209) rfl rfl rfl (by decide +kernel) ⟨Nat.le_of_ble_eq_true rfl, Nat.le_of_ble_eq_true rfl⟩) (gx_V hG) rfl rfl hl.1 rfl (lv_room (Nat.le_of_ble_eq_true rfl)) dX0_greatestSize_15 ⟨Nat.le_of_ble_eq_true rfl, Nat.le_of_ble_eq_true rfl⟩)) (fun r15 hr15 => ?_)
    subst hr15
    refine ix_mmax hx hb hts (hml.trans hl.1.symm) hown u213 (by omega) (by omega) (by omega) (by omega) (Nat.le_of_ble_eq_true rfl) (Nat.le_of_ble_eq_true rfl) (Nat.le_of_ble_eq_true rfl) (Nat.le_of_ble_eq_true rfl) dX0_greatestSize_18 ?_
    refine wx_i (congrArg iI (show (if sMax q (M r) j < sCs q (M (r) (j)) then sCs q (M (r) (j)) else sMax q (M r) j) = sMax q (M r) (j + 1) by rw [sMax]; split <;> omega)) ?_
    refine lv_istore_n (lv' := [(2, .int (iI (sMax q (M r) (j + 1)))), (3, .int (iI ((j : Nat)))), (1, .ref (oR ω (r))), (0, .ref (ox ω))]) hx hb dX0_greatestSize_21 rfl hl (by decide) rfl (fun ls hl => ?_)
    refine lv_iinc (k := 1) (v := iI ((j : Nat) + 1)) (lv' := [(3, .int (iI ((j : Nat) + 1))), (2, .int (iI (sMax q (M r) (j + 1)))), (1, .ref (oR ω (r))), (0, .ref (ox ω))]) hx hb dX0_greatestSize_22 hl rfl (iI_add _ _) (by decide) rfl (fun ls hl => ?_)
    refine lv_goto (tgt := 4) hx hb dX0_greatestSize_25 (by decide) ?_
    exact ih4 ls (lv_sub hl [0, 1, 2, 3] rfl)
set_option maxHeartbeats 4000000 in
set_option maxRecDepth 100000 in
theorem c_notZero (l : Launch) (ω : WX) (k q z : Int) (M : Nat → Nat → Int) (wk : Nat → Int) (r : Nat) (hr : r < 12) (hq1 : 3329 ≤ q) (hq2 : q ≤ 8380417) (hM : ∀ r i, r < 12 → i < 16 → 0 ≤ M r i ∧ M r i < q) : Met l yX0_notZero wsX0_notZero ({ frames := 0, cells := 0, slots := 0, locals := 0 }) (va_Pc [.ref (oR ω (r))] (fun U => GX ω k q z M wk U U.heap)) (vp_Si (fun r_ => r_ = iI (sCnt (M r) 16))) 0 0 (fun _ => False) := by
  refine Met.ofW (cc := cX0_notZero) (maxL := 3) (ret := (some .int)) (by decide +kernel) rfl ?_
  intro p e s m args below meth c s₁ B hml hv
  obtain ⟨rfl, hG⟩ := hv
  have hx := B.exec
  have hb := B.bytes
  have hrt := B.returns
  have hts : ∀ w ∈ wsU, w.before _ s = true := fun w h => atoms_spec (ws := wsX0_notZero) B.pre w (List.mem_cons_of_mem _ h)
  have hown : s.vm.findClass "NoiseRing" = some m.cls := findClass_of_methodNamed B.named
  have hlocks := B.notSynchronized
  have hl := lv_entry ([.ref (oR ω (r))]) (n := 3) (Nat.le_of_ble_eq_true rfl)
  rw [lg_entry_eq]
  generalize (lg_sl ([.ref (oR ω (r))]) ++ List.replicate (3 - (lg_sl ([.ref (oR ω (r))])).length) Slot.unset).toArray = ls at hl ⊢
  have hl : lv_has ls 3 [(0, .ref (oR ω (r)))] := hl
  refine ix_iconst hx hb dX0_notZero_0 ?_
  refine lv_istore_n (lv' := [(1, .int (iI (0))), (0, .ref (oR ω (r)))]) hx hb dX0_notZero_1 rfl hl (by decide) rfl (fun ls hl => ?_)
  refine ix_iconst hx hb dX0_notZero_2 ?_
  refine lv_istore_n (lv' := [(2, .int (iI (0))), (1, .int (iI (0))), (0, .ref (oR ω (r)))]) hx hb dX0_notZero_3 rfl hl (by decide) rfl (fun ls hl => ?_)
  refine ix_loop (I := fun j ls => lv_has ls 3 [(2, .int (iI ((j : Nat)))), (1, .int (iI (sCnt (M r) (j)))), (0, .ref (oR ω (r)))]) (16) 0 (by omega) (lv_sub hl [0, 1, 2] rfl) (fun ls hl => ?_) (fun j ls hj hl ih4 => ?_)
  · skip
    have hl : lv_has ls 3 [(2, .int (iI ((16 : Nat)))), (1, .int (iI (sCnt (M r) (16)))), (0, .ref (oR ω (r)))] := hl
    refine lv_iload_n hx hb dX0_notZero_4 rfl (lv_at hl 0 rfl) ?_
    refine ix_bipush hx hb (by decide) dX0_notZero_5 ?_
    refine ix_icmp_ge (tgt := 25) hx hb (by omega) (by omega) (by omega) (by omega) dX0_notZero_7 (by decide) (fun h7 => ?_) (fun h7 => absurd h7 (by omega))
    refine lv_iload_n hx hb dX0_notZero_25 rfl (lv_at hl 1 rfl) ?_
    exact W.iret hx hb hrt (fun t ht hW => ⟨_, rfl, rfl, ht⟩) t_nil dX0_notZero_26
  · skip
    have hl : lv_has ls 3 [(2, .int (iI ((j : Nat)))), (1, .int (iI (sCnt (M r) (j)))), (0, .ref (oR ω (r)))] := hl
    refine lv_iload_n hx hb dX0_notZero_4 rfl (lv_at hl 0 rfl) ?_
    refine ix_bipush hx hb (by decide) dX0_notZero_5 ?_
    refine ix_icmp_ge (tgt := 25) hx hb (by omega) (by omega) (by omega) (by omega) dX0_notZero_7 (by decide) (fun h7 => absurd h7 (by omega)) (fun h7 => ?_)
    have hm := hM r j hr hj
    have hc := sCnt_in (M r) j
    refine lv_aload_n hx hb dX0_notZero_10 rfl (lv_at hl 2 rfl) ?_
    refine lv_iload_n hx hb dX0_notZero_11 rfl (lv_at hl 0 rfl) ?_
    refine gx_ild (r := r) (i := j) hx hb hG (by omega) (by omega) dX0_notZero_12 ?_
    refine ix_if_eq (tgt := 19) hx hb (by omega) (by omega) dX0_notZero_13 (by decide) (fun h13 => ?_) (fun h13 => ?_)
    · have hs : sCnt (M r) (j + 1) = sCnt (M r) j := by rw [sCnt, if_pos h13]; omega
      rw [← hs] at hl
      refine lv_iinc (k := 0) (v := iI ((j : Nat) + 1)) (lv' := [(2, .int (iI ((j : Nat) + 1))), (1, .int (iI (sCnt (M r) (j + 1)))), (0, .ref (oR ω (r)))]) hx hb dX0_notZero_19 hl rfl (iI_add _ _) (by decide) rfl (fun ls hl => ?_)
      refine lv_goto (tgt := 4) hx hb dX0_notZero_22 (by decide) ?_
      exact ih4 ls (lv_sub hl [0, 1, 2] rfl)
    · have hs : sCnt (M r) (j + 1) = sCnt (M r) j + 1 := by rw [sCnt, if_neg h13]
      refine lv_iinc (k := 1) (v := iI (sCnt (M r) (j + 1))) (lv' := [(1, .int (iI (sCnt (M r) (j + 1)))), (2, .int (iI ((j : Nat)))), (0, .ref (oR ω (r)))]) hx hb dX0_notZero_16 hl rfl ((iI_add _ _).trans (congrArg iI hs.symm)) (by decide) rfl (fun ls hl => ?_)
      refine lv_iinc (k := 1) (v := iI ((j : Nat) + 1)) (lv' := [(2, .int (iI ((j : Nat) + 1))), (1, .int (iI (sCnt (M r) (j + 1)))), (0, .ref (oR ω (r)))]) hx hb dX0_notZero_19 hl rfl (iI_add _ _) (by decide) rfl (fun ls hl => ?_)
      refine lv_goto (tgt := 4) hx hb dX0_notZero_22 (by decide) ?_
      exact ih4 ls (lv_sub hl [0, 1, 2] rfl)
end
section
/-! Contracts of the class's read-only helpers, by program (wip/gen/x0.py). -/
set_option maxHeartbeats 4000000 in
set_option maxRecDepth 100000 in
theorem c_lowMask (l : Launch)  (d : Nat) (d2 : d ≤ 22) : Met l yX0_lowMask wsX0_lowMask ({ frames := 0, cells := 0, slots := 0, locals := 0 }) (va_Pc [.int (iI (d))] (fun _ => True)) (vp_Si (fun r_ => r_ = iI (2 ^ (d) - 1))) 0 0 (fun _ => False) := by
  refine Met.ofW (cc := cX0_lowMask) (maxL := 1) (ret := (some .int)) (by decide +kernel) rfl ?_
  intro p e s m args below meth c s₁ B hml hv
  obtain ⟨rfl, hG⟩ := hv
  have hx := B.exec
  have hb := B.bytes
  have hrt := B.returns
  have hts : ∀ w ∈ wsU, w.before _ s = true := fun w h => atoms_spec (ws := wsX0_lowMask) B.pre w (List.mem_cons_of_mem _ h)
  have hown : s.vm.findClass "NoiseRing" = some m.cls := findClass_of_methodNamed B.named
  have hlocks := B.notSynchronized
  have hl := lv_entry ([.int (iI (d))]) (n := 1) (Nat.le_of_ble_eq_true rfl)
  rw [lg_entry_eq]
  generalize (lg_sl ([.int (iI (d))]) ++ List.replicate (1 - (lg_sl ([.int (iI (d))])).length) Slot.unset).toArray = ls at hl ⊢
  have hl : lv_has ls 1 [(0, .int (iI (d)))] := hl
  refine ix_iconst hx hb dX0_lowMask_0 ?_
  refine lv_iload_n hx hb dX0_lowMask_1 rfl (lv_at hl 0 rfl) ?_
  refine ix_ishl1 (d := d) hx hb (by omega) dX0_lowMask_2 ?_
  refine ix_iconst hx hb dX0_lowMask_3 ?_
  refine ix_isub hx hb dX0_lowMask_4 ?_
  exact W.iret hx hb hrt (fun t ht hW => ⟨_, rfl, rfl, ht⟩) t_nil dX0_lowMask_5
set_option maxHeartbeats 4000000 in
set_option maxRecDepth 100000 in
theorem c_lowBits (l : Launch)  (x : Int) (d : Nat) (x1 : 0 ≤ x) (x2 : x < 2147483648) (d1 : 1 ≤ d) (d2 : d ≤ 22) : Met l yX0_lowBits wsX0_lowBits ({ frames := 1, cells := 0, slots := 0, locals := 20 }) (va_Pc [.int (iI (x)), .int (iI (d))] (fun _ => True)) (vp_Si (fun r_ => r_ = iI (sNear x (2 ^ d)))) 0 0 (fun _ => False) := by
  refine Met.ofW (cc := cX0_lowBits) (maxL := 3) (ret := (some .int)) (by decide +kernel) rfl ?_
  intro p e s m args below meth c s₁ B hml hv
  obtain ⟨rfl, hG⟩ := hv
  have hx := B.exec
  have hb := B.bytes
  have hrt := B.returns
  have hts : ∀ w ∈ wsU, w.before _ s = true := fun w h => atoms_spec (ws := wsX0_lowBits) B.pre w (List.mem_cons_of_mem _ h)
  have hown : s.vm.findClass "NoiseRing" = some m.cls := findClass_of_methodNamed B.named
  have hlocks := B.notSynchronized
  have hl := lv_entry ([.int (iI (x)), .int (iI (d))]) (n := 3) (Nat.le_of_ble_eq_true rfl)
  rw [lg_entry_eq]
  generalize (lg_sl ([.int (iI (x)), .int (iI (d))]) ++ List.replicate (3 - (lg_sl ([.int (iI (x)), .int (iI (d))])).length) Slot.unset).toArray = ls at hl ⊢
  have hl : lv_has ls 3 [(0, .int (iI (x))), (1, .int (iI (d)))] := hl
  have hp := pw_in d2
  have hh := pw_half d1
  have h1 := Int.emod_nonneg x (show (2 : Int) ^ d ≠ 0 by omega)
  have h2 := Int.emod_lt_of_pos x (show (0 : Int) < 2 ^ d by omega)
  refine lv_iload_n hx hb dX0_lowBits_0 rfl (lv_at hl 0 rfl) ?_
  refine lv_iload_n hx hb dX0_lowBits_1 rfl (lv_at hl 1 rfl) ?_
  refine vp_callSi (va_Run.run (va_runS (As := [.int (iI (d))]) (rest := [.int (iI (x))]) ⟨hx, hb, hml, hown, hts⟩ (c_lowMask l (d) (by omega)) (va_cwS 1 hts (gU (hd := [.methodLink "NoiseRing" 143 yX0_lowMask, .static yX0_lowMask, .initialized "NoiseRing"]) (List.forall_mem_cons.mpr ⟨u231, List.forall_mem_cons.mpr ⟨u232, List.forall_mem_cons.mpr ⟨u29, fun _ h => by cases h⟩⟩⟩) u233) rfl rfl rfl (by decide +kernel) ⟨Nat.le_of_ble_eq_true rfl, Nat.le_of_ble_eq_true rfl⟩) gn_S rfl rfl hl.1 rfl (lv_room (Nat.le_of_ble_eq_true rfl)) dX0_lowBits_2 ⟨Nat.le_of_ble_eq_true rfl, Nat.le_of_ble_eq_true rfl⟩)) (fun r2 hr2 => ?_)
  subst hr2
  refine ix_mask (d := d) hx hb (by omega) (by omega) (by omega) dX0_lowBits_5 ?_
  refine lv_istore_n (lv' := [(2, .int (iI ((x) % 2 ^ (d)))), (0, .int (iI (x))), (1, .int (iI (d)))]) hx hb dX0_lowBits_6 rfl hl (by decide) rfl (fun ls hl => ?_)
  refine lv_iload_n hx hb dX0_lowBits_7 rfl (lv_at hl 0 rfl) ?_
  refine ix_iconst hx hb dX0_lowBits_8 ?_
  refine lv_iload_n hx hb dX0_lowBits_9 rfl (lv_at hl 2 rfl) ?_
  refine ix_iconst hx hb dX0_lowBits_10 ?_
  refine ix_isub hx hb dX0_lowBits_11 ?_
  refine wx_i (congrArg iI (show ((d : Nat) : Int) - 1 = ((d - 1 : Nat) : Int) by omega)) ?_
  refine ix_ishl1 (d := d - 1) hx hb (by omega) dX0_lowBits_12 ?_
  refine ix_icmp_le (tgt := 24) hx hb (by omega) (by omega) (by omega) (by omega) dX0_lowBits_13 (by decide) (fun h13 => ?_) (fun h13 => ?_)
  · skip
    refine lv_iload_n hx hb dX0_lowBits_24 rfl (lv_at hl 0 rfl) ?_
    exact W.iret hx hb hrt (fun t ht hW => ⟨_, rfl, congrArg iI (by unfold sNear; first | rw [if_pos (by omega)] | rw [if_neg (by omega)]), ht⟩) t_nil dX0_lowBits_25
  · skip
    refine lv_iload_n hx hb dX0_lowBits_16 rfl (lv_at hl 0 rfl) ?_
    refine ix_iconst hx hb dX0_lowBits_17 ?_
    refine lv_iload_n hx hb dX0_lowBits_18 rfl (lv_at hl 2 rfl) ?_
    refine ix_ishl1 (d := d) hx hb (by omega) dX0_lowBits_19 ?_
    refine ix_isub hx hb dX0_lowBits_20 ?_
    refine lv_goto (tgt := 25) hx hb dX0_lowBits_21 (by decide) ?_
    exact W.iret hx hb hrt (fun t ht hW => ⟨_, rfl, congrArg iI (by unfold sNear; first | rw [if_pos (by omega)] | rw [if_neg (by omega)]), ht⟩) t_nil dX0_lowBits_25
set_option maxHeartbeats 4000000 in
set_option maxRecDepth 100000 in
theorem c_fewerBits (l : Launch) (ω : WX) (k q z : Int) (M : Nat → Nat → Int) (wk : Nat → Int) (x : Int) (d : Nat) (hq1 : 3329 ≤ q) (hq2 : q ≤ 8380417) (x1 : 0 ≤ x) (x2 : x < q) (d1 : 1 ≤ d) (d2 : d ≤ 22) : Met l yX0_fewerBits wsX0_fewerBits ({ frames := 1, cells := 0, slots := 0, locals := 20 }) (va_Pc [.ref (ox ω), .int (iI (x)), .int (iI (d))] (fun U => GX ω k q z M wk U U.heap)) (vp_Si (fun r_ => r_ = iI ((x * 2 ^ (d + 1) + q) / (2 * q) % 2 ^ d))) 0 0 (fun _ => False) := by
  refine Met.ofW (cc := cX0_fewerBits) (maxL := 5) (ret := (some .int)) (by decide +kernel) rfl ?_
  intro p e s m args below meth c s₁ B hml hv
  obtain ⟨rfl, hG⟩ := hv
  have hx := B.exec
  have hb := B.bytes
  have hrt := B.returns
  have hts : ∀ w ∈ wsU, w.before _ s = true := fun w h => atoms_spec (ws := wsX0_fewerBits) B.pre w (List.mem_cons_of_mem _ h)
  have hown : s.vm.findClass "NoiseRing" = some m.cls := findClass_of_methodNamed B.named
  have hlocks := B.notSynchronized
  have hl := lv_entry ([.ref (ox ω), .int (iI (x)), .int (iI (d))]) (n := 5) (Nat.le_of_ble_eq_true rfl)
  rw [lg_entry_eq]
  generalize (lg_sl ([.ref (ox ω), .int (iI (x)), .int (iI (d))]) ++ List.replicate (5 - (lg_sl ([.ref (ox ω), .int (iI (x)), .int (iI (d))])).length) Slot.unset).toArray = ls at hl ⊢
  have hl : lv_has ls 5 [(0, .ref (ox ω)), (1, .int (iI (x))), (2, .int (iI (d)))] := hl
  have hp := pw_in d2
  have hh : (2 : Int) ^ (d + 1) = 2 ^ d * 2 := Int.pow_succ 2 d
  have hm1 : 0 ≤ x * 2 ^ (d + 1) := Int.mul_nonneg x1 (by omega)
  have hm2 : x * 2 ^ (d + 1) ≤ 8380417 * 8388608 := Int.mul_le_mul (by omega) (by omega) (by omega) (by decide)
  have hm3 : x * 2 ^ (d + 1) ≤ q * 8388608 := Int.mul_le_mul (by omega) (by omega) (by omega) (by omega)
  have hd1 : 0 ≤ (x * 2 ^ (d + 1) + q) / (2 * q) := Int.ediv_nonneg (by omega) (by omega)
  have hd2 : (x * 2 ^ (d + 1) + q) / (2 * q) < 2147483648 := Int.ediv_lt_of_lt_mul (by omega) (by omega)
  refine lv_iload_n hx hb dX0_fewerBits_0 rfl (lv_at hl 1 rfl) ?_
  refine ix_i2l hx hb (by omega) (by omega) dX0_fewerBits_1 ?_
  refine lv_iload_n hx hb dX0_fewerBits_2 rfl (lv_at hl 2 rfl) ?_
  refine ix_iconst hx hb dX0_fewerBits_3 ?_
  refine ix_iadd hx hb dX0_fewerBits_4 ?_
  refine ix_lshl (d := d + 1) hx hb (by omega) (by omega) dX0_fewerBits_5 ?_
  refine lv_aload_n hx hb dX0_fewerBits_6 rfl (lv_at hl 0 rfl) ?_
  refine gx_get hx hb hts hown hG 3 (by decide) rfl u58 dX0_fewerBits_7 ?_
  refine ix_i2l hx hb (by omega) (by omega) dX0_fewerBits_10 ?_
  refine ix_ladd hx hb dX0_fewerBits_11 ?_
  refine lv_ldc2 (v := 2) hx hb hown (hts _ u230) dX0_fewerBits_12 ?_
  refine wx_l (show (2 : Int64) = lI 2 by decide) ?_
  refine lv_aload_n hx hb dX0_fewerBits_15 rfl (lv_at hl 0 rfl) ?_
  refine gx_get hx hb hts hown hG 3 (by decide) rfl u58 dX0_fewerBits_16 ?_
  refine ix_i2l hx hb (by omega) (by omega) dX0_fewerBits_19 ?_
  refine ix_lmul hx hb dX0_fewerBits_20 ?_
  refine ix_ldiv hx hb (by omega) (by omega) (by omega) (by omega) dX0_fewerBits_21 ?_
  refine lv_lstore_n (lv' := [(3, .long (lI ((((x) * 2 ^ (d + 1) + q) / (2 * q))))), (0, .ref (ox ω)), (1, .int (iI (x))), (2, .int (iI (d)))]) hx hb dX0_fewerBits_22 rfl hl (by decide) rfl (fun ls hl => ?_)
  refine lv_lload_n hx hb dX0_fewerBits_23 rfl (lv_at hl 0 rfl) ?_
  refine ix_l2i hx hb dX0_fewerBits_24 ?_
  refine lv_iload_n hx hb dX0_fewerBits_25 rfl (lv_at hl 3 rfl) ?_
  refine vp_callSi (va_Run.run (va_runS (As := [.int (iI (d))]) (rest := [.int (iI ((((x) * 2 ^ (d + 1) + q) / (2 * q))))]) ⟨hx, hb, hml, hown, hts⟩ (c_lowMask l (d) (by omega)) (va_cwS 1 hts (gU (hd := [.methodLink "NoiseRing" 143 yX0_lowMask, .static yX0_lowMask, .initialized "NoiseRing"]) (List.forall_mem_cons.mpr ⟨u231, List.forall_mem_cons.mpr ⟨u232, List.forall_mem_cons.mpr ⟨u29, fun _ h => by cases h⟩⟩⟩) u233) rfl rfl rfl (by decide +kernel) ⟨Nat.le_of_ble_eq_true rfl, Nat.le_of_ble_eq_true rfl⟩) gn_S rfl rfl hl.1 rfl (lv_room (Nat.le_of_ble_eq_true rfl)) dX0_fewerBits_26 ⟨Nat.le_of_ble_eq_true rfl, Nat.le_of_ble_eq_true rfl⟩)) (fun r26 hr26 => ?_)
  subst hr26
  refine ix_mask (d := d) hx hb (by omega) (by omega) (by omega) dX0_fewerBits_29 ?_
  exact W.iret hx hb hrt (fun t ht hW => ⟨_, rfl, rfl, ht⟩) t_nil dX0_fewerBits_30
set_option maxHeartbeats 4000000 in
set_option maxRecDepth 100000 in
theorem c_moreBits (l : Launch) (ω : WX) (k q z : Int) (M : Nat → Nat → Int) (wk : Nat → Int) (y : Int) (d : Nat) (hq1 : 3329 ≤ q) (hq2 : q ≤ 8380417) (y1 : 0 ≤ y) (y2 : y < 4194304) (d1 : 1 ≤ d) (d2 : d ≤ 22) : Met l yX0_moreBits wsX0_moreBits ({ frames := 0, cells := 0, slots := 0, locals := 0 }) (va_Pc [.ref (ox ω), .int (iI (y)), .int (iI (d))] (fun U => GX ω k q z M wk U U.heap)) (vp_Si (fun r_ => r_ = iI ((q * y + 2 ^ (d - 1)) / 2 ^ d))) 0 0 (fun _ => False) := by
  refine Met.ofW (cc := cX0_moreBits) (maxL := 3) (ret := (some .int)) (by decide +kernel) rfl ?_
  intro p e s m args below meth c s₁ B hml hv
  obtain ⟨rfl, hG⟩ := hv
  have hx := B.exec
  have hb := B.bytes
  have hrt := B.returns
  have hts : ∀ w ∈ wsU, w.before _ s = true := fun w h => atoms_spec (ws := wsX0_moreBits) B.pre w (List.mem_cons_of_mem _ h)
  have hown : s.vm.findClass "NoiseRing" = some m.cls := findClass_of_methodNamed B.named
  have hlocks := B.notSynchronized
  have hl := lv_entry ([.ref (ox ω), .int (iI (y)), .int (iI (d))]) (n := 3) (Nat.le_of_ble_eq_true rfl)
  rw [lg_entry_eq]
  generalize (lg_sl ([.ref (ox ω), .int (iI (y)), .int (iI (d))]) ++ List.replicate (3 - (lg_sl ([.ref (ox ω), .int (iI (y)), .int (iI (d))])).length) Slot.unset).toArray = ls at hl ⊢
  have hl : lv_has ls 3 [(0, .ref (ox ω)), (1, .int (iI (y))), (2, .int (iI (d)))] := hl
  have hp := pw_in (d := d - 1) (by omega)
  have hm1 : 0 ≤ q * y := Int.mul_nonneg (by omega) y1
  have hm2 : q * y ≤ 8380417 * 4194304 := Int.mul_le_mul hq2 (by omega) y1 (by decide)
  refine lv_aload_n hx hb dX0_moreBits_0 rfl (lv_at hl 0 rfl) ?_
  refine gx_get hx hb hts hown hG 3 (by decide) rfl u58 dX0_moreBits_1 ?_
  refine ix_i2l hx hb (by omega) (by omega) dX0_moreBits_4 ?_
  refine lv_iload_n hx hb dX0_moreBits_5 rfl (lv_at hl 1 rfl) ?_
  refine ix_i2l hx hb (by omega) (by omega) dX0_moreBits_6 ?_
  refine ix_lmul hx hb dX0_moreBits_7 ?_
  refine ix_lconst1 hx hb dX0_moreBits_8 ?_
  refine lv_iload_n hx hb dX0_moreBits_9 rfl (lv_at hl 2 rfl) ?_
  refine ix_iconst hx hb dX0_moreBits_10 ?_
  refine ix_isub hx hb dX0_moreBits_11 ?_
  refine wx_i (congrArg iI (show ((d : Nat) : Int) - 1 = ((d - 1 : Nat) : Int) by omega)) ?_
  refine ix_lshl (d := d - 1) hx hb (by omega) (by omega) dX0_moreBits_12 ?_
  refine ix_ladd hx hb dX0_moreBits_13 ?_
  refine lv_iload_n hx hb dX0_moreBits_14 rfl (lv_at hl 2 rfl) ?_
  refine ix_lshr (d := d) hx hb (by omega) (by omega) (by omega) dX0_moreBits_15 ?_
  refine ix_l2i hx hb dX0_moreBits_16 ?_
  exact W.iret hx hb hrt (fun t ht hW => ⟨_, rfl, congrArg iI (by rw [Int.one_mul]), ht⟩) t_nil dX0_moreBits_17
set_option maxHeartbeats 4000000 in
set_option maxRecDepth 100000 in
theorem c_restOf (l : Launch) (ω : WX) (k q z : Int) (M : Nat → Nat → Int) (wk : Nat → Int) (x a : Int) (hq1 : 3329 ≤ q) (hq2 : q ≤ 8380417) (x1 : 0 ≤ x) (x2 : x < q) (a1 : 0 < a) (a2 : a < 8380417) (a3 : a % 2 = 0) : Met l yX0_restOf wsX0_restOf ({ frames := 1, cells := 0, slots := 0, locals := 22 }) (va_Pc [.ref (ox ω), .int (iI (x)), .int (iI (a))] (fun U => GX ω k q z M wk U U.heap)) (vp_Si (fun r_ => r_ = iI (sRest q x a))) 0 0 (fun _ => False) := by
  refine Met.ofW (cc := cX0_restOf) (maxL := 4) (ret := (some .int)) (by decide +kernel) rfl ?_
  intro p e s m args below meth c s₁ B hml hv
  obtain ⟨rfl, hG⟩ := hv
  have hx := B.exec
  have hb := B.bytes
  have hrt := B.returns
  have hts : ∀ w ∈ wsU, w.before _ s = true := fun w h => atoms_spec (ws := wsX0_restOf) B.pre w (List.mem_cons_of_mem _ h)
  have hown : s.vm.findClass "NoiseRing" = some m.cls := findClass_of_methodNamed B.named
  have hlocks := B.notSynchronized
  have hl := lv_entry ([.ref (ox ω), .int (iI (x)), .int (iI (a))]) (n := 4) (Nat.le_of_ble_eq_true rfl)
  rw [lg_entry_eq]
  generalize (lg_sl ([.ref (ox ω), .int (iI (x)), .int (iI (a))]) ++ List.replicate (4 - (lg_sl ([.ref (ox ω), .int (iI (x)), .int (iI (a))])).length) Slot.unset).toArray = ls at hl ⊢
  have hl : lv_has ls 4 [(0, .ref (ox ω)), (1, .int (iI (x))), (2, .int (iI (a)))] := hl
  have hn := sNear_in (x := x) a1
  refine lv_iload_n hx hb dX0_restOf_0 rfl (lv_at hl 1 rfl) ?_
  refine lv_iload_n hx hb dX0_restOf_1 rfl (lv_at hl 2 rfl) ?_
  refine vp_callSi (va_Run.run (va_runS (As := [.int (iI (x)), .int (iI (a))]) (rest := []) ⟨hx, hb, hml, hown, hts⟩ (c_nearRest l (x) (a) (by omega) (by omega) (by omega) (by omega) (by assumption)) (va_cwS 2 hts (gU (hd := [.methodLink "NoiseRing" 154 yX0_nearRest, .static yX0_nearRest, .initialized "NoiseRing"]) (List.forall_mem_cons.mpr ⟨u253, List.forall_mem_cons.mpr ⟨u254, List.forall_mem_cons.mpr ⟨u29, fun _ h => by cases h⟩⟩⟩) u255) rfl rfl rfl (by decide +kernel) ⟨Nat.le_of_ble_eq_true rfl, Nat.le_of_ble_eq_true rfl⟩) gn_S rfl rfl hl.1 rfl (lv_room (Nat.le_of_ble_eq_true rfl)) dX0_restOf_2 ⟨Nat.le_of_ble_eq_true rfl, Nat.le_of_ble_eq_true rfl⟩)) (fun r2 hr2 => ?_)
  subst hr2
  refine lv_istore_n (lv' := [(3, .int (iI ((sNear (x) (a))))), (0, .ref (ox ω)), (1, .int (iI (x))), (2, .int (iI (a)))]) hx hb dX0_restOf_5 rfl hl (by decide) rfl (fun ls hl => ?_)
  refine lv_iload_n hx hb dX0_restOf_6 rfl (lv_at hl 2 rfl) ?_
  refine lv_iload_n hx hb dX0_restOf_7 rfl (lv_at hl 0 rfl) ?_
  refine ix_isub hx hb dX0_restOf_8 ?_
  refine lv_aload_n hx hb dX0_restOf_9 rfl (lv_at hl 1 rfl) ?_
  refine gx_get hx hb hts hown hG 3 (by decide) rfl u58 dX0_restOf_10 ?_
  refine ix_iconst hx hb dX0_restOf_13 ?_
  refine ix_isub hx hb dX0_restOf_14 ?_
  refine ix_icmp_ne (tgt := 24) hx hb (by omega) (by omega) (by omega) (by omega) dX0_restOf_15 (by decide) (fun h15 => ?_) (fun h15 => ?_)
  · skip
    refine lv_iload_n hx hb dX0_restOf_24 rfl (lv_at hl 0 rfl) ?_
    exact W.iret hx hb hrt (fun t ht hW => ⟨_, rfl, congrArg iI (by unfold sRest; first | rw [if_pos (by omega)] | rw [if_neg (by omega)]), ht⟩) t_nil dX0_restOf_25
  · skip
    refine lv_iload_n hx hb dX0_restOf_18 rfl (lv_at hl 0 rfl) ?_
    refine ix_iconst hx hb dX0_restOf_19 ?_
    refine ix_isub hx hb dX0_restOf_20 ?_
    refine lv_goto (tgt := 25) hx hb dX0_restOf_21 (by decide) ?_
    exact W.iret hx hb hrt (fun t ht hW => ⟨_, rfl, congrArg iI (by unfold sRest; first | rw [if_pos (by omega)] | rw [if_neg (by omega)]), ht⟩) t_nil dX0_restOf_25
set_option maxHeartbeats 4000000 in
set_option maxRecDepth 100000 in
theorem c_partOf (l : Launch) (ω : WX) (k q z : Int) (M : Nat → Nat → Int) (wk : Nat → Int) (x a : Int) (hq1 : 3329 ≤ q) (hq2 : q ≤ 8380417) (x1 : 0 ≤ x) (x2 : x < q) (a1 : 0 < a) (a2 : a < 8380417) (a3 : a % 2 = 0) : Met l yX0_partOf wsX0_partOf ({ frames := 1, cells := 0, slots := 0, locals := 22 }) (va_Pc [.ref (ox ω), .int (iI (x)), .int (iI (a))] (fun U => GX ω k q z M wk U U.heap)) (vp_Si (fun r_ => r_ = iI (sPart q x a))) 0 0 (fun _ => False) := by
  refine Met.ofW (cc := cX0_partOf) (maxL := 4) (ret := (some .int)) (by decide +kernel) rfl ?_
  intro p e s m args below meth c s₁ B hml hv
  obtain ⟨rfl, hG⟩ := hv
  have hx := B.exec
  have hb := B.bytes
  have hrt := B.returns
  have hts : ∀ w ∈ wsU, w.before _ s = true := fun w h => atoms_spec (ws := wsX0_partOf) B.pre w (List.mem_cons_of_mem _ h)
  have hown : s.vm.findClass "NoiseRing" = some m.cls := findClass_of_methodNamed B.named
  have hlocks := B.notSynchronized
  have hl := lv_entry ([.ref (ox ω), .int (iI (x)), .int (iI (a))]) (n := 4) (Nat.le_of_ble_eq_true rfl)
  rw [lg_entry_eq]
  generalize (lg_sl ([.ref (ox ω), .int (iI (x)), .int (iI (a))]) ++ List.replicate (4 - (lg_sl ([.ref (ox ω), .int (iI (x)), .int (iI (a))])).length) Slot.unset).toArray = ls at hl ⊢
  have hl : lv_has ls 4 [(0, .ref (ox ω)), (1, .int (iI (x))), (2, .int (iI (a)))] := hl
  have hn := sNear_in (x := x) a1
  have hn2 := sNear_low x1 a1
  refine lv_iload_n hx hb dX0_partOf_0 rfl (lv_at hl 1 rfl) ?_
  refine lv_iload_n hx hb dX0_partOf_1 rfl (lv_at hl 1 rfl) ?_
  refine lv_iload_n hx hb dX0_partOf_2 rfl (lv_at hl 2 rfl) ?_
  refine vp_callSi (va_Run.run (va_runS (As := [.int (iI (x)), .int (iI (a))]) (rest := [.int (iI (x))]) ⟨hx, hb, hml, hown, hts⟩ (c_nearRest l (x) (a) (by omega) (by omega) (by omega) (by omega) (by assumption)) (va_cwS 2 hts (gU (hd := [.methodLink "NoiseRing" 154 yX0_nearRest, .static yX0_nearRest, .initialized "NoiseRing"]) (List.forall_mem_cons.mpr ⟨u253, List.forall_mem_cons.mpr ⟨u254, List.forall_mem_cons.mpr ⟨u29, fun _ h => by cases h⟩⟩⟩) u255) rfl rfl rfl (by decide +kernel) ⟨Nat.le_of_ble_eq_true rfl, Nat.le_of_ble_eq_true rfl⟩) gn_S rfl rfl hl.1 rfl (lv_room (Nat.le_of_ble_eq_true rfl)) dX0_partOf_3 ⟨Nat.le_of_ble_eq_true rfl, Nat.le_of_ble_eq_true rfl⟩)) (fun r3 hr3 => ?_)
  subst hr3
  refine ix_isub hx hb dX0_partOf_6 ?_
  refine lv_istore_n (lv' := [(3, .int (iI ((x - (sNear (x) (a)))))), (0, .ref (ox ω)), (1, .int (iI (x))), (2, .int (iI (a)))]) hx hb dX0_partOf_7 rfl hl (by decide) rfl (fun ls hl => ?_)
  refine lv_iload_n hx hb dX0_partOf_8 rfl (lv_at hl 0 rfl) ?_
  refine lv_aload_n hx hb dX0_partOf_9 rfl (lv_at hl 1 rfl) ?_
  refine gx_get hx hb hts hown hG 3 (by decide) rfl u58 dX0_partOf_10 ?_
  refine ix_iconst hx hb dX0_partOf_13 ?_
  refine ix_isub hx hb dX0_partOf_14 ?_
  refine ix_icmp_ne (tgt := 22) hx hb (by omega) (by omega) (by omega) (by omega) dX0_partOf_15 (by decide) (fun h15 => ?_) (fun h15 => ?_)
  · skip
    refine lv_iload_n hx hb dX0_partOf_22 rfl (lv_at hl 0 rfl) ?_
    refine lv_iload_n hx hb dX0_partOf_23 rfl (lv_at hl 3 rfl) ?_
    refine ix_idiv hx hb (by omega) (by omega) (by omega) (by omega) dX0_partOf_24 ?_
    exact W.iret hx hb hrt (fun t ht hW => ⟨_, rfl, congrArg iI (by unfold sPart; first | rw [if_pos (by omega)] | rw [if_neg (by omega)]), ht⟩) t_nil dX0_partOf_25
  · skip
    refine ix_iconst hx hb dX0_partOf_18 ?_
    refine lv_goto (tgt := 25) hx hb dX0_partOf_19 (by decide) ?_
    exact W.iret hx hb hrt (fun t ht hW => ⟨_, rfl, congrArg iI (by unfold sPart; first | rw [if_pos (by omega)] | rw [if_neg (by omega)]), ht⟩) t_nil dX0_partOf_25
set_option maxHeartbeats 4000000 in
set_option maxRecDepth 100000 in
theorem c_isAlpha (l : Launch) (ω : WX) (k q z : Int) (M : Nat → Nat → Int) (wk : Nat → Int) (a : Int) (hq1 : 3329 ≤ q) (hq2 : q ≤ 8380417) (a1 : -2147483648 ≤ a) (a2 : a < 2147483648) : Met l yX0_isAlpha wsX0_isAlpha ({ frames := 0, cells := 0, slots := 0, locals := 0 }) (va_Pc [.ref (ox ω), .int (iI (a))] (fun U => GX ω k q z M wk U U.heap)) (vp_Si (fun r_ => r_ = iI (sAli q a))) 0 0 (fun _ => False) := by
  refine Met.ofW (cc := cX0_isAlpha) (maxL := 2) (ret := (some .boolean)) (by decide +kernel) rfl ?_
  intro p e s m args below meth c s₁ B hml hv
  obtain ⟨rfl, hG⟩ := hv
  have hx := B.exec
  have hb := B.bytes
  have hrt := B.returns
  have hts : ∀ w ∈ wsU, w.before _ s = true := fun w h => atoms_spec (ws := wsX0_isAlpha) B.pre w (List.mem_cons_of_mem _ h)
  have hown : s.vm.findClass "NoiseRing" = some m.cls := findClass_of_methodNamed B.named
  have hlocks := B.notSynchronized
  have hl := lv_entry ([.ref (ox ω), .int (iI (a))]) (n := 2) (Nat.le_of_ble_eq_true rfl)
  rw [lg_entry_eq]
  generalize (lg_sl ([.ref (ox ω), .int (iI (a))]) ++ List.replicate (2 - (lg_sl ([.ref (ox ω), .int (iI (a))])).length) Slot.unset).toArray = ls at hl ⊢
  have hl : lv_has ls 2 [(0, .ref (ox ω)), (1, .int (iI (a)))] := hl
  refine lv_iload_n hx hb dX0_isAlpha_0 rfl (lv_at hl 1 rfl) ?_
  refine ix_if_le (tgt := 25) hx hb (by omega) (by omega) dX0_isAlpha_1 (by decide) (fun h1 => ?_) (fun h1 => ?_)
  · skip
    refine ix_iconst hx hb dX0_isAlpha_25 ?_
    exact W.zret (ty := .boolean) hx hb hrt (by decide) (fun t ht hW => ⟨_, rfl, congrArg iI (by unfold sAli; first | rw [if_pos ⟨by omega, by omega, by assumption⟩] | rw [if_neg (fun g => by have g1 := g.1; have g2 := g.2.1; have g3 := g.2.2; omega)]), ht⟩) t_nil dX0_isAlpha_26
  · skip
    refine lv_iload_n hx hb dX0_isAlpha_4 rfl (lv_at hl 1 rfl) ?_
    refine ix_iconst hx hb dX0_isAlpha_5 ?_
    refine ix_irem hx hb (by omega) (by omega) (by omega) (by omega) dX0_isAlpha_6 ?_
    refine ix_if_ne (tgt := 25) hx hb (by omega) (by omega) dX0_isAlpha_7 (by decide) (fun h7 => ?_) (fun h7 => ?_)
    · skip
      refine ix_iconst hx hb dX0_isAlpha_25 ?_
      exact W.zret (ty := .boolean) hx hb hrt (by decide) (fun t ht hW => ⟨_, rfl, congrArg iI (by unfold sAli; first | rw [if_pos ⟨by omega, by omega, by assumption⟩] | rw [if_neg (fun g => by have g1 := g.1; have g2 := g.2.1; have g3 := g.2.2; omega)]), ht⟩) t_nil dX0_isAlpha_26
    · skip
      refine lv_aload_n hx hb dX0_isAlpha_10 rfl (lv_at hl 0 rfl) ?_
      refine gx_get hx hb hts hown hG 3 (by decide) rfl u58 dX0_isAlpha_11 ?_
      refine ix_iconst hx hb dX0_isAlpha_14 ?_
      refine ix_isub hx hb dX0_isAlpha_15 ?_
      refine lv_iload_n hx hb dX0_isAlpha_16 rfl (lv_at hl 1 rfl) ?_
      have h9 := Int.emod_nonneg (q - 1) (show a ≠ 0 by omega)
      have h8 := Int.emod_lt_of_pos (q - 1) (show 0 < a by omega)
      refine ix_irem hx hb (by omega) (by omega) (by omega) (by omega) dX0_isAlpha_17 ?_
      refine ix_if_ne (tgt := 25) hx hb (by omega) (by omega) dX0_isAlpha_18 (by decide) (fun h18 => ?_) (fun h18 => ?_)
      · skip
        refine ix_iconst hx hb dX0_isAlpha_25 ?_
        exact W.zret (ty := .boolean) hx hb hrt (by decide) (fun t ht hW => ⟨_, rfl, congrArg iI (by unfold sAli; first | rw [if_pos ⟨by omega, by omega, by assumption⟩] | rw [if_neg (fun g => by have g1 := g.1; have g2 := g.2.1; have g3 := g.2.2; omega)]), ht⟩) t_nil dX0_isAlpha_26
      · skip
        refine ix_iconst hx hb dX0_isAlpha_21 ?_
        refine lv_goto (tgt := 26) hx hb dX0_isAlpha_22 (by decide) ?_
        exact W.zret (ty := .boolean) hx hb hrt (by decide) (fun t ht hW => ⟨_, rfl, congrArg iI (by unfold sAli; first | rw [if_pos ⟨by omega, by omega, by assumption⟩] | rw [if_neg (fun g => by have g1 := g.1; have g2 := g.2.1; have g3 := g.2.2; omega)]), ht⟩) t_nil dX0_isAlpha_26
end
section
/-! Contracts of the class's read-only helpers, by program (wip/gen/x0.py). -/
theorem sPart_in {q x a : Int} (x1 : 0 ≤ x) (x2 : x < q) (a1 : 0 < a) : 0 ≤ sPart q x a ∧ sPart q x a ≤ x + a := by
  have h1 := sNear_in (x := x) a1
  have h2 := sNear_low x1 a1
  have h3 := Int.ediv_nonneg h2 (show 0 ≤ a by omega)
  have h4 : (x - sNear x a) / a ≤ x - sNear x a := Int.ediv_le_self _ h2
  unfold sPart
  split <;> omega
theorem sAl_div {q a : Int} (h : 1 < q) (a1 : 0 < a) (a4 : (q - 1) % a = 0) : 1 ≤ (q - 1) / a := by
  have h1 : a ∣ q - 1 := Int.dvd_of_emod_eq_zero a4
  have h2 : a ≤ q - 1 := Int.le_of_dvd (by omega) h1
  exact Int.le_ediv_of_mul_le a1 (by omega)
section LXC
variable {p : Program} {l : Launch} {e : Env} {R : Room} {s : State} {m : MethodId} {args : Array Value} {below : List Frame} {meth : Method} {c : Code} {H : Heap} {locs : List Loc} {cells slots : Nat} {Q : State → Prop}
variable {cc : ByteArray} {pc : Nat} {ls : Array Slot} {rest : List Value}
theorem lx_lcmp_ge (hexec : p.tables.exec = Jvm.exec) (hb : c.code = cc) {x : Int64} {off : Int} {tgt : Nat} (hd1 : decode cc pc = .ok (.lcmp, 1)) (hd2 : decode cc (pc + 1) = .ok (.ifCond .ge off, 3)) (ht : ((pc + 1 : Nat) : Int) + off = (tgt : Int))
    (kt : ¬ x.toInt < 0 → W p l e R s m args below meth c H locs cells slots Q (F0 m tgt ls rest)) (kf : x.toInt < 0 → W p l e R s m args below meth c H locs cells slots Q (F0 m (pc + 1 + 3) ls rest)) : W p l e R s m args below meth c H locs cells slots Q (F0 m pc ls (.long (lI 0) :: .long x :: rest)) := by
  have h0 : (lI 0).toInt = 0 := rfl
  have key : x.toInt < 0 → lg_cmp x (lI 0) = -1 := by
    intro h
    have n1 : ¬ lI 0 < x := by rw [Int64.lt_iff_toInt_lt, h0]; omega
    have n2 : ¬ x = lI 0 := fun g => by rw [g, h0] at h; omega
    simp [lg_cmp, n1, n2]
  have key2 : ¬ x.toInt < 0 → 0 ≤ lg_cmp x (lI 0) := by
    intro h
    by_cases n1 : lI 0 < x
    · simp [lg_cmp, n1]
    · have n2 : x = lI 0 := by
        rw [Int64.lt_iff_toInt_lt, h0] at n1
        exact Int64.toInt_inj.mp (by rw [h0]; omega)
      simp [lg_cmp, n2]
  refine W.lcmp hexec hb hd1 (lv_if_ge hexec hb hd2 ht (fun h => kt (fun g => ?_)) (fun h => kf (Decidable.byContradiction fun g => h (key2 g))))
  rw [key g] at h
  exact absurd h (by decide)
theorem lx_lcmp_eq (hexec : p.tables.exec = Jvm.exec) (hb : c.code = cc) {a b : Int} (a1 : -9223372036854775808 ≤ a) (a2 : a < 9223372036854775808) (b1 : -9223372036854775808 ≤ b) (b2 : b < 9223372036854775808) {off : Int} {tgt : Nat} (hd1 : decode cc pc = .ok (.lcmp, 1)) (hd2 : decode cc (pc + 1) = .ok (.ifCond .eq off, 3)) (ht : ((pc + 1 : Nat) : Int) + off = (tgt : Int))
    (kt : a = b → W p l e R s m args below meth c H locs cells slots Q (F0 m tgt ls rest)) (kf : ¬ a = b → W p l e R s m args below meth c H locs cells slots Q (F0 m (pc + 1 + 3) ls rest)) : W p l e R s m args below meth c H locs cells slots Q (F0 m pc ls (.long (lI b) :: .long (lI a) :: rest)) := by
  have key : lg_cmp (lI a) (lI b) = 0 ↔ a = b := by
    by_cases n1 : lI b < lI a
    · have : ¬ a = b := fun g => by rw [g] at n1; exact Int64.lt_irrefl n1
      simp [lg_cmp, n1, this]
    · by_cases n2 : lI a = lI b
      · have := (lI_eq a1 a2 b1 b2).mp n2
        simp [lg_cmp, this]
      · have : ¬ a = b := fun g => n2 (by rw [g])
        simp [lg_cmp, n1, n2, this]
  exact W.lcmp hexec hb hd1 (lv_if_eq hexec hb hd2 ht (fun h => kt (key.mp h)) (fun h => kf (fun g => h (key.mpr g))))
end LXC
set_option maxHeartbeats 4000000 in
set_option maxRecDepth 100000 in
theorem c_movedPart (l : Launch) (ω : WX) (k q z : Int) (M : Nat → Nat → Int) (wk : Nat → Int) (x a : Int) (hq1 : 3329 ≤ q) (hq2 : q ≤ 8380417) (x1 : 0 ≤ x) (x2 : x < q) (a1 : 0 < a) (a2 : a < q) (a3 : a % 2 = 0) (a4 : (q - 1) % a = 0) : Met l yX0_movedPart wsX0_movedPart ({ frames := 2, cells := 0, slots := 0, locals := 45 }) (va_Pc [.ref (ox ω), .int (iI (x)), .int (iI (a))] (fun U => GX ω k q z M wk U U.heap)) (vp_Si (fun r_ => r_ = iI (sMov q x a))) 0 0 (fun _ => False) := by
  refine Met.ofW (cc := cX0_movedPart) (maxL := 4) (ret := (some .int)) (by decide +kernel) rfl ?_
  intro p e s m args below meth c s₁ B hml hv
  obtain ⟨rfl, hG⟩ := hv
  have hx := B.exec
  have hb := B.bytes
  have hrt := B.returns
  have hts : ∀ w ∈ wsU, w.before _ s = true := fun w h => atoms_spec (ws := wsX0_movedPart) B.pre w (List.mem_cons_of_mem _ h)
  have hown : s.vm.findClass "NoiseRing" = some m.cls := findClass_of_methodNamed B.named
  have hlocks := B.notSynchronized
  have hl := lv_entry ([.ref (ox ω), .int (iI (x)), .int (iI (a))]) (n := 4) (Nat.le_of_ble_eq_true rfl)
  rw [lg_entry_eq]
  generalize (lg_sl ([.ref (ox ω), .int (iI (x)), .int (iI (a))]) ++ List.replicate (4 - (lg_sl ([.ref (ox ω), .int (iI (x)), .int (iI (a))])).length) Slot.unset).toArray = ls at hl ⊢
  have hl : lv_has ls 4 [(0, .ref (ox ω)), (1, .int (iI (x))), (2, .int (iI (a)))] := hl
  have hn := sNear_in (x := x) a1
  have hp := sPart_in (q := q) x1 x2 a1
  have hv := sAl_div (q := q) (by omega) a1 a4
  have hv2 : (q - 1) / a ≤ q - 1 := Int.ediv_le_self _ (by omega)
  have hrr : -2147483648 ≤ sRest q x a ∧ sRest q x a < 2147483648 := by
    unfold sRest
    split <;> omega
  refine lv_aload_n hx hb dX0_movedPart_0 rfl (lv_at hl 0 rfl) ?_
  refine lv_iload_n hx hb dX0_movedPart_1 rfl (lv_at hl 1 rfl) ?_
  refine lv_iload_n hx hb dX0_movedPart_2 rfl (lv_at hl 2 rfl) ?_
  refine vp_callSi (va_Run.run (va_runV (As := [.int (iI (x)), .int (iI (a))]) (rest := []) ⟨hx, hb, hml, hown, hts⟩ (c_restOf l ω k q z M wk (x) (a) hq1 hq2 (by omega) (by omega) (by omega) (by omega) (by assumption)) (cwV 2 hts (gU (hd := [.methodLink "NoiseRing" 79 yX0_restOf, .instanceMethod yX0_restOf, .selects "NoiseRing" yX0_restOf yX0_restOf, .initialized "NoiseRing"]) (List.forall_mem_cons.mpr ⟨u256, List.forall_mem_cons.mpr ⟨u257, List.forall_mem_cons.mpr ⟨u13, List.forall_mem_cons.mpr ⟨u29, fun _ h => by cases h⟩⟩⟩⟩) u258) rfl rfl rfl (by decide +kernel) ⟨Nat.le_of_ble_eq_true rfl, Nat.le_of_ble_eq_true rfl⟩) (gx_V hG) rfl rfl hl.1 rfl (lv_room (Nat.le_of_ble_eq_true rfl)) dX0_movedPart_3 ⟨Nat.le_of_ble_eq_true rfl, Nat.le_of_ble_eq_true rfl⟩)) (fun r3 hr3 => ?_)
  subst hr3
  refine ix_if_le (tgt := 13) hx hb (by omega) (by omega) dX0_movedPart_6 (by decide) (fun h6 => ?_) (fun h6 => ?_)
  · skip
    refine ix_iconst hx hb dX0_movedPart_13 ?_
    refine lv_istore_n (lv' := [(3, .int (iI (-1))), (0, .ref (ox ω)), (1, .int (iI (x))), (2, .int (iI (a)))]) hx hb dX0_movedPart_14 rfl hl (by decide) rfl (fun ls hl => ?_)
    refine lv_aload_n hx hb dX0_movedPart_15 rfl (lv_at hl 1 rfl) ?_
    refine lv_iload_n hx hb dX0_movedPart_16 rfl (lv_at hl 2 rfl) ?_
    refine lv_iload_n hx hb dX0_movedPart_17 rfl (lv_at hl 3 rfl) ?_
    refine vp_callSi (va_Run.run (va_runV (As := [.int (iI (x)), .int (iI (a))]) (rest := []) ⟨hx, hb, hml, hown, hts⟩ (c_partOf l ω k q z M wk (x) (a) hq1 hq2 (by omega) (by omega) (by omega) (by omega) (by assumption)) (cwV 2 hts (gU (hd := [.methodLink "NoiseRing" 76 yX0_partOf, .instanceMethod yX0_partOf, .selects "NoiseRing" yX0_partOf yX0_partOf, .initialized "NoiseRing"]) (List.forall_mem_cons.mpr ⟨u250, List.forall_mem_cons.mpr ⟨u251, List.forall_mem_cons.mpr ⟨u12, List.forall_mem_cons.mpr ⟨u29, fun _ h => by cases h⟩⟩⟩⟩) u252) rfl rfl rfl (by decide +kernel) ⟨Nat.le_of_ble_eq_true rfl, Nat.le_of_ble_eq_true rfl⟩) (gx_V hG) rfl rfl hl.1 rfl (lv_room (Nat.le_of_ble_eq_true rfl)) dX0_movedPart_18 ⟨Nat.le_of_ble_eq_true rfl, Nat.le_of_ble_eq_true rfl⟩)) (fun r18 hr18 => ?_)
    subst hr18
    refine lv_iload_n hx hb dX0_movedPart_21 rfl (lv_at hl 0 rfl) ?_
    refine ix_iadd hx hb dX0_movedPart_22 ?_
    refine lv_aload_n hx hb dX0_movedPart_23 rfl (lv_at hl 1 rfl) ?_
    refine gx_get hx hb hts hown hG 3 (by decide) rfl u58 dX0_movedPart_24 ?_
    refine ix_iconst hx hb dX0_movedPart_27 ?_
    refine ix_isub hx hb dX0_movedPart_28 ?_
    refine lv_iload_n hx hb dX0_movedPart_29 rfl (lv_at hl 3 rfl) ?_
    refine ix_idiv hx hb (by omega) (by omega) (by omega) (by omega) dX0_movedPart_30 ?_
    refine vp_callSi (va_Run.run (va_runS (As := [.int (iI (((sPart q (x) (a)) + -1))), .int (iI (((q - 1) / a)))]) (rest := []) ⟨hx, hb, hml, hown, hts⟩ (c_floorModI l (((sPart q (x) (a)) + -1)) (((q - 1) / a)) (by omega) (by omega) (by omega) (by omega)) (va_cwS 2 hts (gU (hd := [.methodLink "NoiseRing" 39 yJ_floorModI, .static yJ_floorModI, .initialized "java/lang/Math"]) (List.forall_mem_cons.mpr ⟨u175, List.forall_mem_cons.mpr ⟨u176, List.forall_mem_cons.mpr ⟨u36, fun _ h => by cases h⟩⟩⟩) u177) rfl rfl rfl (by decide +kernel) ⟨Nat.le_of_ble_eq_true rfl, Nat.le_of_ble_eq_true rfl⟩) gn_S rfl rfl hl.1 rfl (lv_room (Nat.le_of_ble_eq_true rfl)) dX0_movedPart_31 ⟨Nat.le_of_ble_eq_true rfl, Nat.le_of_ble_eq_true rfl⟩)) (fun r31 hr31 => ?_)
    subst hr31
    exact W.iret hx hb hrt (fun t ht hW => ⟨_, rfl, congrArg iI (by unfold sMov; first | rw [if_pos (by omega)] | rw [if_neg (by omega)]), ht⟩) t_nil dX0_movedPart_34
  · skip
    refine ix_iconst hx hb dX0_movedPart_9 ?_
    refine lv_goto (tgt := 14) hx hb dX0_movedPart_10 (by decide) ?_
    refine lv_istore_n (lv' := [(3, .int (iI (1))), (0, .ref (ox ω)), (1, .int (iI (x))), (2, .int (iI (a)))]) hx hb dX0_movedPart_14 rfl hl (by decide) rfl (fun ls hl => ?_)
    refine lv_aload_n hx hb dX0_movedPart_15 rfl (lv_at hl 1 rfl) ?_
    refine lv_iload_n hx hb dX0_movedPart_16 rfl (lv_at hl 2 rfl) ?_
    refine lv_iload_n hx hb dX0_movedPart_17 rfl (lv_at hl 3 rfl) ?_
    refine vp_callSi (va_Run.run (va_runV (As := [.int (iI (x)), .int (iI (a))]) (rest := []) ⟨hx, hb, hml, hown, hts⟩ (c_partOf l ω k q z M wk (x) (a) hq1 hq2 (by omega) (by omega) (by omega) (by omega) (by assumption)) (cwV 2 hts (gU (hd := [.methodLink "NoiseRing" 76 yX0_partOf, .instanceMethod yX0_partOf, .selects "NoiseRing" yX0_partOf yX0_partOf, .initialized "NoiseRing"]) (List.forall_mem_cons.mpr ⟨u250, List.forall_mem_cons.mpr ⟨u251, List.forall_mem_cons.mpr ⟨u12, List.forall_mem_cons.mpr ⟨u29, fun _ h => by cases h⟩⟩⟩⟩) u252) rfl rfl rfl (by decide +kernel) ⟨Nat.le_of_ble_eq_true rfl, Nat.le_of_ble_eq_true rfl⟩) (gx_V hG) rfl rfl hl.1 rfl (lv_room (Nat.le_of_ble_eq_true rfl)) dX0_movedPart_18 ⟨Nat.le_of_ble_eq_true rfl, Nat.le_of_ble_eq_true rfl⟩)) (fun r18 hr18 => ?_)
    subst hr18
    refine lv_iload_n hx hb dX0_movedPart_21 rfl (lv_at hl 0 rfl) ?_
    refine ix_iadd hx hb dX0_movedPart_22 ?_
    refine lv_aload_n hx hb dX0_movedPart_23 rfl (lv_at hl 1 rfl) ?_
    refine gx_get hx hb hts hown hG 3 (by decide) rfl u58 dX0_movedPart_24 ?_
    refine ix_iconst hx hb dX0_movedPart_27 ?_
    refine ix_isub hx hb dX0_movedPart_28 ?_
    refine lv_iload_n hx hb dX0_movedPart_29 rfl (lv_at hl 3 rfl) ?_
    refine ix_idiv hx hb (by omega) (by omega) (by omega) (by omega) dX0_movedPart_30 ?_
    refine vp_callSi (va_Run.run (va_runS (As := [.int (iI (((sPart q (x) (a)) + 1))), .int (iI (((q - 1) / a)))]) (rest := []) ⟨hx, hb, hml, hown, hts⟩ (c_floorModI l (((sPart q (x) (a)) + 1)) (((q - 1) / a)) (by omega) (by omega) (by omega) (by omega)) (va_cwS 2 hts (gU (hd := [.methodLink "NoiseRing" 39 yJ_floorModI, .static yJ_floorModI, .initialized "java/lang/Math"]) (List.forall_mem_cons.mpr ⟨u175, List.forall_mem_cons.mpr ⟨u176, List.forall_mem_cons.mpr ⟨u36, fun _ h => by cases h⟩⟩⟩) u177) rfl rfl rfl (by decide +kernel) ⟨Nat.le_of_ble_eq_true rfl, Nat.le_of_ble_eq_true rfl⟩) gn_S rfl rfl hl.1 rfl (lv_room (Nat.le_of_ble_eq_true rfl)) dX0_movedPart_31 ⟨Nat.le_of_ble_eq_true rfl, Nat.le_of_ble_eq_true rfl⟩)) (fun r31 hr31 => ?_)
    subst hr31
    exact W.iret hx hb hrt (fun t ht hW => ⟨_, rfl, congrArg iI (by unfold sMov; first | rw [if_pos (by omega)] | rw [if_neg (by omega)]), ht⟩) t_nil dX0_movedPart_34
set_option maxHeartbeats 4000000 in
set_option maxRecDepth 100000 in
theorem c_rounded (l : Launch) (ω : WX) (k q z : Int) (M : Nat → Nat → Int) (wk : Nat → Int) (op x : Int) (d : Nat) (hq1 : 3329 ≤ q) (hq2 : q ≤ 8380417) (op1 : 0 ≤ op) (op2 : op ≤ 3) (x1 : 0 ≤ x) (x2 : x < q) (d1 : 1 ≤ d) (d2 : d ≤ 22) : Met l yX0_rounded wsX0_rounded ({ frames := 2, cells := 0, slots := 0, locals := 44 }) (va_Pc [.ref (ox ω), .int (iI (op)), .int (iI (x)), .int (iI (d))] (fun U => GX ω k q z M wk U U.heap)) (vp_Si (fun r_ => r_ = iI (sRound q op x d))) 0 0 (fun _ => False) := by
  refine Met.ofW (cc := cX0_rounded) (maxL := 4) (ret := (some .int)) (by decide +kernel) rfl ?_
  intro p e s m args below meth c s₁ B hml hv
  obtain ⟨rfl, hG⟩ := hv
  have hx := B.exec
  have hb := B.bytes
  have hrt := B.returns
  have hts : ∀ w ∈ wsU, w.before _ s = true := fun w h => atoms_spec (ws := wsX0_rounded) B.pre w (List.mem_cons_of_mem _ h)
  have hown : s.vm.findClass "NoiseRing" = some m.cls := findClass_of_methodNamed B.named
  have hlocks := B.notSynchronized
  have hl := lv_entry ([.ref (ox ω), .int (iI (op)), .int (iI (x)), .int (iI (d))]) (n := 4) (Nat.le_of_ble_eq_true rfl)
  rw [lg_entry_eq]
  generalize (lg_sl ([.ref (ox ω), .int (iI (op)), .int (iI (x)), .int (iI (d))]) ++ List.replicate (4 - (lg_sl ([.ref (ox ω), .int (iI (op)), .int (iI (x)), .int (iI (d))])).length) Slot.unset).toArray = ls at hl ⊢
  have hl : lv_has ls 4 [(0, .ref (ox ω)), (1, .int (iI (op))), (2, .int (iI (x))), (3, .int (iI (d)))] := hl
  have hp := pw_in d2
  have h1 := Int.emod_nonneg x (show (2 : Int) ^ d ≠ 0 by omega)
  have h2 := Int.emod_lt_of_pos x (show (0 : Int) < 2 ^ d by omega)
  have hn := sNear_in (x := x) (show (0 : Int) < 2 ^ d by omega)
  have hn2 := sNear_low x1 (show (0 : Int) < 2 ^ d by omega)
  refine lv_iload_n hx hb dX0_rounded_0 rfl (lv_at hl 1 rfl) ?_
  rcases (show op = 0 ∨ op = 1 ∨ op = 2 ∨ op = 3 by omega) with rfl | rfl | rfl | rfl
  · skip
    refine lv_tableIn (tgt := 28) hx hb dX0_rounded_1 (by decide) (by decide) (by rfl) (by decide) ?_
    refine lv_aload_n hx hb dX0_rounded_28 rfl (lv_at hl 0 rfl) ?_
    refine lv_iload_n hx hb dX0_rounded_29 rfl (lv_at hl 2 rfl) ?_
    refine lv_iload_n hx hb dX0_rounded_30 rfl (lv_at hl 3 rfl) ?_
    refine vp_callSi (va_Run.run (va_runV (As := [.int (iI (x)), .int (iI (d))]) (rest := []) ⟨hx, hb, hml, hown, hts⟩ (c_fewerBits l ω k q z M wk (x) (d) hq1 hq2 (by omega) (by omega) (by omega) (by omega)) (cwV 2 hts (gU (hd := [.methodLink "NoiseRing" 140 yX0_fewerBits, .instanceMethod yX0_fewerBits, .selects "NoiseRing" yX0_fewerBits yX0_fewerBits, .initialized "NoiseRing"]) (List.forall_mem_cons.mpr ⟨u227, List.forall_mem_cons.mpr ⟨u228, List.forall_mem_cons.mpr ⟨u9, List.forall_mem_cons.mpr ⟨u29, fun _ h => by cases h⟩⟩⟩⟩) u229) rfl rfl rfl (by decide +kernel) ⟨Nat.le_of_ble_eq_true rfl, Nat.le_of_ble_eq_true rfl⟩) (gx_V hG) rfl rfl hl.1 rfl (lv_room (Nat.le_of_ble_eq_true rfl)) dX0_rounded_31 ⟨Nat.le_of_ble_eq_true rfl, Nat.le_of_ble_eq_true rfl⟩)) (fun r31 hr31 => ?_)
    subst hr31
    exact W.iret hx hb hrt (fun t ht hW => ⟨_, rfl, rfl, ht⟩) t_nil dX0_rounded_34
  · skip
    refine lv_tableIn (tgt := 35) hx hb dX0_rounded_1 (by decide) (by decide) (by rfl) (by decide) ?_
    refine lv_aload_n hx hb dX0_rounded_35 rfl (lv_at hl 0 rfl) ?_
    refine lv_iload_n hx hb dX0_rounded_36 rfl (lv_at hl 2 rfl) ?_
    refine lv_iload_n hx hb dX0_rounded_37 rfl (lv_at hl 3 rfl) ?_
    refine vp_callSi (va_Run.run (va_runS (As := [.int (iI (d))]) (rest := [.int (iI (x)), .ref (ox ω)]) ⟨hx, hb, hml, hown, hts⟩ (c_lowMask l (d) (by omega)) (va_cwS 1 hts (gU (hd := [.methodLink "NoiseRing" 143 yX0_lowMask, .static yX0_lowMask, .initialized "NoiseRing"]) (List.forall_mem_cons.mpr ⟨u231, List.forall_mem_cons.mpr ⟨u232, List.forall_mem_cons.mpr ⟨u29, fun _ h => by cases h⟩⟩⟩) u233) rfl rfl rfl (by decide +kernel) ⟨Nat.le_of_ble_eq_true rfl, Nat.le_of_ble_eq_true rfl⟩) gn_S rfl rfl hl.1 rfl (lv_room (Nat.le_of_ble_eq_true rfl)) dX0_rounded_38 ⟨Nat.le_of_ble_eq_true rfl, Nat.le_of_ble_eq_true rfl⟩)) (fun r38 hr38 => ?_)
    subst hr38
    refine ix_mask (d := d) hx hb (by omega) (by omega) (by omega) dX0_rounded_41 ?_
    refine lv_iload_n hx hb dX0_rounded_42 rfl (lv_at hl 3 rfl) ?_
    refine vp_callSi (va_Run.run (va_runV (As := [.int (iI ((x) % 2 ^ (d))), .int (iI (d))]) (rest := []) ⟨hx, hb, hml, hown, hts⟩ (c_moreBits l ω k q z M wk ((x) % 2 ^ (d)) (d) hq1 hq2 (by omega) (by omega) (by omega) (by omega)) (cwV 2 hts (gU (hd := [.methodLink "NoiseRing" 146 yX0_moreBits, .instanceMethod yX0_moreBits, .selects "NoiseRing" yX0_moreBits yX0_moreBits, .initialized "NoiseRing"]) (List.forall_mem_cons.mpr ⟨u234, List.forall_mem_cons.mpr ⟨u235, List.forall_mem_cons.mpr ⟨u10, List.forall_mem_cons.mpr ⟨u29, fun _ h => by cases h⟩⟩⟩⟩) u236) rfl rfl rfl (by decide +kernel) ⟨Nat.le_of_ble_eq_true rfl, Nat.le_of_ble_eq_true rfl⟩) (gx_V hG) rfl rfl hl.1 rfl (lv_room (Nat.le_of_ble_eq_true rfl)) dX0_rounded_43 ⟨Nat.le_of_ble_eq_true rfl, Nat.le_of_ble_eq_true rfl⟩)) (fun r43 hr43 => ?_)
    subst hr43
    exact W.iret hx hb hrt (fun t ht hW => ⟨_, rfl, rfl, ht⟩) t_nil dX0_rounded_46
  · skip
    refine lv_tableIn (tgt := 47) hx hb dX0_rounded_1 (by decide) (by decide) (by rfl) (by decide) ?_
    refine lv_iload_n hx hb dX0_rounded_47 rfl (lv_at hl 2 rfl) ?_
    refine lv_iload_n hx hb dX0_rounded_48 rfl (lv_at hl 3 rfl) ?_
    refine vp_callSi (va_Run.run (va_runS (As := [.int (iI (x)), .int (iI (d))]) (rest := []) ⟨hx, hb, hml, hown, hts⟩ (c_lowBits l (x) (d) (by omega) (by omega) (by omega) (by omega)) (va_cwS 2 hts (gU (hd := [.methodLink "NoiseRing" 149 yX0_lowBits, .static yX0_lowBits, .initialized "NoiseRing"]) (List.forall_mem_cons.mpr ⟨u237, List.forall_mem_cons.mpr ⟨u238, List.forall_mem_cons.mpr ⟨u29, fun _ h => by cases h⟩⟩⟩) u239) rfl rfl rfl (by decide +kernel) ⟨Nat.le_of_ble_eq_true rfl, Nat.le_of_ble_eq_true rfl⟩) gn_S rfl rfl hl.1 rfl (lv_room (Nat.le_of_ble_eq_true rfl)) dX0_rounded_49 ⟨Nat.le_of_ble_eq_true rfl, Nat.le_of_ble_eq_true rfl⟩)) (fun r49 hr49 => ?_)
    subst hr49
    refine lv_aload_n hx hb dX0_rounded_52 rfl (lv_at hl 0 rfl) ?_
    refine gx_get hx hb hts hown hG 3 (by decide) rfl u58 dX0_rounded_53 ?_
    refine vp_callSi (va_Run.run (va_runS (As := [.int (iI ((sNear (x) (2 ^ (d))))), .int (iI (q))]) (rest := []) ⟨hx, hb, hml, hown, hts⟩ (c_floorModI l ((sNear (x) (2 ^ (d)))) (q) (by omega) (by omega) (by omega) (by omega)) (va_cwS 2 hts (gU (hd := [.methodLink "NoiseRing" 39 yJ_floorModI, .static yJ_floorModI, .initialized "java/lang/Math"]) (List.forall_mem_cons.mpr ⟨u175, List.forall_mem_cons.mpr ⟨u176, List.forall_mem_cons.mpr ⟨u36, fun _ h => by cases h⟩⟩⟩) u177) rfl rfl rfl (by decide +kernel) ⟨Nat.le_of_ble_eq_true rfl, Nat.le_of_ble_eq_true rfl⟩) gn_S rfl rfl hl.1 rfl (lv_room (Nat.le_of_ble_eq_true rfl)) dX0_rounded_56 ⟨Nat.le_of_ble_eq_true rfl, Nat.le_of_ble_eq_true rfl⟩)) (fun r56 hr56 => ?_)
    subst hr56
    exact W.iret hx hb hrt (fun t ht hW => ⟨_, rfl, rfl, ht⟩) t_nil dX0_rounded_59
  · skip
    refine lv_tableOut (tgt := 60) hx hb dX0_rounded_1 (by decide) (by decide) ?_
    refine lv_iload_n hx hb dX0_rounded_60 rfl (lv_at hl 2 rfl) ?_
    refine lv_iload_n hx hb dX0_rounded_61 rfl (lv_at hl 2 rfl) ?_
    refine lv_iload_n hx hb dX0_rounded_62 rfl (lv_at hl 3 rfl) ?_
    refine vp_callSi (va_Run.run (va_runS (As := [.int (iI (x)), .int (iI (d))]) (rest := [.int (iI (x))]) ⟨hx, hb, hml, hown, hts⟩ (c_lowBits l (x) (d) (by omega) (by omega) (by omega) (by omega)) (va_cwS 2 hts (gU (hd := [.methodLink "NoiseRing" 149 yX0_lowBits, .static yX0_lowBits, .initialized "NoiseRing"]) (List.forall_mem_cons.mpr ⟨u237, List.forall_mem_cons.mpr ⟨u238, List.forall_mem_cons.mpr ⟨u29, fun _ h => by cases h⟩⟩⟩) u239) rfl rfl rfl (by decide +kernel) ⟨Nat.le_of_ble_eq_true rfl, Nat.le_of_ble_eq_true rfl⟩) gn_S rfl rfl hl.1 rfl (lv_room (Nat.le_of_ble_eq_true rfl)) dX0_rounded_63 ⟨Nat.le_of_ble_eq_true rfl, Nat.le_of_ble_eq_true rfl⟩)) (fun r63 hr63 => ?_)
    subst hr63
    refine ix_isub hx hb dX0_rounded_66 ?_
    refine lv_iload_n hx hb dX0_rounded_67 rfl (lv_at hl 3 rfl) ?_
    refine ix_ishr (d := d) hx hb (by omega) (by omega) (by omega) dX0_rounded_68 ?_
    exact W.iret hx hb hrt (fun t ht hW => ⟨_, rfl, rfl, ht⟩) t_nil dX0_rounded_69
set_option maxHeartbeats 4000000 in
set_option maxRecDepth 100000 in
theorem c_floorModL (l : Launch)  (a b : Int) (a1 : -9223372036854775808 ≤ a) (a2 : a < 9223372036854775808) (b1 : 0 < b) (b2 : b < 9223372036854775808) : Met l yJ_floorModL wsJ_floorModL ({ frames := 0, cells := 0, slots := 0, locals := 0 }) (va_Pc [.long (lI (a)), .long (lI (b))] (fun _ => True)) (vp_Sl (fun r_ => r_ = lI (a % b))) 0 0 (fun _ => False) := by
  refine va_MetF (cc := cJ_floorModL) (maxL := 6) (ret := (some .long)) (by decide +kernel) rfl ?_
  intro p e s m args below meth c s₁ B hml hv
  obtain ⟨rfl, hG⟩ := hv
  have hx := B.exec
  have hb := B.bytes
  have hrt := B.returns
  have hts : ∀ w ∈ wsU, w.before _ s = true := fun w h => atoms_spec (ws := wsJ_floorModL) B.pre w (List.mem_cons_of_mem _ h)
  have hown : s.vm.findClass "java/lang/Math" = some m.cls := findClass_of_methodNamed B.named
  have hlocks := B.notSynchronized
  have hl := lv_entry ([.long (lI (a)), .long (lI (b))]) (n := 6) (Nat.le_of_ble_eq_true rfl)
  rw [lg_entry_eq]
  generalize (lg_sl ([.long (lI (a)), .long (lI (b))]) ++ List.replicate (6 - (lg_sl ([.long (lI (a)), .long (lI (b))])).length) Slot.unset).toArray = ls at hl ⊢
  have hl : lv_has ls 6 [(0, .long (lI (a))), (2, .long (lI (b)))] := hl
  have hT := tm_em (a := a) b1
  have hL1 := Int.tmod_lt_of_pos a b1
  have hL2 : -b < a.tmod b := by
    have h9 := Int.lt_tmod_of_pos a b1
    omega
  refine lv_lload_n hx hb dJ_floorModL_0 rfl (lv_at hl 0 rfl) ?_
  refine lv_lload_n hx hb dJ_floorModL_1 rfl (lv_at hl 1 rfl) ?_
  refine ix_lremT hx hb a1 a2 b1 b2 dJ_floorModL_2 ?_
  refine lv_lstore (lv' := [(4, .long (lI (a.tmod b))), (0, .long (lI (a))), (2, .long (lI (b)))]) hx hb dJ_floorModL_3 hl (by decide) rfl (fun ls hl => ?_)
  refine lv_lload_n hx hb dJ_floorModL_5 rfl (lv_at hl 1 rfl) ?_
  refine lv_lload_n hx hb dJ_floorModL_6 rfl (lv_at hl 2 rfl) ?_
  refine lv_lxor hx hb dJ_floorModL_7 ?_
  refine ix_lconst0 hx hb dJ_floorModL_8 ?_
  refine lx_lcmp_ge (tgt := 25) hx hb dJ_floorModL_9 dJ_floorModL_10 (by decide) (fun h7 => ?_) (fun h7 => ?_)
  · have h7 : 0 ≤ a := by have g := lI_xor a1 a2 b1 b2; omega
    rw [if_pos h7] at hT
    refine lv_lload hx hb dJ_floorModL_25 (lv_at hl 0 rfl) ?_
    exact W.lret hx hb hrt (fun t ht hW => ⟨_, rfl, congrArg lI (hT.symm), ht⟩) t_nil dJ_floorModL_27
  · have h7 : ¬ 0 ≤ a := by have g := lI_xor a1 a2 b1 b2; omega
    rw [if_neg h7] at hT
    refine lv_lload hx hb dJ_floorModL_13 (lv_at hl 0 rfl) ?_
    refine ix_lconst0 hx hb dJ_floorModL_15 ?_
    refine lx_lcmp_eq (tgt := 25) hx hb (by omega) (by omega) (by omega) (by omega) dJ_floorModL_16 dJ_floorModL_17 (by decide) (fun h11 => ?_) (fun h11 => ?_)
    · rw [if_pos h11] at hT
      refine lv_lload hx hb dJ_floorModL_25 (lv_at hl 0 rfl) ?_
      exact W.lret hx hb hrt (fun t ht hW => ⟨_, rfl, congrArg lI (h11.trans hT.symm), ht⟩) t_nil dJ_floorModL_27
    · rw [if_neg h11] at hT
      refine lv_lload hx hb dJ_floorModL_20 (lv_at hl 0 rfl) ?_
      refine lv_lload_n hx hb dJ_floorModL_22 rfl (lv_at hl 2 rfl) ?_
      refine ix_ladd hx hb dJ_floorModL_23 ?_
      exact W.lret hx hb hrt (fun t ht hW => ⟨_, rfl, congrArg lI (hT.symm), ht⟩) t_nil dJ_floorModL_24
set_option maxHeartbeats 4000000 in
set_option maxRecDepth 100000 in
theorem c_ones (l : Launch)  (first many : Nat) (low high : Int64) (f2 : first + many ≤ 96) : Met l yX0_ones wsX0_ones ({ frames := 0, cells := 0, slots := 0, locals := 0 }) (va_Pc [.int (iI (first)), .int (iI (many)), .long (low), .long (high)] (fun _ => True)) (vp_Si (fun r_ => r_ = iI (sOnes low high first many))) 0 0 (fun _ => False) := by
  refine Met.ofW (cc := cX0_ones) (maxL := 10) (ret := (some .int)) (by decide +kernel) rfl ?_
  intro p e s m args below meth c s₁ B hml hv
  obtain ⟨rfl, hG⟩ := hv
  have hx := B.exec
  have hb := B.bytes
  have hrt := B.returns
  have hts : ∀ w ∈ wsU, w.before _ s = true := fun w h => atoms_spec (ws := wsX0_ones) B.pre w (List.mem_cons_of_mem _ h)
  have hown : s.vm.findClass "NoiseRing" = some m.cls := findClass_of_methodNamed B.named
  have hlocks := B.notSynchronized
  have hl := lv_entry ([.int (iI (first)), .int (iI (many)), .long (low), .long (high)]) (n := 10) (Nat.le_of_ble_eq_true rfl)
  rw [lg_entry_eq]
  generalize (lg_sl ([.int (iI (first)), .int (iI (many)), .long (low), .long (high)]) ++ List.replicate (10 - (lg_sl ([.int (iI (first)), .int (iI (many)), .long (low), .long (high)])).length) Slot.unset).toArray = ls at hl ⊢
  have hl : lv_has ls 10 [(0, .int (iI (first))), (1, .int (iI (many))), (2, .long (low)), (4, .long (high))] := hl
  refine ix_iconst hx hb dX0_ones_0 ?_
  refine lv_istore (lv' := [(6, .int (iI (0))), (0, .int (iI (first))), (1, .int (iI (many))), (2, .long (low)), (4, .long (high))]) hx hb dX0_ones_1 hl (by decide) rfl (fun ls hl => ?_)
  refine lv_iload_n hx hb dX0_ones_3 rfl (lv_at hl 1 rfl) ?_
  refine lv_istore (lv' := [(7, .int (iI (first))), (6, .int (iI (0))), (0, .int (iI (first))), (1, .int (iI (many))), (2, .long (low)), (4, .long (high))]) hx hb dX0_ones_4 hl (by decide) rfl (fun ls hl => ?_)
  refine ix_loop (I := fun j ls => lv_has ls 10 [(7, .int (iI ((first + (j) : Nat)))), (6, .int (iI (sOnes low high first (j)))), (0, .int (iI (first))), (1, .int (iI (many))), (2, .long (low)), (4, .long (high))]) (many) 0 (by omega) (lv_sub hl [0, 1, 2, 3, 4, 5] rfl) (fun ls hl => ?_) (fun j ls hj hl ih6 => ?_)
  · skip
    have hl : lv_has ls 10 [(7, .int (iI ((first + (many) : Nat)))), (6, .int (iI (sOnes low high first (many)))), (0, .int (iI (first))), (1, .int (iI (many))), (2, .long (low)), (4, .long (high))] := hl
    refine lv_iload hx hb dX0_ones_6 (lv_at hl 0 rfl) ?_
    refine lv_iload_n hx hb dX0_ones_8 rfl (lv_at hl 2 rfl) ?_
    refine lv_iload_n hx hb dX0_ones_9 rfl (lv_at hl 3 rfl) ?_
    refine ix_iadd hx hb dX0_ones_10 ?_
    refine ix_icmp_ge (tgt := 48) hx hb (by omega) (by omega) (by omega) (by omega) dX0_ones_11 (by decide) (fun h11 => ?_) (fun h11 => absurd h11 (by omega))
    refine lv_iload hx hb dX0_ones_48 (lv_at hl 1 rfl) ?_
    exact W.iret hx hb hrt (fun t ht hW => ⟨_, rfl, rfl, ht⟩) t_nil dX0_ones_50
  · skip
    have hl : lv_has ls 10 [(7, .int (iI ((first + (j) : Nat)))), (6, .int (iI (sOnes low high first (j)))), (0, .int (iI (first))), (1, .int (iI (many))), (2, .long (low)), (4, .long (high))] := hl
    refine lv_iload hx hb dX0_ones_6 (lv_at hl 0 rfl) ?_
    refine lv_iload_n hx hb dX0_ones_8 rfl (lv_at hl 2 rfl) ?_
    refine lv_iload_n hx hb dX0_ones_9 rfl (lv_at hl 3 rfl) ?_
    refine ix_iadd hx hb dX0_ones_10 ?_
    refine ix_icmp_ge (tgt := 48) hx hb (by omega) (by omega) (by omega) (by omega) dX0_ones_11 (by decide) (fun h11 => absurd h11 (by omega)) (fun h11 => ?_)
    have ho := sOnes_in low high first j
    have hbt := sBit_in low high (first + j)
    refine lv_iload hx hb dX0_ones_14 (lv_at hl 0 rfl) ?_
    refine ix_bipush hx hb (by decide) dX0_ones_16 ?_
    refine ix_icmp_ge (tgt := 25) hx hb (by omega) (by omega) (by omega) (by omega) dX0_ones_18 (by decide) (fun h18 => ?_) (fun h18 => ?_)
    · skip
      refine lv_lload hx hb dX0_ones_25 (lv_at hl 5 rfl) ?_
      refine lv_lstore (lv' := [(8, .long (high)), (7, .int (iI ((first + (j) : Nat)))), (6, .int (iI (sOnes low high first (j)))), (0, .int (iI (first))), (1, .int (iI (many))), (2, .long (low)), (4, .long (high))]) hx hb dX0_ones_27 hl (by decide) rfl (fun ls hl => ?_)
      refine lv_iload hx hb dX0_ones_29 (lv_at hl 2 rfl) ?_
      refine lv_lload hx hb dX0_ones_31 (lv_at hl 0 rfl) ?_
      refine lv_iload hx hb dX0_ones_33 (lv_at hl 1 rfl) ?_
      refine lv_lushr hx hb dX0_ones_35 rfl ?_
      refine ix_lconst1 hx hb dX0_ones_36 ?_
      refine lv_land hx hb dX0_ones_37 ?_
      refine wx_l ((lI_bit high (k := first + j) (by omega)).trans (congrArg lI (show ((high.toBitVec.toNat / 2 ^ ((first + j) % 64) % 2 : Nat) : Int) = sBit low high (first + j) from ?_))) ?_
      · unfold sBit; rw [if_neg (by omega), show (first + j) % 64 = first + j - 64 by omega]
      refine ix_l2i hx hb dX0_ones_38 ?_
      refine ix_iadd hx hb dX0_ones_39 ?_
      refine lv_istore (lv' := [(6, .int (iI ((sOnes low high first (j) + sBit low high (first + j))))), (8, .long (high)), (7, .int (iI ((first + (j) : Nat)))), (0, .int (iI (first))), (1, .int (iI (many))), (2, .long (low)), (4, .long (high))]) hx hb dX0_ones_40 hl (by decide) rfl (fun ls hl => ?_)
      refine lv_iinc (k := 2) (v := iI ((first + (j + 1) : Nat))) (lv' := [(7, .int (iI ((first + (j + 1) : Nat)))), (6, .int (iI ((sOnes low high first (j) + sBit low high (first + j))))), (8, .long (high)), (0, .int (iI (first))), (1, .int (iI (many))), (2, .long (low)), (4, .long (high))]) hx hb dX0_ones_42 hl rfl (iI_add _ _) (by decide) rfl (fun ls hl => ?_)
      refine lv_goto (tgt := 6) hx hb dX0_ones_45 (by decide) ?_
      exact ih6 ls (lv_sub hl [0, 1, 3, 4, 5, 6] rfl)
    · skip
      refine lv_lload_n hx hb dX0_ones_21 rfl (lv_at hl 4 rfl) ?_
      refine lv_goto (tgt := 27) hx hb dX0_ones_22 (by decide) ?_
      refine lv_lstore (lv' := [(8, .long (low)), (7, .int (iI ((first + (j) : Nat)))), (6, .int (iI (sOnes low high first (j)))), (0, .int (iI (first))), (1, .int (iI (many))), (2, .long (low)), (4, .long (high))]) hx hb dX0_ones_27 hl (by decide) rfl (fun ls hl => ?_)
      refine lv_iload hx hb dX0_ones_29 (lv_at hl 2 rfl) ?_
      refine lv_lload hx hb dX0_ones_31 (lv_at hl 0 rfl) ?_
      refine lv_iload hx hb dX0_ones_33 (lv_at hl 1 rfl) ?_
      refine lv_lushr hx hb dX0_ones_35 rfl ?_
      refine ix_lconst1 hx hb dX0_ones_36 ?_
      refine lv_land hx hb dX0_ones_37 ?_
      refine wx_l ((lI_bit low (k := first + j) (by omega)).trans (congrArg lI (show ((low.toBitVec.toNat / 2 ^ ((first + j) % 64) % 2 : Nat) : Int) = sBit low high (first + j) from ?_))) ?_
      · unfold sBit; rw [if_pos (by omega), show (first + j) % 64 = first + j by omega]
      refine ix_l2i hx hb dX0_ones_38 ?_
      refine ix_iadd hx hb dX0_ones_39 ?_
      refine lv_istore (lv' := [(6, .int (iI ((sOnes low high first (j) + sBit low high (first + j))))), (8, .long (low)), (7, .int (iI ((first + (j) : Nat)))), (0, .int (iI (first))), (1, .int (iI (many))), (2, .long (low)), (4, .long (high))]) hx hb dX0_ones_40 hl (by decide) rfl (fun ls hl => ?_)
      refine lv_iinc (k := 2) (v := iI ((first + (j + 1) : Nat))) (lv' := [(7, .int (iI ((first + (j + 1) : Nat)))), (6, .int (iI ((sOnes low high first (j) + sBit low high (first + j))))), (8, .long (low)), (0, .int (iI (first))), (1, .int (iI (many))), (2, .long (low)), (4, .long (high))]) hx hb dX0_ones_42 hl rfl (iI_add _ _) (by decide) rfl (fun ls hl => ?_)
      refine lv_goto (tgt := 6) hx hb dX0_ones_45 (by decide) ?_
      exact ih6 ls (lv_sub hl [0, 1, 3, 4, 5, 6] rfl)
set_option maxHeartbeats 4000000 in
set_option maxRecDepth 100000 in
theorem c_valueAt1 (l : Launch) (ω : WX) (k q z : Int) (M : Nat → Nat → Int) (wk : Nat → Int) (r : Nat) (x : Int) (hr : r < 12)  (hq1 : 3329 ≤ q) (hq2 : q ≤ 8380417) (hM : ∀ r i, r < 12 → i < 16 → 0 ≤ M r i ∧ M r i < q) (x1 : 0 ≤ x) (x2 : x < q) : Met l yX0_valueAt wsX0_valueAt ({ frames := 0, cells := 0, slots := 0, locals := 0 }) (va_Pc [.ref (ox ω), .ref (oR ω (r)), .int (iI (0)), .int (iI (1)), .int (iI (x))] (fun U => GX ω k q z M wk U U.heap)) (vp_Si (fun r_ => r_ = iI (sPol (fun u => M r (0 + u)) x 16 % q))) 0 0 (fun _ => False) := by
  refine Met.ofW (cc := cX0_valueAt) (maxL := 10) (ret := (some .int)) (by decide +kernel) rfl ?_
  intro p e s m args below meth c s₁ B hml hv
  obtain ⟨rfl, hG⟩ := hv
  have hx := B.exec
  have hb := B.bytes
  have hrt := B.returns
  have hts : ∀ w ∈ wsU, w.before _ s = true := fun w h => atoms_spec (ws := wsX0_valueAt) B.pre w (List.mem_cons_of_mem _ h)
  have hown : s.vm.findClass "NoiseRing" = some m.cls := findClass_of_methodNamed B.named
  have hlocks := B.notSynchronized
  have hl := lv_entry ([.ref (ox ω), .ref (oR ω (r)), .int (iI (0)), .int (iI (1)), .int (iI (x))]) (n := 10) (Nat.le_of_ble_eq_true rfl)
  rw [lg_entry_eq]
  generalize (lg_sl ([.ref (ox ω), .ref (oR ω (r)), .int (iI (0)), .int (iI (1)), .int (iI (x))]) ++ List.replicate (10 - (lg_sl ([.ref (ox ω), .ref (oR ω (r)), .int (iI (0)), .int (iI (1)), .int (iI (x))])).length) Slot.unset).toArray = ls at hl ⊢
  have hl : lv_has ls 10 [(0, .ref (ox ω)), (1, .ref (oR ω (r))), (2, .int (iI (0))), (3, .int (iI (1))), (4, .int (iI (x)))] := hl
  refine ix_lconst0 hx hb dX0_valueAt_0 ?_
  refine wx_l (congrArg lI (show (0 : Int) = sPol (fun u => M r (0 + u)) x 0 % q from (Int.zero_emod q).symm)) ?_
  refine lv_lstore (lv' := [(5, .long (lI (sPol (fun u => M r (0 + u)) x (0) % q))), (0, .ref (ox ω)), (1, .ref (oR ω (r))), (2, .int (iI (0))), (3, .int (iI (1))), (4, .int (iI (x)))]) hx hb dX0_valueAt_1 hl (by decide) rfl (fun ls hl => ?_)
  refine ix_lconst1 hx hb dX0_valueAt_3 ?_
  refine wx_l (congrArg lI (show (1 : Int) = x ^ 0 % q by rw [Int.pow_zero]; exact (Int.emod_eq_of_lt (by decide) (by omega)).symm)) ?_
  refine lv_lstore (lv' := [(7, .long (lI (x ^ (0) % q))), (5, .long (lI (sPol (fun u => M r (0 + u)) x (0) % q))), (0, .ref (ox ω)), (1, .ref (oR ω (r))), (2, .int (iI (0))), (3, .int (iI (1))), (4, .int (iI (x)))]) hx hb dX0_valueAt_4 hl (by decide) rfl (fun ls hl => ?_)
  refine lv_iload_n hx hb dX0_valueAt_6 rfl (lv_at hl 4 rfl) ?_
  refine wx_i (congrArg iI (show ((0 : Nat) : Int) = ((0 + (0) : Nat) : Int) by omega)) ?_
  refine lv_istore (lv' := [(9, .int (iI ((0 + (0) : Nat)))), (7, .long (lI (x ^ (0) % q))), (5, .long (lI (sPol (fun u => M r (0 + u)) x (0) % q))), (0, .ref (ox ω)), (1, .ref (oR ω (r))), (2, .int (iI (0))), (3, .int (iI (1))), (4, .int (iI (x)))]) hx hb dX0_valueAt_7 hl (by decide) rfl (fun ls hl => ?_)
  refine ix_loop (I := fun j ls => lv_has ls 10 [(9, .int (iI ((0 + (j) : Nat)))), (5, .long (lI (sPol (fun u => M r (0 + u)) x (j) % q))), (7, .long (lI (x ^ (j) % q))), (0, .ref (ox ω)), (1, .ref (oR ω (r))), (3, .int (iI (1))), (4, .int (iI (x)))]) (16) 0 (by omega) (lv_sub hl [0, 2, 1, 3, 4, 6, 7] rfl) (fun ls hl => ?_) (fun j ls hj hl ih9 => ?_)
  · skip
    have hl : lv_has ls 10 [(9, .int (iI ((0 + (16) : Nat)))), (5, .long (lI (sPol (fun u => M r (0 + u)) x (16) % q))), (7, .long (lI (x ^ (16) % q))), (0, .ref (ox ω)), (1, .ref (oR ω (r))), (3, .int (iI (1))), (4, .int (iI (x)))] := hl
    refine lv_iload hx hb dX0_valueAt_9 (lv_at hl 0 rfl) ?_
    refine ix_bipush hx hb (by decide) dX0_valueAt_11 ?_
    refine ix_icmp_ge (tgt := 58) hx hb (by omega) (by omega) (by omega) (by omega) dX0_valueAt_13 (by decide) (fun h13 => ?_) (fun h13 => absurd h13 (by omega))
    refine lv_lload hx hb dX0_valueAt_58 (lv_at hl 1 rfl) ?_
    refine ix_l2i hx hb dX0_valueAt_60 ?_
    exact W.iret hx hb hrt (fun t ht hW => ⟨_, rfl, rfl, ht⟩) t_nil dX0_valueAt_61
  · skip
    have hl : lv_has ls 10 [(9, .int (iI ((0 + (j) : Nat)))), (5, .long (lI (sPol (fun u => M r (0 + u)) x (j) % q))), (7, .long (lI (x ^ (j) % q))), (0, .ref (ox ω)), (1, .ref (oR ω (r))), (3, .int (iI (1))), (4, .int (iI (x)))] := hl
    refine lv_iload hx hb dX0_valueAt_9 (lv_at hl 0 rfl) ?_
    refine ix_bipush hx hb (by decide) dX0_valueAt_11 ?_
    refine ix_icmp_ge (tgt := 58) hx hb (by omega) (by omega) (by omega) (by omega) dX0_valueAt_13 (by decide) (fun h13 => absurd h13 (by omega)) (fun h13 => ?_)
    have hm := hM r (0 + (j)) hr (by omega)
    have hs1 := Int.emod_nonneg (sPol (fun u => M r (0 + u)) x j) (show q ≠ 0 by omega)
    have hs2 := Int.emod_lt_of_pos (sPol (fun u => M r (0 + u)) x j) (show 0 < q by omega)
    have hf1 := Int.emod_nonneg (x ^ j) (show q ≠ 0 by omega)
    have hf2 := Int.emod_lt_of_pos (x ^ j) (show 0 < q by omega)
    have hp1 : 0 ≤ M (r) (0 + (j)) * (x ^ j % q) := Int.mul_nonneg hm.1 hf1
    have hp2 : M (r) (0 + (j)) * (x ^ j % q) ≤ 8380417 * 8380417 := Int.mul_le_mul (by omega) (by omega) hf1 (by decide)
    have hp3 : 0 ≤ (x ^ j % q) * x := Int.mul_nonneg hf1 x1
    have hp4 : (x ^ j % q) * x ≤ 8380417 * 8380417 := Int.mul_le_mul (by omega) (by omega) x1 (by decide)
    refine lv_lload hx hb dX0_valueAt_16 (lv_at hl 1 rfl) ?_
    refine lv_aload_n hx hb dX0_valueAt_18 rfl (lv_at hl 4 rfl) ?_
    refine lv_iload hx hb dX0_valueAt_19 (lv_at hl 0 rfl) ?_
    refine gx_ild (r := r) (i := 0 + (j)) hx hb hG (by omega) (by omega) dX0_valueAt_21 ?_
    refine ix_i2l hx hb (by omega) (by omega) dX0_valueAt_22 ?_
    refine lv_lload hx hb dX0_valueAt_23 (lv_at hl 2 rfl) ?_
    refine ix_lmul hx hb dX0_valueAt_25 ?_
    refine ix_ladd hx hb dX0_valueAt_26 ?_
    refine lv_aload_n hx hb dX0_valueAt_27 rfl (lv_at hl 3 rfl) ?_
    refine gx_get hx hb hts hown hG 3 (by decide) rfl u58 dX0_valueAt_28 ?_
    refine ix_i2l hx hb (by omega) (by omega) dX0_valueAt_31 ?_
    refine ix_lrem hx hb (by omega) (by omega) (by omega) (by omega) dX0_valueAt_32 ?_
    refine wx_l (congrArg lI (pol_step (q := q) (x := x) (fun u => M r (0 + u)) j)) ?_
    refine lv_lstore (lv' := [(5, .long (lI (sPol (fun u => M r (0 + u)) x (j + 1) % q))), (9, .int (iI ((0 + (j) : Nat)))), (7, .long (lI (x ^ (j) % q))), (0, .ref (ox ω)), (1, .ref (oR ω (r))), (3, .int (iI (1))), (4, .int (iI (x)))]) hx hb dX0_valueAt_33 hl (by decide) rfl (fun ls hl => ?_)
    refine lv_lload hx hb dX0_valueAt_35 (lv_at hl 2 rfl) ?_
    refine lv_iload hx hb dX0_valueAt_37 (lv_at hl 6 rfl) ?_
    refine ix_i2l hx hb (by omega) (by omega) dX0_valueAt_39 ?_
    refine ix_lmul hx hb dX0_valueAt_40 ?_
    refine lv_aload_n hx hb dX0_valueAt_41 rfl (lv_at hl 3 rfl) ?_
    refine gx_get hx hb hts hown hG 3 (by decide) rfl u58 dX0_valueAt_42 ?_
    refine ix_i2l hx hb (by omega) (by omega) dX0_valueAt_45 ?_
    refine ix_lrem hx hb (by omega) (by omega) (by omega) (by omega) dX0_valueAt_46 ?_
    refine wx_l (congrArg lI (fac_step (q := q) (x := x) j)) ?_
    refine lv_lstore (lv' := [(7, .long (lI (x ^ (j + 1) % q))), (5, .long (lI (sPol (fun u => M r (0 + u)) x (j + 1) % q))), (9, .int (iI ((0 + (j) : Nat)))), (0, .ref (ox ω)), (1, .ref (oR ω (r))), (3, .int (iI (1))), (4, .int (iI (x)))]) hx hb dX0_valueAt_47 hl (by decide) rfl (fun ls hl => ?_)
    refine lv_iload hx hb dX0_valueAt_49 (lv_at hl 2 rfl) ?_
    refine lv_iload_n hx hb dX0_valueAt_51 rfl (lv_at hl 5 rfl) ?_
    refine ix_iadd hx hb dX0_valueAt_52 ?_
    refine wx_i (congrArg iI (show (((0 + (j) : Nat) : Int) + 1) = ((0 + (j + 1) : Nat) : Int) by omega)) ?_
    refine lv_istore (lv' := [(9, .int (iI ((0 + (j + 1) : Nat)))), (7, .long (lI (x ^ (j + 1) % q))), (5, .long (lI (sPol (fun u => M r (0 + u)) x (j + 1) % q))), (0, .ref (ox ω)), (1, .ref (oR ω (r))), (3, .int (iI (1))), (4, .int (iI (x)))]) hx hb dX0_valueAt_53 hl (by decide) rfl (fun ls hl => ?_)
    refine lv_goto (tgt := 9) hx hb dX0_valueAt_55 (by decide) ?_
    exact ih9 ls (lv_sub hl [0, 2, 1, 3, 4, 5, 6] rfl)
set_option maxHeartbeats 4000000 in
set_option maxRecDepth 100000 in
theorem c_valueAt2 (l : Launch) (ω : WX) (k q z : Int) (M : Nat → Nat → Int) (wk : Nat → Int) (r first : Nat) (x : Int) (hr : r < 12) (f2 : first < 2) (hq1 : 3329 ≤ q) (hq2 : q ≤ 8380417) (hM : ∀ r i, r < 12 → i < 16 → 0 ≤ M r i ∧ M r i < q) (x1 : 0 ≤ x) (x2 : x < q) : Met l yX0_valueAt wsX0_valueAt ({ frames := 0, cells := 0, slots := 0, locals := 0 }) (va_Pc [.ref (ox ω), .ref (oR ω (r)), .int (iI (first)), .int (iI (2)), .int (iI (x))] (fun U => GX ω k q z M wk U U.heap)) (vp_Si (fun r_ => r_ = iI (sPol (fun u => M r (first + 2 * u)) x 8 % q))) 0 0 (fun _ => False) := by
  refine Met.ofW (cc := cX0_valueAt) (maxL := 10) (ret := (some .int)) (by decide +kernel) rfl ?_
  intro p e s m args below meth c s₁ B hml hv
  obtain ⟨rfl, hG⟩ := hv
  have hx := B.exec
  have hb := B.bytes
  have hrt := B.returns
  have hts : ∀ w ∈ wsU, w.before _ s = true := fun w h => atoms_spec (ws := wsX0_valueAt) B.pre w (List.mem_cons_of_mem _ h)
  have hown : s.vm.findClass "NoiseRing" = some m.cls := findClass_of_methodNamed B.named
  have hlocks := B.notSynchronized
  have hl := lv_entry ([.ref (ox ω), .ref (oR ω (r)), .int (iI (first)), .int (iI (2)), .int (iI (x))]) (n := 10) (Nat.le_of_ble_eq_true rfl)
  rw [lg_entry_eq]
  generalize (lg_sl ([.ref (ox ω), .ref (oR ω (r)), .int (iI (first)), .int (iI (2)), .int (iI (x))]) ++ List.replicate (10 - (lg_sl ([.ref (ox ω), .ref (oR ω (r)), .int (iI (first)), .int (iI (2)), .int (iI (x))])).length) Slot.unset).toArray = ls at hl ⊢
  have hl : lv_has ls 10 [(0, .ref (ox ω)), (1, .ref (oR ω (r))), (2, .int (iI (first))), (3, .int (iI (2))), (4, .int (iI (x)))] := hl
  refine ix_lconst0 hx hb dX0_valueAt_0 ?_
  refine wx_l (congrArg lI (show (0 : Int) = sPol (fun u => M r (first + 2 * u)) x 0 % q from (Int.zero_emod q).symm)) ?_
  refine lv_lstore (lv' := [(5, .long (lI (sPol (fun u => M r (first + 2 * u)) x (0) % q))), (0, .ref (ox ω)), (1, .ref (oR ω (r))), (2, .int (iI (first))), (3, .int (iI (2))), (4, .int (iI (x)))]) hx hb dX0_valueAt_1 hl (by decide) rfl (fun ls hl => ?_)
  refine ix_lconst1 hx hb dX0_valueAt_3 ?_
  refine wx_l (congrArg lI (show (1 : Int) = x ^ 0 % q by rw [Int.pow_zero]; exact (Int.emod_eq_of_lt (by decide) (by omega)).symm)) ?_
  refine lv_lstore (lv' := [(7, .long (lI (x ^ (0) % q))), (5, .long (lI (sPol (fun u => M r (first + 2 * u)) x (0) % q))), (0, .ref (ox ω)), (1, .ref (oR ω (r))), (2, .int (iI (first))), (3, .int (iI (2))), (4, .int (iI (x)))]) hx hb dX0_valueAt_4 hl (by decide) rfl (fun ls hl => ?_)
  refine lv_iload_n hx hb dX0_valueAt_6 rfl (lv_at hl 4 rfl) ?_
  refine wx_i (congrArg iI (show ((first : Nat) : Int) = ((first + 2 * (0) : Nat) : Int) by omega)) ?_
  refine lv_istore (lv' := [(9, .int (iI ((first + 2 * (0) : Nat)))), (7, .long (lI (x ^ (0) % q))), (5, .long (lI (sPol (fun u => M r (first + 2 * u)) x (0) % q))), (0, .ref (ox ω)), (1, .ref (oR ω (r))), (2, .int (iI (first))), (3, .int (iI (2))), (4, .int (iI (x)))]) hx hb dX0_valueAt_7 hl (by decide) rfl (fun ls hl => ?_)
  refine ix_loop (I := fun j ls => lv_has ls 10 [(9, .int (iI ((first + 2 * (j) : Nat)))), (5, .long (lI (sPol (fun u => M r (first + 2 * u)) x (j) % q))), (7, .long (lI (x ^ (j) % q))), (0, .ref (ox ω)), (1, .ref (oR ω (r))), (3, .int (iI (2))), (4, .int (iI (x)))]) (8) 0 (by omega) (lv_sub hl [0, 2, 1, 3, 4, 6, 7] rfl) (fun ls hl => ?_) (fun j ls hj hl ih9 => ?_)
  · skip
    have hl : lv_has ls 10 [(9, .int (iI ((first + 2 * (8) : Nat)))), (5, .long (lI (sPol (fun u => M r (first + 2 * u)) x (8) % q))), (7, .long (lI (x ^ (8) % q))), (0, .ref (ox ω)), (1, .ref (oR ω (r))), (3, .int (iI (2))), (4, .int (iI (x)))] := hl
    refine lv_iload hx hb dX0_valueAt_9 (lv_at hl 0 rfl) ?_
    refine ix_bipush hx hb (by decide) dX0_valueAt_11 ?_
    refine ix_icmp_ge (tgt := 58) hx hb (by omega) (by omega) (by omega) (by omega) dX0_valueAt_13 (by decide) (fun h13 => ?_) (fun h13 => absurd h13 (by omega))
    refine lv_lload hx hb dX0_valueAt_58 (lv_at hl 1 rfl) ?_
    refine ix_l2i hx hb dX0_valueAt_60 ?_
    exact W.iret hx hb hrt (fun t ht hW => ⟨_, rfl, rfl, ht⟩) t_nil dX0_valueAt_61
  · skip
    have hl : lv_has ls 10 [(9, .int (iI ((first + 2 * (j) : Nat)))), (5, .long (lI (sPol (fun u => M r (first + 2 * u)) x (j) % q))), (7, .long (lI (x ^ (j) % q))), (0, .ref (ox ω)), (1, .ref (oR ω (r))), (3, .int (iI (2))), (4, .int (iI (x)))] := hl
    refine lv_iload hx hb dX0_valueAt_9 (lv_at hl 0 rfl) ?_
    refine ix_bipush hx hb (by decide) dX0_valueAt_11 ?_
    refine ix_icmp_ge (tgt := 58) hx hb (by omega) (by omega) (by omega) (by omega) dX0_valueAt_13 (by decide) (fun h13 => absurd h13 (by omega)) (fun h13 => ?_)
    have hm := hM r (first + 2 * (j)) hr (by omega)
    have hs1 := Int.emod_nonneg (sPol (fun u => M r (first + 2 * u)) x j) (show q ≠ 0 by omega)
    have hs2 := Int.emod_lt_of_pos (sPol (fun u => M r (first + 2 * u)) x j) (show 0 < q by omega)
    have hf1 := Int.emod_nonneg (x ^ j) (show q ≠ 0 by omega)
    have hf2 := Int.emod_lt_of_pos (x ^ j) (show 0 < q by omega)
    have hp1 : 0 ≤ M (r) (first + 2 * (j)) * (x ^ j % q) := Int.mul_nonneg hm.1 hf1
    have hp2 : M (r) (first + 2 * (j)) * (x ^ j % q) ≤ 8380417 * 8380417 := Int.mul_le_mul (by omega) (by omega) hf1 (by decide)
    have hp3 : 0 ≤ (x ^ j % q) * x := Int.mul_nonneg hf1 x1
    have hp4 : (x ^ j % q) * x ≤ 8380417 * 8380417 := Int.mul_le_mul (by omega) (by omega) x1 (by decide)
    refine lv_lload hx hb dX0_valueAt_16 (lv_at hl 1 rfl) ?_
    refine lv_aload_n hx hb dX0_valueAt_18 rfl (lv_at hl 4 rfl) ?_
    refine lv_iload hx hb dX0_valueAt_19 (lv_at hl 0 rfl) ?_
    refine gx_ild (r := r) (i := first + 2 * (j)) hx hb hG (by omega) (by omega) dX0_valueAt_21 ?_
    refine ix_i2l hx hb (by omega) (by omega) dX0_valueAt_22 ?_
    refine lv_lload hx hb dX0_valueAt_23 (lv_at hl 2 rfl) ?_
    refine ix_lmul hx hb dX0_valueAt_25 ?_
    refine ix_ladd hx hb dX0_valueAt_26 ?_
    refine lv_aload_n hx hb dX0_valueAt_27 rfl (lv_at hl 3 rfl) ?_
    refine gx_get hx hb hts hown hG 3 (by decide) rfl u58 dX0_valueAt_28 ?_
    refine ix_i2l hx hb (by omega) (by omega) dX0_valueAt_31 ?_
    refine ix_lrem hx hb (by omega) (by omega) (by omega) (by omega) dX0_valueAt_32 ?_
    refine wx_l (congrArg lI (pol_step (q := q) (x := x) (fun u => M r (first + 2 * u)) j)) ?_
    refine lv_lstore (lv' := [(5, .long (lI (sPol (fun u => M r (first + 2 * u)) x (j + 1) % q))), (9, .int (iI ((first + 2 * (j) : Nat)))), (7, .long (lI (x ^ (j) % q))), (0, .ref (ox ω)), (1, .ref (oR ω (r))), (3, .int (iI (2))), (4, .int (iI (x)))]) hx hb dX0_valueAt_33 hl (by decide) rfl (fun ls hl => ?_)
    refine lv_lload hx hb dX0_valueAt_35 (lv_at hl 2 rfl) ?_
    refine lv_iload hx hb dX0_valueAt_37 (lv_at hl 6 rfl) ?_
    refine ix_i2l hx hb (by omega) (by omega) dX0_valueAt_39 ?_
    refine ix_lmul hx hb dX0_valueAt_40 ?_
    refine lv_aload_n hx hb dX0_valueAt_41 rfl (lv_at hl 3 rfl) ?_
    refine gx_get hx hb hts hown hG 3 (by decide) rfl u58 dX0_valueAt_42 ?_
    refine ix_i2l hx hb (by omega) (by omega) dX0_valueAt_45 ?_
    refine ix_lrem hx hb (by omega) (by omega) (by omega) (by omega) dX0_valueAt_46 ?_
    refine wx_l (congrArg lI (fac_step (q := q) (x := x) j)) ?_
    refine lv_lstore (lv' := [(7, .long (lI (x ^ (j + 1) % q))), (5, .long (lI (sPol (fun u => M r (first + 2 * u)) x (j + 1) % q))), (9, .int (iI ((first + 2 * (j) : Nat)))), (0, .ref (ox ω)), (1, .ref (oR ω (r))), (3, .int (iI (2))), (4, .int (iI (x)))]) hx hb dX0_valueAt_47 hl (by decide) rfl (fun ls hl => ?_)
    refine lv_iload hx hb dX0_valueAt_49 (lv_at hl 2 rfl) ?_
    refine lv_iload_n hx hb dX0_valueAt_51 rfl (lv_at hl 5 rfl) ?_
    refine ix_iadd hx hb dX0_valueAt_52 ?_
    refine wx_i (congrArg iI (show (((first + 2 * (j) : Nat) : Int) + 2) = ((first + 2 * (j + 1) : Nat) : Int) by omega)) ?_
    refine lv_istore (lv' := [(9, .int (iI ((first + 2 * (j + 1) : Nat)))), (7, .long (lI (x ^ (j + 1) % q))), (5, .long (lI (sPol (fun u => M r (first + 2 * u)) x (j + 1) % q))), (0, .ref (ox ω)), (1, .ref (oR ω (r))), (3, .int (iI (2))), (4, .int (iI (x)))]) hx hb dX0_valueAt_53 hl (by decide) rfl (fun ls hl => ?_)
    refine lv_goto (tgt := 9) hx hb dX0_valueAt_55 (by decide) ?_
    exact ih9 ls (lv_sub hl [0, 2, 1, 3, 4, 5, 6] rfl)
end
section
/-! Contracts of the class's read-only helpers, by program (wip/gen/x0.py). -/
theorem sProd_in {q : Int} {a b : Nat → Int} {k : Nat} (hq : q ≤ 8380417) (ha : ∀ i, i < 16 → 0 ≤ a i ∧ a i < q) (hb : ∀ i, i < 16 → 0 ≤ b i ∧ b i < q) (hk : k < 16) (n : Nat) (hn : n ≤ 16) : -(n * 70231389093889) ≤ sProd a b k n ∧ sProd a b k n ≤ n * 70231389093889 := by
  induction n with
  | zero => exact ⟨Int.le_refl _, Int.le_refl _⟩
  | succ n ih =>
    have h1 := ih (by omega)
    have h2 := ha n (by omega)
    rw [sProd]
    split
    · have h3 := hb (k - n) (by omega)
      have h4 := Int.mul_nonneg h2.1 h3.1
      have h5 : a n * b (k - n) ≤ 8380417 * 8380417 := Int.mul_le_mul (by omega) (by omega) h3.1 (by decide)
      omega
    · have h3 := hb (16 + k - n) (by omega)
      have h4 := Int.mul_nonneg h2.1 h3.1
      have h5 : a n * b (16 + k - n) ≤ 8380417 * 8380417 := Int.mul_le_mul (by omega) (by omega) h3.1 (by decide)
      omega
set_option maxHeartbeats 4000000 in
set_option maxRecDepth 100000 in
theorem c_productAt (l : Launch) (ω : WX) (k q z : Int) (M : Nat → Nat → Int) (wk : Nat → Int) (ra rb pl : Nat) (ha : ra < 12) (hb0 : rb < 12) (p2 : pl < 16) (hq1 : 3329 ≤ q) (hq2 : q ≤ 8380417) (hM : ∀ r i, r < 12 → i < 16 → 0 ≤ M r i ∧ M r i < q) : Met l yX0_productAt wsX0_productAt ({ frames := 1, cells := 0, slots := 0, locals := 25 }) (va_Pc [.ref (ox ω), .ref (oR ω (ra)), .ref (oR ω (rb)), .int (iI (pl))] (fun U => GX ω k q z M wk U U.heap)) (vp_Si (fun r_ => r_ = iI (sProd (M ra) (M rb) pl 16 % q))) 0 0 (fun _ => False) := by
  refine Met.ofW (cc := cX0_productAt) (maxL := 7) (ret := (some .int)) (by decide +kernel) rfl ?_
  intro p e s m args below meth c s₁ B hml hv
  obtain ⟨rfl, hG⟩ := hv
  have hx := B.exec
  have hb := B.bytes
  have hrt := B.returns
  have hts : ∀ w ∈ wsU, w.before _ s = true := fun w h => atoms_spec (ws := wsX0_productAt) B.pre w (List.mem_cons_of_mem _ h)
  have hown : s.vm.findClass "NoiseRing" = some m.cls := findClass_of_methodNamed B.named
  have hlocks := B.notSynchronized
  have hl := lv_entry ([.ref (ox ω), .ref (oR ω (ra)), .ref (oR ω (rb)), .int (iI (pl))]) (n := 7) (Nat.le_of_ble_eq_true rfl)
  rw [lg_entry_eq]
  generalize (lg_sl ([.ref (ox ω), .ref (oR ω (ra)), .ref (oR ω (rb)), .int (iI (pl))]) ++ List.replicate (7 - (lg_sl ([.ref (ox ω), .ref (oR ω (ra)), .ref (oR ω (rb)), .int (iI (pl))])).length) Slot.unset).toArray = ls at hl ⊢
  have hl : lv_has ls 7 [(0, .ref (ox ω)), (1, .ref (oR ω (ra))), (2, .ref (oR ω (rb))), (3, .int (iI (pl)))] := hl
  refine ix_lconst0 hx hb dX0_productAt_0 ?_
  refine lv_lstore (lv' := [(4, .long (lI (sProd (M ra) (M rb) pl (0)))), (0, .ref (ox ω)), (1, .ref (oR ω (ra))), (2, .ref (oR ω (rb))), (3, .int (iI (pl)))]) hx hb dX0_productAt_1 hl (by decide) rfl (fun ls hl => ?_)
  refine ix_iconst hx hb dX0_productAt_3 ?_
  refine lv_istore (lv' := [(6, .int (iI (0))), (4, .long (lI (sProd (M ra) (M rb) pl (0)))), (0, .ref (ox ω)), (1, .ref (oR ω (ra))), (2, .ref (oR ω (rb))), (3, .int (iI (pl)))]) hx hb dX0_productAt_4 hl (by decide) rfl (fun ls hl => ?_)
  refine ix_loop (I := fun j ls => lv_has ls 7 [(6, .int (iI ((j : Nat)))), (4, .long (lI (sProd (M ra) (M rb) pl (j)))), (0, .ref (ox ω)), (1, .ref (oR ω (ra))), (2, .ref (oR ω (rb))), (3, .int (iI (pl)))]) (pl + 1) 0 (by omega) (lv_sub hl [0, 1, 2, 3, 4, 5] rfl) (fun ls hl => ?_) (fun j ls hj hl ih6 => ?_)
  · skip
    have hl : lv_has ls 7 [(6, .int (iI ((pl + 1 : Nat)))), (4, .long (lI (sProd (M ra) (M rb) pl (pl + 1)))), (0, .ref (ox ω)), (1, .ref (oR ω (ra))), (2, .ref (oR ω (rb))), (3, .int (iI (pl)))] := hl
    refine lv_iload hx hb dX0_productAt_6 (lv_at hl 0 rfl) ?_
    refine lv_iload_n hx hb dX0_productAt_8 rfl (lv_at hl 5 rfl) ?_
    refine ix_icmp_gt (tgt := 36) hx hb (by omega) (by omega) (by omega) (by omega) dX0_productAt_9 (by decide) (fun h9 => ?_) (fun h9 => absurd h9 (by omega))
    refine lv_iload_n hx hb dX0_productAt_36 rfl (lv_at hl 5 rfl) ?_
    refine ix_iconst hx hb dX0_productAt_37 ?_
    refine ix_iadd hx hb dX0_productAt_38 ?_
    refine lv_istore (lv' := [(6, .int (iI ((pl + 1 + (0) : Nat)))), (4, .long (lI (sProd (M ra) (M rb) pl (pl + 1)))), (0, .ref (ox ω)), (1, .ref (oR ω (ra))), (2, .ref (oR ω (rb))), (3, .int (iI (pl)))]) hx hb dX0_productAt_39 hl (by decide) rfl (fun ls hl => ?_)
    refine ix_loop (I := fun t ls => lv_has ls 7 [(6, .int (iI ((pl + 1 + (t) : Nat)))), (4, .long (lI (sProd (M ra) (M rb) pl (pl + 1 + (t))))), (0, .ref (ox ω)), (1, .ref (oR ω (ra))), (2, .ref (oR ω (rb))), (3, .int (iI (pl)))]) (15 - pl) 0 (by omega) (lv_sub hl [0, 1, 2, 3, 4, 5] rfl) (fun ls hl => ?_) (fun t ls ht hl ih41 => ?_)
    · skip
      have hl : lv_has ls 7 [(6, .int (iI ((pl + 1 + (15 - pl) : Nat)))), (4, .long (lI (sProd (M ra) (M rb) pl (pl + 1 + (15 - pl))))), (0, .ref (ox ω)), (1, .ref (oR ω (ra))), (2, .ref (oR ω (rb))), (3, .int (iI (pl)))] := hl
      refine lv_iload hx hb dX0_productAt_41 (lv_at hl 0 rfl) ?_
      refine ix_bipush hx hb (by decide) dX0_productAt_43 ?_
      refine ix_icmp_ge (tgt := 75) hx hb (by omega) (by omega) (by omega) (by omega) dX0_productAt_45 (by decide) (fun h45 => ?_) (fun h45 => absurd h45 (by omega))
      have hp := sProd_in (q := q) (a := M ra) (b := M rb) (k := pl) hq2 (fun i hi => hM ra i ha hi) (fun i hi => hM rb i hb0 hi) p2 (pl + 1 + (15 - pl)) (by omega)
      refine lv_lload hx hb dX0_productAt_75 (lv_at hl 1 rfl) ?_
      refine lv_aload_n hx hb dX0_productAt_77 rfl (lv_at hl 2 rfl) ?_
      refine gx_get hx hb hts hown hG 3 (by decide) rfl u58 dX0_productAt_78 ?_
      refine ix_i2l hx hb (by omega) (by omega) dX0_productAt_81 ?_
      refine vp_callSl (va_Run.run (va_runS (As := [.long (lI (sProd (M ra) (M rb) pl (pl + 1 + (15 - pl)))), .long (lI (q))]) (rest := []) ⟨hx, hb, hml, hown, hts⟩ (c_floorModL l (sProd (M ra) (M rb) pl (pl + 1 + (15 - pl))) (q) (by omega) (by omega) (by omega) (by omega)) (va_cwS 2 hts (gU (hd := [.methodLink "NoiseRing" 131 yJ_floorModL, .static yJ_floorModL, .initialized "java/lang/Math"]) (List.forall_mem_cons.mpr ⟨u198, List.forall_mem_cons.mpr ⟨u199, List.forall_mem_cons.mpr ⟨u36, fun _ h => by cases h⟩⟩⟩) u200) rfl rfl rfl (by decide +kernel) ⟨Nat.le_of_ble_eq_true rfl, Nat.le_of_ble_eq_true rfl⟩) gn_S rfl rfl hl.1 rfl (lv_room (Nat.le_of_ble_eq_true rfl)) dX0_productAt_82 ⟨Nat.le_of_ble_eq_true rfl, Nat.le_of_ble_eq_true rfl⟩)) (fun r82 hr82 => ?_)
      subst hr82
      refine ix_l2i hx hb dX0_productAt_85 ?_
      exact W.iret hx hb hrt (fun t ht hW => ⟨_, rfl, congrArg iI (by rw [show pl + 1 + (15 - pl) = 16 by omega]), ht⟩) t_nil dX0_productAt_86
    · skip
      have hl : lv_has ls 7 [(6, .int (iI ((pl + 1 + (t) : Nat)))), (4, .long (lI (sProd (M ra) (M rb) pl (pl + 1 + (t))))), (0, .ref (ox ω)), (1, .ref (oR ω (ra))), (2, .ref (oR ω (rb))), (3, .int (iI (pl)))] := hl
      refine lv_iload hx hb dX0_productAt_41 (lv_at hl 0 rfl) ?_
      refine ix_bipush hx hb (by decide) dX0_productAt_43 ?_
      refine ix_icmp_ge (tgt := 75) hx hb (by omega) (by omega) (by omega) (by omega) dX0_productAt_45 (by decide) (fun h45 => absurd h45 (by omega)) (fun h45 => ?_)
      have hm1 := hM ra (pl + 1 + t) ha (by omega)
      have hm2 := hM rb (16 + pl - (pl + 1 + t)) hb0 (by omega)
      refine lv_lload hx hb dX0_productAt_48 (lv_at hl 1 rfl) ?_
      refine lv_aload_n hx hb dX0_productAt_50 rfl (lv_at hl 3 rfl) ?_
      refine lv_iload hx hb dX0_productAt_51 (lv_at hl 0 rfl) ?_
      refine gx_ild (r := ra) (i := pl + 1 + t) hx hb hG (by omega) (by omega) dX0_productAt_53 ?_
      refine ix_i2l hx hb (by omega) (by omega) dX0_productAt_54 ?_
      refine lv_aload_n hx hb dX0_productAt_55 rfl (lv_at hl 4 rfl) ?_
      refine ix_bipush hx hb (by decide) dX0_productAt_56 ?_
      refine lv_iload_n hx hb dX0_productAt_58 rfl (lv_at hl 5 rfl) ?_
      refine ix_iadd hx hb dX0_productAt_59 ?_
      refine lv_iload hx hb dX0_productAt_60 (lv_at hl 0 rfl) ?_
      refine ix_isub hx hb dX0_productAt_62 ?_
      refine wx_i (congrArg iI (show (16 + ((pl : Nat) : Int)) - ((pl + 1 + (t) : Nat) : Int) = ((16 + pl - (pl + 1 + t) : Nat) : Int) by omega)) ?_
      refine gx_ild (r := rb) (i := 16 + pl - (pl + 1 + t)) hx hb hG (by omega) (by omega) dX0_productAt_63 ?_
      refine ix_i2l hx hb (by omega) (by omega) dX0_productAt_64 ?_
      refine ix_lmul hx hb dX0_productAt_65 ?_
      refine ix_lsub hx hb dX0_productAt_66 ?_
      refine wx_l (congrArg lI (show sProd (M ra) (M rb) pl (pl + 1 + (t)) - M (ra) (pl + 1 + t) * M (rb) (16 + pl - (pl + 1 + t)) = sProd (M ra) (M rb) pl (pl + 1 + (t + 1)) by rw [show pl + 1 + (t + 1) = (pl + 1 + t) + 1 by omega, sProd, if_neg (show ¬ pl + 1 + t ≤ pl by omega), Int.sub_eq_add_neg])) ?_
      refine lv_lstore (lv' := [(4, .long (lI (sProd (M ra) (M rb) pl (pl + 1 + (t + 1))))), (6, .int (iI ((pl + 1 + (t) : Nat)))), (0, .ref (ox ω)), (1, .ref (oR ω (ra))), (2, .ref (oR ω (rb))), (3, .int (iI (pl)))]) hx hb dX0_productAt_67 hl (by decide) rfl (fun ls hl => ?_)
      refine lv_iinc (k := 1) (v := iI ((pl + 1 + (t + 1) : Nat))) (lv' := [(6, .int (iI ((pl + 1 + (t + 1) : Nat)))), (4, .long (lI (sProd (M ra) (M rb) pl (pl + 1 + (t + 1))))), (0, .ref (ox ω)), (1, .ref (oR ω (ra))), (2, .ref (oR ω (rb))), (3, .int (iI (pl)))]) hx hb dX0_productAt_69 hl rfl (iI_add _ _) (by decide) rfl (fun ls hl => ?_)
      refine lv_goto (tgt := 41) hx hb dX0_productAt_72 (by decide) ?_
      exact ih41 ls (lv_sub hl [0, 1, 2, 3, 4, 5] rfl)
  · skip
    have hl : lv_has ls 7 [(6, .int (iI ((j : Nat)))), (4, .long (lI (sProd (M ra) (M rb) pl (j)))), (0, .ref (ox ω)), (1, .ref (oR ω (ra))), (2, .ref (oR ω (rb))), (3, .int (iI (pl)))] := hl
    refine lv_iload hx hb dX0_productAt_6 (lv_at hl 0 rfl) ?_
    refine lv_iload_n hx hb dX0_productAt_8 rfl (lv_at hl 5 rfl) ?_
    refine ix_icmp_gt (tgt := 36) hx hb (by omega) (by omega) (by omega) (by omega) dX0_productAt_9 (by decide) (fun h9 => absurd h9 (by omega)) (fun h9 => ?_)
    have hm1 := hM ra j ha (by omega)
    have hm2 := hM rb (pl - j) hb0 (by omega)
    refine lv_lload hx hb dX0_productAt_12 (lv_at hl 1 rfl) ?_
    refine lv_aload_n hx hb dX0_productAt_14 rfl (lv_at hl 3 rfl) ?_
    refine lv_iload hx hb dX0_productAt_15 (lv_at hl 0 rfl) ?_
    refine gx_ild (r := ra) (i := j) hx hb hG (by omega) (by omega) dX0_productAt_17 ?_
    refine ix_i2l hx hb (by omega) (by omega) dX0_productAt_18 ?_
    refine lv_aload_n hx hb dX0_productAt_19 rfl (lv_at hl 4 rfl) ?_
    refine lv_iload_n hx hb dX0_productAt_20 rfl (lv_at hl 5 rfl) ?_
    refine lv_iload hx hb dX0_productAt_21 (lv_at hl 0 rfl) ?_
    refine ix_isub hx hb dX0_productAt_23 ?_
    refine wx_i (congrArg iI (show ((pl : Nat) : Int) - ((j : Nat) : Int) = ((pl - j : Nat) : Int) by omega)) ?_
    refine gx_ild (r := rb) (i := pl - j) hx hb hG (by omega) (by omega) dX0_productAt_24 ?_
    refine ix_i2l hx hb (by omega) (by omega) dX0_productAt_25 ?_
    refine ix_lmul hx hb dX0_productAt_26 ?_
    refine ix_ladd hx hb dX0_productAt_27 ?_
    refine wx_l (congrArg lI (show sProd (M ra) (M rb) pl (j) + M (ra) (j) * M (rb) (pl - j) = sProd (M ra) (M rb) pl (j + 1) by rw [sProd, if_pos (show j ≤ pl by omega)])) ?_
    refine lv_lstore (lv' := [(4, .long (lI (sProd (M ra) (M rb) pl (j + 1)))), (6, .int (iI ((j : Nat)))), (0, .ref (ox ω)), (1, .ref (oR ω (ra))), (2, .ref (oR ω (rb))), (3, .int (iI (pl)))]) hx hb dX0_productAt_28 hl (by decide) rfl (fun ls hl => ?_)
    refine lv_iinc (k := 1) (v := iI ((j : Nat) + 1)) (lv' := [(6, .int (iI ((j : Nat) + 1))), (4, .long (lI (sProd (M ra) (M rb) pl (j + 1)))), (0, .ref (ox ω)), (1, .ref (oR ω (ra))), (2, .ref (oR ω (rb))), (3, .int (iI (pl)))]) hx hb dX0_productAt_30 hl rfl (iI_add _ _) (by decide) rfl (fun ls hl => ?_)
    refine lv_goto (tgt := 6) hx hb dX0_productAt_33 (by decide) ?_
    exact ih6 ls (lv_sub hl [0, 1, 2, 3, 4, 5] rfl)
set_option maxHeartbeats 4000000 in
set_option maxRecDepth 100000 in
theorem c_joined (l : Launch) (ω : WX) (k q z : Int) (M : Nat → Nat → Int) (wk : Nat → Int) (op : Int) (ra rb i : Nat) (op1 : 0 ≤ op) (op2 : op ≤ 2) (ha : ra < 12) (hb0 : rb < 12) (hi : i < 16) (hq1 : 3329 ≤ q) (hq2 : q ≤ 8380417) (hM : ∀ r i, r < 12 → i < 16 → 0 ≤ M r i ∧ M r i < q) : Met l yX0_joined wsX0_joined ({ frames := 2, cells := 0, slots := 0, locals := 51 }) (va_Pc [.ref (ox ω), .int (iI (op)), .ref (oR ω (ra)), .ref (oR ω (rb)), .int (iI (i))] (fun U => GX ω k q z M wk U U.heap)) (vp_Si (fun r_ => r_ = iI (sJoin q op (M ra) (M rb) i))) 0 0 (fun _ => False) := by
  refine Met.ofW (cc := cX0_joined) (maxL := 5) (ret := (some .int)) (by decide +kernel) rfl ?_
  intro p e s m args below meth c s₁ B hml hv
  obtain ⟨rfl, hG⟩ := hv
  have hx := B.exec
  have hb := B.bytes
  have hrt := B.returns
  have hts : ∀ w ∈ wsU, w.before _ s = true := fun w h => atoms_spec (ws := wsX0_joined) B.pre w (List.mem_cons_of_mem _ h)
  have hown : s.vm.findClass "NoiseRing" = some m.cls := findClass_of_methodNamed B.named
  have hlocks := B.notSynchronized
  have hl := lv_entry ([.ref (ox ω), .int (iI (op)), .ref (oR ω (ra)), .ref (oR ω (rb)), .int (iI (i))]) (n := 5) (Nat.le_of_ble_eq_true rfl)
  rw [lg_entry_eq]
  generalize (lg_sl ([.ref (ox ω), .int (iI (op)), .ref (oR ω (ra)), .ref (oR ω (rb)), .int (iI (i))]) ++ List.replicate (5 - (lg_sl ([.ref (ox ω), .int (iI (op)), .ref (oR ω (ra)), .ref (oR ω (rb)), .int (iI (i))])).length) Slot.unset).toArray = ls at hl ⊢
  have hl : lv_has ls 5 [(0, .ref (ox ω)), (1, .int (iI (op))), (2, .ref (oR ω (ra))), (3, .ref (oR ω (rb))), (4, .int (iI (i)))] := hl
  have hm1 := hM ra i ha hi
  have hm2 := hM rb i hb0 hi
  refine lv_iload_n hx hb dX0_joined_0 rfl (lv_at hl 1 rfl) ?_
  rcases (show op = 0 ∨ op = 1 ∨ op = 2 by omega) with rfl | rfl | rfl
  · skip
    refine lv_lookup (tgt := 28) hx hb dX0_joined_1 (by decide) (by rfl) (by decide) ?_
    refine lv_aload_n hx hb dX0_joined_28 rfl (lv_at hl 2 rfl) ?_
    refine lv_iload hx hb dX0_joined_29 (lv_at hl 4 rfl) ?_
    refine gx_ild (r := ra) (i := i) hx hb hG (by omega) (by omega) dX0_joined_31 ?_
    refine lv_aload_n hx hb dX0_joined_32 rfl (lv_at hl 3 rfl) ?_
    refine lv_iload hx hb dX0_joined_33 (lv_at hl 4 rfl) ?_
    refine gx_ild (r := rb) (i := i) hx hb hG (by omega) (by omega) dX0_joined_35 ?_
    refine ix_iadd hx hb dX0_joined_36 ?_
    refine lv_aload_n hx hb dX0_joined_37 rfl (lv_at hl 0 rfl) ?_
    refine gx_get hx hb hts hown hG 3 (by decide) rfl u58 dX0_joined_38 ?_
    refine ix_irem hx hb (by omega) (by omega) (by omega) (by omega) dX0_joined_41 ?_
    exact W.iret hx hb hrt (fun t ht hW => ⟨_, rfl, rfl, ht⟩) t_nil dX0_joined_42
  · skip
    refine lv_lookup (tgt := 43) hx hb dX0_joined_1 (by decide) (by rfl) (by decide) ?_
    refine lv_aload_n hx hb dX0_joined_43 rfl (lv_at hl 2 rfl) ?_
    refine lv_iload hx hb dX0_joined_44 (lv_at hl 4 rfl) ?_
    refine gx_ild (r := ra) (i := i) hx hb hG (by omega) (by omega) dX0_joined_46 ?_
    refine lv_aload_n hx hb dX0_joined_47 rfl (lv_at hl 3 rfl) ?_
    refine lv_iload hx hb dX0_joined_48 (lv_at hl 4 rfl) ?_
    refine gx_ild (r := rb) (i := i) hx hb hG (by omega) (by omega) dX0_joined_50 ?_
    refine ix_isub hx hb dX0_joined_51 ?_
    refine lv_aload_n hx hb dX0_joined_52 rfl (lv_at hl 0 rfl) ?_
    refine gx_get hx hb hts hown hG 3 (by decide) rfl u58 dX0_joined_53 ?_
    refine vp_callSi (va_Run.run (va_runS (As := [.int (iI ((M (ra) (i) - M (rb) (i)))), .int (iI (q))]) (rest := []) ⟨hx, hb, hml, hown, hts⟩ (c_floorModI l ((M (ra) (i) - M (rb) (i))) (q) (by omega) (by omega) (by omega) (by omega)) (va_cwS 2 hts (gU (hd := [.methodLink "NoiseRing" 39 yJ_floorModI, .static yJ_floorModI, .initialized "java/lang/Math"]) (List.forall_mem_cons.mpr ⟨u175, List.forall_mem_cons.mpr ⟨u176, List.forall_mem_cons.mpr ⟨u36, fun _ h => by cases h⟩⟩⟩) u177) rfl rfl rfl (by decide +kernel) ⟨Nat.le_of_ble_eq_true rfl, Nat.le_of_ble_eq_true rfl⟩) gn_S rfl rfl hl.1 rfl (lv_room (Nat.le_of_ble_eq_true rfl)) dX0_joined_56 ⟨Nat.le_of_ble_eq_true rfl, Nat.le_of_ble_eq_true rfl⟩)) (fun r56 hr56 => ?_)
    subst hr56
    exact W.iret hx hb hrt (fun t ht hW => ⟨_, rfl, rfl, ht⟩) t_nil dX0_joined_59
  · skip
    refine lv_lookup (tgt := 60) hx hb dX0_joined_1 (by decide) (by rfl) (by decide) ?_
    refine lv_aload_n hx hb dX0_joined_60 rfl (lv_at hl 0 rfl) ?_
    refine lv_aload_n hx hb dX0_joined_61 rfl (lv_at hl 2 rfl) ?_
    refine lv_aload_n hx hb dX0_joined_62 rfl (lv_at hl 3 rfl) ?_
    refine lv_iload hx hb dX0_joined_63 (lv_at hl 4 rfl) ?_
    refine vp_callSi (va_Run.run (va_runV (As := [.ref (oR ω (ra)), .ref (oR ω (rb)), .int (iI (i))]) (rest := []) ⟨hx, hb, hml, hown, hts⟩ (c_productAt l ω k q z M wk (ra) (rb) (i) (by omega) (by omega) (by omega) hq1 hq2 hM) (cwV 3 hts (gU (hd := [.methodLink "NoiseRing" 127 yX0_productAt, .instanceMethod yX0_productAt, .selects "NoiseRing" yX0_productAt yX0_productAt, .initialized "NoiseRing"]) (List.forall_mem_cons.mpr ⟨u195, List.forall_mem_cons.mpr ⟨u196, List.forall_mem_cons.mpr ⟨u5, List.forall_mem_cons.mpr ⟨u29, fun _ h => by cases h⟩⟩⟩⟩) u197) rfl rfl rfl (by decide +kernel) ⟨Nat.le_of_ble_eq_true rfl, Nat.le_of_ble_eq_true rfl⟩) (gx_V hG) rfl rfl hl.1 rfl (lv_room (Nat.le_of_ble_eq_true rfl)) dX0_joined_65 ⟨Nat.le_of_ble_eq_true rfl, Nat.le_of_ble_eq_true rfl⟩)) (fun r65 hr65 => ?_)
    subst hr65
    exact W.iret hx hb hrt (fun t ht hW => ⟨_, rfl, rfl, ht⟩) t_nil dX0_joined_68
set_option maxHeartbeats 4000000 in
set_option maxRecDepth 100000 in
theorem c_emptyRegisters (l : Launch) (ω : WX) (k q z : Int) (M : Nat → Nat → Int) (wk : Nat → Int)  (hq1 : 3329 ≤ q) (hq2 : q ≤ 8380417) (hM : ∀ r i, r < 12 → i < 16 → 0 ≤ M r i ∧ M r i < q) : Met l yX0_emptyRegisters wsX0_emptyRegisters ({ frames := 1, cells := 0, slots := 0, locals := 22 }) (va_Pc [.ref (ox ω)] (fun U => GX ω k q z M wk U U.heap)) (vp_Si (fun r_ => r_ = iI (sEmp M 12))) 0 0 (fun _ => False) := by
  refine Met.ofW (cc := cX0_emptyRegisters) (maxL := 3) (ret := (some .int)) (by decide +kernel) rfl ?_
  intro p e s m args below meth c s₁ B hml hv
  obtain ⟨rfl, hG⟩ := hv
  have hx := B.exec
  have hb := B.bytes
  have hrt := B.returns
  have hts : ∀ w ∈ wsU, w.before _ s = true := fun w h => atoms_spec (ws := wsX0_emptyRegisters) B.pre w (List.mem_cons_of_mem _ h)
  have hown : s.vm.findClass "NoiseRing" = some m.cls := findClass_of_methodNamed B.named
  have hlocks := B.notSynchronized
  have hl := lv_entry ([.ref (ox ω)]) (n := 3) (Nat.le_of_ble_eq_true rfl)
  rw [lg_entry_eq]
  generalize (lg_sl ([.ref (ox ω)]) ++ List.replicate (3 - (lg_sl ([.ref (ox ω)])).length) Slot.unset).toArray = ls at hl ⊢
  have hl : lv_has ls 3 [(0, .ref (ox ω))] := hl
  refine ix_iconst hx hb dX0_emptyRegisters_0 ?_
  refine lv_istore_n (lv' := [(1, .int (iI (0))), (0, .ref (ox ω))]) hx hb dX0_emptyRegisters_1 rfl hl (by decide) rfl (fun ls hl => ?_)
  refine ix_iconst hx hb dX0_emptyRegisters_2 ?_
  refine lv_istore_n (lv' := [(2, .int (iI (0))), (1, .int (iI (0))), (0, .ref (ox ω))]) hx hb dX0_emptyRegisters_3 rfl hl (by decide) rfl (fun ls hl => ?_)
  refine ix_loop (I := fun j ls => lv_has ls 3 [(2, .int (iI ((j : Nat)))), (1, .int (iI (sEmp M (j)))), (0, .ref (ox ω))]) (12) 0 (by omega) (lv_sub hl [0, 1, 2] rfl) (fun ls hl => ?_) (fun j ls hj hl ih4 => ?_)
  · skip
    have hl : lv_has ls 3 [(2, .int (iI ((12 : Nat)))), (1, .int (iI (sEmp M (12)))), (0, .ref (ox ω))] := hl
    refine lv_iload_n hx hb dX0_emptyRegisters_4 rfl (lv_at hl 0 rfl) ?_
    refine ix_bipush hx hb (by decide) dX0_emptyRegisters_5 ?_
    refine ix_icmp_ge (tgt := 31) hx hb (by omega) (by omega) (by omega) (by omega) dX0_emptyRegisters_7 (by decide) (fun h7 => ?_) (fun h7 => absurd h7 (by omega))
    refine lv_iload_n hx hb dX0_emptyRegisters_31 rfl (lv_at hl 1 rfl) ?_
    exact W.iret hx hb hrt (fun t ht hW => ⟨_, rfl, rfl, ht⟩) t_nil dX0_emptyRegisters_32
  · skip
    have hl : lv_has ls 3 [(2, .int (iI ((j : Nat)))), (1, .int (iI (sEmp M (j)))), (0, .ref (ox ω))] := hl
    refine lv_iload_n hx hb dX0_emptyRegisters_4 rfl (lv_at hl 0 rfl) ?_
    refine ix_bipush hx hb (by decide) dX0_emptyRegisters_5 ?_
    refine ix_icmp_ge (tgt := 31) hx hb (by omega) (by omega) (by omega) (by omega) dX0_emptyRegisters_7 (by decide) (fun h7 => absurd h7 (by omega)) (fun h7 => ?_)
    have hc := sCnt_in (M j) 16
    refine lv_aload_n hx hb dX0_emptyRegisters_10 rfl (lv_at hl 2 rfl) ?_
    refine gx_get hx hb hts hown hG 0 (by decide) rfl u55 dX0_emptyRegisters_11 ?_
    refine lv_iload_n hx hb dX0_emptyRegisters_14 rfl (lv_at hl 0 rfl) ?_
    refine gx_row (r := j) hx hb hG (by omega) dX0_emptyRegisters_15 ?_
    refine vp_callSi (va_Run.run (va_runS (As := [.ref (oR ω (j))]) (rest := []) ⟨hx, hb, hml, hown, hts⟩ (c_notZero l ω k q z M wk (j) (by omega) hq1 hq2 hM) (va_cwS 1 hts (gU (hd := [.methodLink "NoiseRing" 69 yX0_notZero, .static yX0_notZero, .initialized "NoiseRing"]) (List.forall_mem_cons.mpr ⟨u79, List.forall_mem_cons.mpr ⟨u80, List.forall_mem_cons.mpr ⟨u29, fun _ h => by cases h⟩⟩⟩) u81) rfl rfl rfl (by decide +kernel) ⟨Nat.le_of_ble_eq_true rfl, Nat.le_of_ble_eq_true rfl⟩) (gx_S hG) rfl rfl hl.1 rfl (lv_room (Nat.le_of_ble_eq_true rfl)) dX0_emptyRegisters_16 ⟨Nat.le_of_ble_eq_true rfl, Nat.le_of_ble_eq_true rfl⟩)) (fun r16 hr16 => ?_)
    subst hr16
    refine ix_if_ne (tgt := 25) hx hb (by omega) (by omega) dX0_emptyRegisters_19 (by decide) (fun h19 => ?_) (fun h19 => ?_)
    · have hs : sEmp M (j + 1) = sEmp M j := by rw [sEmp, if_neg h19]; omega
      rw [← hs] at hl
      refine lv_iinc (k := 0) (v := iI ((j : Nat) + 1)) (lv' := [(2, .int (iI ((j : Nat) + 1))), (1, .int (iI (sEmp M (j + 1)))), (0, .ref (ox ω))]) hx hb dX0_emptyRegisters_25 hl rfl (iI_add _ _) (by decide) rfl (fun ls hl => ?_)
      refine lv_goto (tgt := 4) hx hb dX0_emptyRegisters_28 (by decide) ?_
      exact ih4 ls (lv_sub hl [0, 1, 2] rfl)
    · have hs : sEmp M (j + 1) = sEmp M j + 1 := by rw [sEmp, if_pos h19]
      refine lv_iinc (k := 1) (v := iI (sEmp M (j + 1))) (lv' := [(1, .int (iI (sEmp M (j + 1)))), (2, .int (iI ((j : Nat)))), (0, .ref (ox ω))]) hx hb dX0_emptyRegisters_22 hl rfl ((iI_add _ _).trans (congrArg iI hs.symm)) (by decide) rfl (fun ls hl => ?_)
      refine lv_iinc (k := 1) (v := iI ((j : Nat) + 1)) (lv' := [(2, .int (iI ((j : Nat) + 1))), (1, .int (iI (sEmp M (j + 1)))), (0, .ref (ox ω))]) hx hb dX0_emptyRegisters_25 hl rfl (iI_add _ _) (by decide) rfl (fun ls hl => ?_)
      refine lv_goto (tgt := 4) hx hb dX0_emptyRegisters_28 (by decide) ?_
      exact ih4 ls (lv_sub hl [0, 1, 2] rfl)
end
section
/-! Writing a field: what else lies in the heap stays. The model's world. -/
section OBP
variable {p : Program} {l : Launch} {e : Env} {R : Room} {s : State} {m : MethodId} {args : Array Value} {below : List Frame} {meth : Method} {c : Code} {H : Heap} {locs : List Loc} {cells slots : Nat} {Q : State → Prop}
variable {cc : ByteArray} {pc : Nat} {ls : Array Slot} {rest : List Value} {D : va_G} {cl : List vw_C} {a : Nat} {tys : List (ClassId × FieldType)}
theorem ob_one {e0 : Nat × va_E} (h : va_at D cl e0 H) : va_P D cl [e0] H := fun k q hk => by
  cases k with
  | zero => cases hk; exact h
  | succ k => cases hk
theorem ob_put (hexec : p.tables.exec = Jvm.exec) (hb : c.code = cc) {own C : String} {T : u_T} {N ci index : Nat} (hts : ∀ w ∈ wsU, w.before args s = true) (hin : ∀ w ∈ u_ws C T N, w ∈ wsU) (ty0 : Nat → FieldType) (hty : ∀ k, k < N → parseFieldDescriptor (T k).2.2.1 = some (ty0 k)) (hnm : ∀ a, a < N → ∀ b, b < N → a ≠ b → (T a).2.1 ≠ (T b).2.1) (hown : s.vm.findClass own = some m.cls) (hK : va_K D cl tys s) {fs : List Value} (hP : va_P D cl [(a, .inr (ci, fs))] H) (hc : cl[ci]? = some (C, T, N)) (k : Nat) (hk : k < N)
    (hlink : Cond.fieldLink own index (T k).1 (T k).2.1 (T k).2.2.1 ∈ wsU) (hfin : (T k).2.2.2 = false) {ty : FieldType} {v : Value} (hd : parseFieldDescriptor (T k).2.2.1 = some ty) (hn : narrow ty v = v) (hfit : fits ty v = true) (hl : k < fs.length) (hdg : decode cc pc = .ok (.putfield index, 3))
    (kk : ∀ (H1 : Heap) (sl : Nat), va_P D cl [(a, .inr (ci, fs.set k v))] H1 → H1.size = H.size → (∀ q, q ≠ a → H1[q]? = H[q]?) → W p l e R s m args below meth c H1 (locs ++ [⟨a, sl⟩]) cells slots Q (F0 m (pc + 3) ls rest)) : W p l e R s m args below meth c H locs cells slots Q (F0 m pc ls (v :: .ref a :: rest)) := by
  have hap := va_apart (own := own) hts hin ty0 hty hnm hK hc
  obtain ⟨r, h1, cell, q1, q2, q3, q4⟩ := hP 0 _ rfl
  have hr : r = (C, T, N) := Option.some.inj (h1.symm.trans hc)
  subst hr
  obtain ⟨hS, hfc, kC, hkC, hkind⟩ := hK.1 ci _ hc
  obtain ⟨cf, kf, fi, f, hi, hsl⟩ := hS k hk
  have hlay := hts _ (hin _ (u_in_lay hk))
  unfold u_lay at hlay
  rw [if_neg (by rw [hfin]; decide)] at hlay
  have hst := (u_facts hfc hkC (u_lays hts hin hk) hi).1
  have h6 := u_store hfc hkC hkind hlay hi hd hn hfit
  refine W.putK hexec hb (f := f) ⟨hown, hts _ hlink, ⟨_, _, _, hi⟩, hst⟩ (by rw [q2]; exact h6) q1 q3 (by rw [hsl]; exact k2_hasslot (q4 k hk)) rfl rfl hdg fun H' e1 e2 e3 => ?_
  rw [hsl] at e1 ⊢
  exact kk H' _ (ob_one ⟨_, hc, t_OB.to (V := updV (vp_V fs) k v) ⟨_, e1, q2, q3, t_set q4 hap hk v⟩ (fun j _ => vp_updV_set hl v j)⟩) e2 e3
theorem ob_putF (hexec : p.tables.exec = Jvm.exec) (hb : c.code = cc) {own C : String} {T : u_T} {N ci index : Nat} (hts : ∀ w ∈ wsU, w.before args s = true) (hin : ∀ w ∈ u_ws C T N, w ∈ wsU) (ty0 : Nat → FieldType) (hty : ∀ k, k < N → parseFieldDescriptor (T k).2.2.1 = some (ty0 k)) (hnm : ∀ a, a < N → ∀ b, b < N → a ≠ b → (T a).2.1 ≠ (T b).2.1) (hown : s.vm.findClass own = some m.cls) (hK : va_K D cl tys s) {fs : List Value} (hP : va_P D cl [(a, .inr (ci, fs))] H) (hc : cl[ci]? = some (C, T, N)) (k : Nat) (hk : k < N)
    (hlink : Cond.fieldLink own index (T k).1 (T k).2.1 (T k).2.2.1 ∈ wsU) (hfin : (T k).2.2.2 = true) (hin2 : meth.name = "<init>") (hdecl : (T k).1 = own) {ty : FieldType} {v : Value} (hd : parseFieldDescriptor (T k).2.2.1 = some ty) (hn : narrow ty v = v) (hfit : fits ty v = true) (hl : k < fs.length) (hdg : decode cc pc = .ok (.putfield index, 3))
    (kk : ∀ (H1 : Heap) (sl : Nat), va_P D cl [(a, .inr (ci, fs.set k v))] H1 → H1.size = H.size → (∀ q, q ≠ a → H1[q]? = H[q]?) → W p l e R s m args below meth c H1 (locs ++ [⟨a, sl⟩]) cells slots Q (F0 m (pc + 3) ls rest)) : W p l e R s m args below meth c H locs cells slots Q (F0 m pc ls (v :: .ref a :: rest)) := by
  have hap := va_apart (own := own) hts hin ty0 hty hnm hK hc
  obtain ⟨r, h1, cell, q1, q2, q3, q4⟩ := hP 0 _ rfl
  have hr : r = (C, T, N) := Option.some.inj (h1.symm.trans hc)
  subst hr
  obtain ⟨hS, hfc, kC, hkC, hkind⟩ := hK.1 ci _ hc
  obtain ⟨cf, kf, fi, f, hi, hsl⟩ := hS k hk
  have hlay := hts _ (hin _ (u_in_lay hk))
  unfold u_lay at hlay
  rw [if_pos hfin] at hlay
  have hst := (u_facts hfc hkC (u_lays hts hin hk) hi).1
  have hcf : m.cls = cf := by
    obtain ⟨_, _, c', _, _, _, -, -, hf', -, -, -, hown2, -⟩ := Cond.laysFinal_spec hlay
    have e1 : c' = cf := by have := hi.symm.trans hf'; simp at this; exact this.1.symm
    rw [hdecl] at hown2
    rw [← e1]; exact Option.some.inj (hown.symm.trans hown2)
  have h6 := u_fits hfc hkC hkind (Or.inr hlay) hi hd hn hfit
  refine W.putFinK hexec hb hown (hts _ hlink) hi hst hcf hin2 (by rw [q2]; exact h6) q1 q3 (by rw [hsl]; exact k2_hasslot (q4 k hk)) rfl rfl hdg fun H' e1 e2 e3 => ?_
  rw [hsl] at e1 ⊢
  exact kk H' _ (ob_one ⟨_, hc, t_OB.to (V := updV (vp_V fs) k v) ⟨_, e1, q2, q3, t_set q4 hap hk v⟩ (fun j _ => vp_updV_set hl v j)⟩) e2 e3
end OBP
section GXP
variable {p : Program} {l : Launch} {e : Env} {R : Room} {s : State} {m : MethodId} {args : Array Value} {below : List Frame} {meth : Method} {c : Code} {H : Heap} {locs : List Loc} {cells slots : Nat} {Q : State → Prop}
variable {cc : ByteArray} {pc : Nat} {ls : Array Slot} {rest : List Value} {ω : WX} {k q z : Int} {M : Nat → Nat → Int} {wk : Nat → Int} {H0 : Heap}
theorem gx_obj {H1 : Heap} {k' q' z' : Int} (hG : GX ω k q z M wk s H) (hP : va_P ω.1 vwCl [(ox ω, .inr (0, [.ref (og ω), .ref (ow ω), .int (iI k'), .int (iI q'), .int (iI z')]))] H1) (hz : H1.size = H.size) (oq : ∀ q, q ≠ ox ω → H1[q]? = H[q]?) : GX ω k' q' z' M wk s H1 := by
  obtain ⟨⟨d1, d2, d3⟩, d4, d5⟩ := hG.1.2.2
  refine ⟨gx_new hG (Or.inl rfl) hz oq, hP, ?_, ?_, fun r hr => ?_⟩
  · rw [oq _ (Ne.symm d1)]; exact hG.2.2.1
  · rw [oq _ (Ne.symm d2)]; exact hG.2.2.2.1
  · rw [oq _ (d4 r hr).1]; exact hG.2.2.2.2 r hr
theorem gx_put2 (hexec : p.tables.exec = Jvm.exec) (hb : c.code = cc) (hts : ∀ w ∈ wsU, w.before args s = true) (hown : s.vm.findClass "NoiseRing" = some m.cls) (hG : GX ω k q z M wk s H) (hS : va_S (Ax ω) H0 H locs) {v : Int} {index : Nat} (hlink : Cond.fieldLink "NoiseRing" index "NoiseRing" "kind" "I" ∈ wsU) (hdg : decode cc pc = .ok (.putfield index, 3))
    (kk : ∀ (H1 : Heap) (locs1 : List Loc), GX ω v q z M wk s H1 → va_S (Ax ω) H0 H1 locs1 → W p l e R s m args below meth c H1 locs1 cells slots Q (F0 m (pc + 3) ls rest)) : W p l e R s m args below meth c H locs cells slots Q (F0 m pc ls (.int (iI v) :: .ref (ox ω) :: rest)) :=
  ob_put (D := ω.1) (C := RX0) (T := TX0) (N := 5) (ci := 0) (ty := .int) hexec hb hts inX0 tyX0 tyX0_ok nmX0 hown hG.1.1 hG.2.1 rfl 2 (by decide) hlink rfl (by decide +kernel) rfl rfl (Nat.le_of_ble_eq_true rfl) hdg (fun H1 sl hP hz oq => kk H1 _ (gx_obj hG hP hz oq) (hS.put hz oq (Or.inl rfl)))
theorem gx_put3 (hexec : p.tables.exec = Jvm.exec) (hb : c.code = cc) (hts : ∀ w ∈ wsU, w.before args s = true) (hown : s.vm.findClass "NoiseRing" = some m.cls) (hG : GX ω k q z M wk s H) (hS : va_S (Ax ω) H0 H locs) {v : Int} {index : Nat} (hlink : Cond.fieldLink "NoiseRing" index "NoiseRing" "q" "I" ∈ wsU) (hdg : decode cc pc = .ok (.putfield index, 3))
    (kk : ∀ (H1 : Heap) (locs1 : List Loc), GX ω k v z M wk s H1 → va_S (Ax ω) H0 H1 locs1 → W p l e R s m args below meth c H1 locs1 cells slots Q (F0 m (pc + 3) ls rest)) : W p l e R s m args below meth c H locs cells slots Q (F0 m pc ls (.int (iI v) :: .ref (ox ω) :: rest)) :=
  ob_put (D := ω.1) (C := RX0) (T := TX0) (N := 5) (ci := 0) (ty := .int) hexec hb hts inX0 tyX0 tyX0_ok nmX0 hown hG.1.1 hG.2.1 rfl 3 (by decide) hlink rfl (by decide +kernel) rfl rfl (Nat.le_of_ble_eq_true rfl) hdg (fun H1 sl hP hz oq => kk H1 _ (gx_obj hG hP hz oq) (hS.put hz oq (Or.inl rfl)))
theorem gx_put4 (hexec : p.tables.exec = Jvm.exec) (hb : c.code = cc) (hts : ∀ w ∈ wsU, w.before args s = true) (hown : s.vm.findClass "NoiseRing" = some m.cls) (hG : GX ω k q z M wk s H) (hS : va_S (Ax ω) H0 H locs) {v : Int} {index : Nat} (hlink : Cond.fieldLink "NoiseRing" index "NoiseRing" "z" "I" ∈ wsU) (hdg : decode cc pc = .ok (.putfield index, 3))
    (kk : ∀ (H1 : Heap) (locs1 : List Loc), GX ω k q v M wk s H1 → va_S (Ax ω) H0 H1 locs1 → W p l e R s m args below meth c H1 locs1 cells slots Q (F0 m (pc + 3) ls rest)) : W p l e R s m args below meth c H locs cells slots Q (F0 m pc ls (.int (iI v) :: .ref (ox ω) :: rest)) :=
  ob_put (D := ω.1) (C := RX0) (T := TX0) (N := 5) (ci := 0) (ty := .int) hexec hb hts inX0 tyX0 tyX0_ok nmX0 hown hG.1.1 hG.2.1 rfl 4 (by decide) hlink rfl (by decide +kernel) rfl rfl (Nat.le_of_ble_eq_true rfl) hdg (fun H1 sl hP hz oq => kk H1 _ (gx_obj hG hP hz oq) (hS.put hz oq (Or.inl rfl)))
/-- the work row is written -/
theorem gx_wst (hexec : p.tables.exec = Jvm.exec) (hb : c.code = cc) (hG : GX ω k q z M wk s H) (hS : va_S (Ax ω) H0 H locs) {i : Nat} (hi : i < 16) {v : Int} (hdg : decode cc pc = .ok (.iastore, 1))
    (kk : ∀ (H1 : Heap) (locs1 : List Loc), GX ω k q z M (upI wk i v) s H1 → va_S (Ax ω) H0 H1 locs1 → W p l e R s m args below meth c H1 locs1 cells slots Q (F0 m (pc + 1) ls rest)) : W p l e R s m args below meth c H locs cells slots Q (F0 m pc ls (.int (iI v) :: .int (iI i) :: .ref (ow ω) :: rest)) := by
  have hcl : (iI (i : Int)).toNatClampNeg = i := iI_cl (by omega)
  have hax : Ax ω (ow ω) := Or.inr (Or.inr (Or.inl rfl))
  refine W.iast hexec hb hG.2.2.2.1 ((hG.1.1.2 0 _ rfl).1 16 (fun j => .int (iI (wk j)))) (fun q => by cases q) ?_ rfl rfl hdg fun H1 e1 z1 oq => ?_
  · show ¬ (_ ∨ (arrV _ _ _).slots.size ≤ _)
    rw [arrV_size]
    exact iI_in (n := 16) hi (by decide)
  · obtain ⟨⟨d1, d2, d3⟩, d4, d5⟩ := hG.1.2.2
    refine kk H1 _ ⟨gx_new hG hax z1 oq, ob_one ((hG.2.1 0 _ rfl).kept (oq _ d2)), ?_, ?_, fun t ht => ?_⟩ (hS.put z1 oq hax)
    · rw [oq _ d3]; exact hG.2.2.1
    · rw [e1, hcl, vp_cell_i, arrV_store, vp_cell_i]
      congr 2
      funext j
      unfold updV upI
      split <;> rfl
    · rw [oq _ (d4 t ht).2.2]; exact hG.2.2.2.2 t ht
end GXP
/-! the model -/
abbrev WM : Type := va_G × ClassId × (Nat × Nat × Nat)
def nI_ (ω : WM) : ClassId := ω.2.1
def mo (ω : WM) : Nat := ω.2.2.1
def mg (ω : WM) : Nat := ω.2.2.2.1
def md (ω : WM) : Nat := ω.2.2.2.2
def Am (ω : WM) : Nat → Prop := fun a => a = mo ω ∨ a = mg ω ∨ a = md ω
def GM (ω : WM) (th k q : Int) (M : Nat → Nat → Int) (f : Nat → Int) (U : State) (H : Heap) : Prop :=
  (va_K ω.1 vwCl [(nI_ ω, .int)] U ∧ mo ω ≠ mg ω ∧ mo ω ≠ md ω ∧ mg ω ≠ md ω) ∧ va_P ω.1 vwCl [(mo ω, .inr (1, [.int (iI th), .int (iI k), .int (iI q), .ref (mg ω), .ref (md ω)]))] H ∧ H[mg ω]? = some (vp_cell (nI_ ω) (192, .inl (fun j => iI (M (j / 16) (j % 16))))) ∧ H[md ω]? = some (vp_cell (nI_ ω) (16, .inl (fun i => iI (f i))))
theorem GM.moved {ω : WM} {th k q : Int} {M : Nat → Nat → Int} {f : Nat → Int} {u U : State} {H : Heap} (h : u.vm.Alike U.vm) (g : GM ω th k q M f u H) : GM ω th k q M f U H := ⟨⟨va_K.moved h g.1.1, g.1.2⟩, g.2⟩
section GMR
variable {p : Program} {l : Launch} {e : Env} {R : Room} {s : State} {m : MethodId} {args : Array Value} {below : List Frame} {meth : Method} {c : Code} {H : Heap} {locs : List Loc} {cells slots : Nat} {Q : State → Prop}
variable {cc : ByteArray} {pc : Nat} {ls : Array Slot} {rest : List Value} {ω : WM} {th k q : Int} {M : Nat → Nat → Int} {f : Nat → Int} {H0 : Heap}
theorem gm_blind (av : List Value) : FrameBlind (va_Pc av (fun U => GM ω th k q M f U U.heap)) := fun a U g mk h => ⟨h.1, GM.moved (u := U) (U := U.calling g mk a) (Vm.Alike.refl U.vm) h.2⟩
theorem gm_S (hG : GM ω th k q M f s H) {As : List Value} : PreS s H (va_Pc As (fun U => GM ω th k q M f U U.heap)) As := ⟨gm_blind _, fun U hU hW => ⟨rfl, by have h := hG.moved hW.alike; rw [← hU] at h; exact h⟩⟩
theorem gm_recv (hG : GM ω th k q M f s H) : ∃ cell : Cell, H[mo ω]? = some cell ∧ cell.vm.isStatics = false ∧ s.vm.findClass RX1 = some cell.cls := va_recv (D := ω.1) (q := (RX1, TX1, 5)) (q0 := 0) (ci := 1) hG.1.1 hG.2.1 rfl rfl
theorem gm_V (hG : GM ω th k q M f s H) {As : List Value} : PreV s H RX1 (mo ω) (va_Pc (.ref (mo ω) :: As) (fun U => GM ω th k q M f U U.heap)) As := ⟨gm_blind _, gm_recv hG, fun U hU hW => ⟨rfl, by have h := hG.moved hW.alike; rw [← hU] at h; exact h⟩⟩
theorem gm_get (hexec : p.tables.exec = Jvm.exec) (hb : c.code = cc) (hts : ∀ w ∈ wsU, w.before args s = true) (hown : s.vm.findClass "NoiseRingModel" = some m.cls) (hG : GM ω th k q M f s H) (i : Nat) (hi : i < 5) {v : Value} (hv : ([.int (iI th), .int (iI k), .int (iI q), .ref (mg ω), .ref (md ω)] : List Value)[i]? = some v) {index : Nat} (hlink : Cond.fieldLink "NoiseRingModel" index "NoiseRingModel" (TX1 i).2.1 (TX1 i).2.2.1 ∈ wsU) (hdg : decode cc pc = .ok (.getfield index, 3))
    (kk : W p l e R s m args below meth c H locs cells slots Q (F0 m (pc + 3) ls (v :: rest))) : W p l e R s m args below meth c H locs cells slots Q (F0 m pc ls (.ref (mo ω) :: rest)) := by
  have hsame : ∀ x, s.fieldFound? (TX1 i).1 (TX1 i).2.1 (TX1 i).2.2.1 = some x → s.fieldFound? "NoiseRingModel" (TX1 i).2.1 (TX1 i).2.2.1 = some x := by
    have h0 : (TX1 i).1 = "NoiseRingModel" := by
      rcases (show i = 0 ∨ i = 1 ∨ i = 2 ∨ i = 3 ∨ i = 4 by omega) with rfl | rfl | rfl | rfl | rfl <;> rfl
    intro x hx
    rw [h0] at hx
    exact hx
  exact va_get (D := ω.1) (C := RX1) (T := TX1) (N := 5) hexec hb hts inX1 hown hG.1.1 hG.2.1 0 rfl rfl i hi (hts _ hlink) hsame hv hdg kk
theorem gm_rld (hexec : p.tables.exec = Jvm.exec) (hb : c.code = cc) (hG : GM ω th k q M f s H) {r i : Nat} (hr : r < 12) (hi : i < 16) (hdg : decode cc pc = .ok (.iaload, 1))
    (kk : W p l e R s m args below meth c H locs cells slots Q (F0 m (pc + 1) ls (.int (iI (M r i)) :: rest))) : W p l e R s m args below meth c H locs cells slots Q (F0 m pc ls (.int (iI ((16 * r + i : Nat) : Int)) :: .ref (mg ω) :: rest)) := by
  have hcl : (iI ((16 * r + i : Nat) : Int)).toNatClampNeg = 16 * r + i := iI_cl (by omega)
  refine W.iald (v := .int (iI (M r i))) hexec hb hG.2.2.1 ((hG.1.1.2 0 _ rfl).1 192 (fun j => .int (iI (M (j / 16) (j % 16))))) (fun q => by cases q) ?_ ?_ rfl rfl hdg kk
  · rw [vp_cell_i, arrV_size]
    exact iI_in (n := 192) (by omega) (by decide)
  · rw [vp_cell_i, hcl, arrV_read _ _ (show 16 * r + i < 192 by omega), show (16 * r + i) / 16 = r by omega, show (16 * r + i) % 16 = i by omega]
theorem gm_mld (hexec : p.tables.exec = Jvm.exec) (hb : c.code = cc) (hG : GM ω th k q M f s H) {i : Nat} (hi : i < 16) (hdg : decode cc pc = .ok (.iaload, 1))
    (kk : W p l e R s m args below meth c H locs cells slots Q (F0 m (pc + 1) ls (.int (iI (f i)) :: rest))) : W p l e R s m args below meth c H locs cells slots Q (F0 m pc ls (.int (iI i) :: .ref (md ω) :: rest)) := by
  have hcl : (iI (i : Int)).toNatClampNeg = i := iI_cl (by omega)
  refine W.iald (v := .int (iI (f i))) hexec hb hG.2.2.2 ((hG.1.1.2 0 _ rfl).1 16 (fun j => .int (iI (f j)))) (fun q => by cases q) ?_ ?_ rfl rfl hdg kk
  · rw [vp_cell_i, arrV_size]
    exact iI_in (n := 16) hi (by decide)
  · rw [vp_cell_i, hcl, arrV_read _ _ hi]
theorem gm_rst (hexec : p.tables.exec = Jvm.exec) (hb : c.code = cc) (hG : GM ω th k q M f s H) (hS : va_S (Am ω) H0 H locs) {r i : Nat} (hr : r < 12) (hi : i < 16) {v : Int} (hdg : decode cc pc = .ok (.iastore, 1))
    (kk : ∀ (H1 : Heap) (locs1 : List Loc), GM ω th k q (upR M r (upI (M r) i v)) f s H1 → va_S (Am ω) H0 H1 locs1 → W p l e R s m args below meth c H1 locs1 cells slots Q (F0 m (pc + 1) ls rest)) : W p l e R s m args below meth c H locs cells slots Q (F0 m pc ls (.int (iI v) :: .int (iI ((16 * r + i : Nat) : Int)) :: .ref (mg ω) :: rest)) := by
  have hcl : (iI ((16 * r + i : Nat) : Int)).toNatClampNeg = 16 * r + i := iI_cl (by omega)
  have hax : Am ω (mg ω) := Or.inr (Or.inl rfl)
  refine W.iast hexec hb hG.2.2.1 ((hG.1.1.2 0 _ rfl).1 192 (fun j => .int (iI (M (j / 16) (j % 16))))) (fun q => by cases q) ?_ rfl rfl hdg fun H1 e1 z1 oq => ?_
  · rw [vp_cell_i, arrV_size]
    exact iI_in (n := 192) (by omega) (by decide)
  · obtain ⟨d0, d1, d2, d3⟩ := hG.1
    refine kk H1 _ ⟨hG.1, ob_one ((hG.2.1 0 _ rfl).kept (oq _ d1)), ?_, ?_⟩ (hS.put z1 oq hax)
    · rw [e1, hcl, vp_cell_i, arrV_store, vp_cell_i]
      congr 2
      funext j
      unfold updV upR upI
      by_cases hj : j = 16 * r + i
      · rw [if_pos hj, hj, show (16 * r + i) / 16 = r by omega, show (16 * r + i) % 16 = i by omega, if_pos rfl, if_pos rfl]
      · rw [if_neg hj]
        by_cases hq : j / 16 = r
        · rw [if_pos hq, if_neg (by omega)]
          show Value.int (iI (M (j / 16) (j % 16))) = _
          rw [hq]
        · rw [if_neg hq]
    · rw [oq _ (Ne.symm d3)]; exact hG.2.2.2
theorem gm_mst (hexec : p.tables.exec = Jvm.exec) (hb : c.code = cc) (hG : GM ω th k q M f s H) (hS : va_S (Am ω) H0 H locs) {i : Nat} (hi : i < 16) {v : Int} (hdg : decode cc pc = .ok (.iastore, 1))
    (kk : ∀ (H1 : Heap) (locs1 : List Loc), GM ω th k q M (upI f i v) s H1 → va_S (Am ω) H0 H1 locs1 → W p l e R s m args below meth c H1 locs1 cells slots Q (F0 m (pc + 1) ls rest)) : W p l e R s m args below meth c H locs cells slots Q (F0 m pc ls (.int (iI v) :: .int (iI i) :: .ref (md ω) :: rest)) := by
  have hcl : (iI (i : Int)).toNatClampNeg = i := iI_cl (by omega)
  have hax : Am ω (md ω) := Or.inr (Or.inr rfl)
  refine W.iast hexec hb hG.2.2.2 ((hG.1.1.2 0 _ rfl).1 16 (fun j => .int (iI (f j)))) (fun q => by cases q) ?_ rfl rfl hdg fun H1 e1 z1 oq => ?_
  · rw [vp_cell_i, arrV_size]
    exact iI_in (n := 16) hi (by decide)
  · obtain ⟨d0, d1, d2, d3⟩ := hG.1
    refine kk H1 _ ⟨hG.1, ob_one ((hG.2.1 0 _ rfl).kept (oq _ d2)), ?_, ?_⟩ (hS.put z1 oq hax)
    · rw [oq _ d3]; exact hG.2.2.1
    · rw [e1, hcl, vp_cell_i, arrV_store, vp_cell_i]
      congr 2
      funext j
      unfold updV upI
      split <;> rfl
theorem gm_obj {H1 : Heap} {t' k' q' : Int} (hG : GM ω th k q M f s H) (hP : va_P ω.1 vwCl [(mo ω, .inr (1, [.int (iI t'), .int (iI k'), .int (iI q'), .ref (mg ω), .ref (md ω)]))] H1) (oq : ∀ q, q ≠ mo ω → H1[q]? = H[q]?) : GM ω t' k' q' M f s H1 := by
  obtain ⟨d0, d1, d2, d3⟩ := hG.1
  refine ⟨hG.1, hP, ?_, ?_⟩
  · rw [oq _ (Ne.symm d1)]; exact hG.2.2.1
  · rw [oq _ (Ne.symm d2)]; exact hG.2.2.2
theorem gm_put0 (hexec : p.tables.exec = Jvm.exec) (hb : c.code = cc) (hts : ∀ w ∈ wsU, w.before args s = true) (hown : s.vm.findClass "NoiseRingModel" = some m.cls) (hG : GM ω th k q M f s H) (hS : va_S (Am ω) H0 H locs) {v : Int} {index : Nat} (hlink : Cond.fieldLink "NoiseRingModel" index "NoiseRingModel" "thrown" "I" ∈ wsU) (hdg : decode cc pc = .ok (.putfield index, 3))
    (kk : ∀ (H1 : Heap) (locs1 : List Loc), GM ω v k q M f s H1 → va_S (Am ω) H0 H1 locs1 → W p l e R s m args below meth c H1 locs1 cells slots Q (F0 m (pc + 3) ls rest)) : W p l e R s m args below meth c H locs cells slots Q (F0 m pc ls (.int (iI v) :: .ref (mo ω) :: rest)) :=
  ob_put (D := ω.1) (C := RX1) (T := TX1) (N := 5) (ci := 1) (ty := .int) hexec hb hts inX1 tyX1 tyX1_ok nmX1 hown hG.1.1 hG.2.1 rfl 0 (by decide) hlink rfl (by decide +kernel) rfl rfl (Nat.le_of_ble_eq_true rfl) hdg (fun H1 sl hP hz oq => kk H1 _ (gm_obj hG hP oq) (hS.put hz oq (Or.inl rfl)))
theorem gm_put1 (hexec : p.tables.exec = Jvm.exec) (hb : c.code = cc) (hts : ∀ w ∈ wsU, w.before args s = true) (hown : s.vm.findClass "NoiseRingModel" = some m.cls) (hG : GM ω th k q M f s H) (hS : va_S (Am ω) H0 H locs) {v : Int} {index : Nat} (hlink : Cond.fieldLink "NoiseRingModel" index "NoiseRingModel" "kind" "I" ∈ wsU) (hdg : decode cc pc = .ok (.putfield index, 3))
    (kk : ∀ (H1 : Heap) (locs1 : List Loc), GM ω th v q M f s H1 → va_S (Am ω) H0 H1 locs1 → W p l e R s m args below meth c H1 locs1 cells slots Q (F0 m (pc + 3) ls rest)) : W p l e R s m args below meth c H locs cells slots Q (F0 m pc ls (.int (iI v) :: .ref (mo ω) :: rest)) :=
  ob_put (D := ω.1) (C := RX1) (T := TX1) (N := 5) (ci := 1) (ty := .int) hexec hb hts inX1 tyX1 tyX1_ok nmX1 hown hG.1.1 hG.2.1 rfl 1 (by decide) hlink rfl (by decide +kernel) rfl rfl (Nat.le_of_ble_eq_true rfl) hdg (fun H1 sl hP hz oq => kk H1 _ (gm_obj hG hP oq) (hS.put hz oq (Or.inl rfl)))
theorem gm_put2 (hexec : p.tables.exec = Jvm.exec) (hb : c.code = cc) (hts : ∀ w ∈ wsU, w.before args s = true) (hown : s.vm.findClass "NoiseRingModel" = some m.cls) (hG : GM ω th k q M f s H) (hS : va_S (Am ω) H0 H locs) {v : Int} {index : Nat} (hlink : Cond.fieldLink "NoiseRingModel" index "NoiseRingModel" "q" "I" ∈ wsU) (hdg : decode cc pc = .ok (.putfield index, 3))
    (kk : ∀ (H1 : Heap) (locs1 : List Loc), GM ω th k v M f s H1 → va_S (Am ω) H0 H1 locs1 → W p l e R s m args below meth c H1 locs1 cells slots Q (F0 m (pc + 3) ls rest)) : W p l e R s m args below meth c H locs cells slots Q (F0 m pc ls (.int (iI v) :: .ref (mo ω) :: rest)) :=
  ob_put (D := ω.1) (C := RX1) (T := TX1) (N := 5) (ci := 1) (ty := .int) hexec hb hts inX1 tyX1 tyX1_ok nmX1 hown hG.1.1 hG.2.1 rfl 2 (by decide) hlink rfl (by decide +kernel) rfl rfl (Nat.le_of_ble_eq_true rfl) hdg (fun H1 sl hP hz oq => kk H1 _ (gm_obj hG hP oq) (hS.put hz oq (Or.inl rfl)))
end GMR
end
section
/-! Contracts of the reference's read-only helpers, by program (wip/gen/x1.py). -/
set_option maxHeartbeats 4000000 in
set_option maxRecDepth 100000 in
theorem m_none (l : Launch)  (r : Int) (r1 : -2147483648 ≤ r) (r2 : r < 2147483648) : Met l yX1_none wsX1_none ({ frames := 0, cells := 0, slots := 0, locals := 0 }) (va_Pc [.int (iI (r))] (fun _ => True)) (vp_Si (fun r_ => r_ = iI (if 0 ≤ r ∧ r < 12 then 0 else 1))) 0 0 (fun _ => False) := by
  refine Met.ofW (cc := cX1_none) (maxL := 1) (ret := (some .boolean)) (by decide +kernel) rfl ?_
  intro p e s m args below meth c s₁ B hml hv
  obtain ⟨rfl, hG⟩ := hv
  have hx := B.exec
  have hb := B.bytes
  have hrt := B.returns
  have hts : ∀ w ∈ wsU, w.before _ s = true := fun w h => atoms_spec (ws := wsX1_none) B.pre w (List.mem_cons_of_mem _ h)
  have hown : s.vm.findClass "NoiseRingModel" = some m.cls := findClass_of_methodNamed B.named
  have hlocks := B.notSynchronized
  have hl := lv_entry ([.int (iI (r))]) (n := 1) (Nat.le_of_ble_eq_true rfl)
  rw [lg_entry_eq]
  generalize (lg_sl ([.int (iI (r))]) ++ List.replicate (1 - (lg_sl ([.int (iI (r))])).length) Slot.unset).toArray = ls at hl ⊢
  have hl : lv_has ls 1 [(0, .int (iI (r)))] := hl
  refine lv_iload_n hx hb dX1_none_0 rfl (lv_at hl 0 rfl) ?_
  refine ix_if_lt (tgt := 10) hx hb (by omega) (by omega) dX1_none_1 (by decide) (fun h1 => ?_) (fun h1 => ?_)
  · skip
    refine ix_iconst hx hb dX1_none_10 ?_
    refine lv_goto (tgt := 15) hx hb dX1_none_11 (by decide) ?_
    exact W.zret (ty := .boolean) hx hb hrt (by decide) (fun t ht hW => ⟨_, rfl, congrArg iI (by first | rw [if_pos ⟨by omega, by omega⟩] | rw [if_neg (by omega)]), ht⟩) t_nil dX1_none_15
  · skip
    refine lv_iload_n hx hb dX1_none_4 rfl (lv_at hl 0 rfl) ?_
    refine ix_bipush hx hb (by decide) dX1_none_5 ?_
    refine ix_icmp_lt (tgt := 14) hx hb (by omega) (by omega) (by omega) (by omega) dX1_none_7 (by decide) (fun h7 => ?_) (fun h7 => ?_)
    · skip
      refine ix_iconst hx hb dX1_none_14 ?_
      exact W.zret (ty := .boolean) hx hb hrt (by decide) (fun t ht hW => ⟨_, rfl, congrArg iI (by first | rw [if_pos ⟨by omega, by omega⟩] | rw [if_neg (by omega)]), ht⟩) t_nil dX1_none_15
    · skip
      refine ix_iconst hx hb dX1_none_10 ?_
      refine lv_goto (tgt := 15) hx hb dX1_none_11 (by decide) ?_
      exact W.zret (ty := .boolean) hx hb hrt (by decide) (fun t ht hW => ⟨_, rfl, congrArg iI (by first | rw [if_pos ⟨by omega, by omega⟩] | rw [if_neg (by omega)]), ht⟩) t_nil dX1_none_15
set_option maxHeartbeats 4000000 in
set_option maxRecDepth 100000 in
theorem m_at (l : Launch) (ω : WM) (th k q : Int) (M : Nat → Nat → Int) (f : Nat → Int) (r i : Nat) (hr : r < 12) (hi : i < 16) : Met l yX1_at wsX1_at ({ frames := 0, cells := 0, slots := 0, locals := 0 }) (va_Pc [.ref (mo ω), .int (iI (r)), .int (iI (i))] (fun U => GM ω th k q M f U U.heap)) (vp_Si (fun r_ => r_ = iI (M r i))) 0 0 (fun _ => False) := by
  refine Met.ofW (cc := cX1_at) (maxL := 3) (ret := (some .int)) (by decide +kernel) rfl ?_
  intro p e s m args below meth c s₁ B hml hv
  obtain ⟨rfl, hG⟩ := hv
  have hx := B.exec
  have hb := B.bytes
  have hrt := B.returns
  have hts : ∀ w ∈ wsU, w.before _ s = true := fun w h => atoms_spec (ws := wsX1_at) B.pre w (List.mem_cons_of_mem _ h)
  have hown : s.vm.findClass "NoiseRingModel" = some m.cls := findClass_of_methodNamed B.named
  have hlocks := B.notSynchronized
  have hl := lv_entry ([.ref (mo ω), .int (iI (r)), .int (iI (i))]) (n := 3) (Nat.le_of_ble_eq_true rfl)
  rw [lg_entry_eq]
  generalize (lg_sl ([.ref (mo ω), .int (iI (r)), .int (iI (i))]) ++ List.replicate (3 - (lg_sl ([.ref (mo ω), .int (iI (r)), .int (iI (i))])).length) Slot.unset).toArray = ls at hl ⊢
  have hl : lv_has ls 3 [(0, .ref (mo ω)), (1, .int (iI (r))), (2, .int (iI (i)))] := hl
  refine lv_aload_n hx hb dX1_at_0 rfl (lv_at hl 0 rfl) ?_
  refine gm_get hx hb hts hown hG 3 (by decide) rfl u327 dX1_at_1 ?_
  refine ix_bipush hx hb (by decide) dX1_at_4 ?_
  refine lv_iload_n hx hb dX1_at_6 rfl (lv_at hl 1 rfl) ?_
  refine ix_imul hx hb dX1_at_7 ?_
  refine lv_iload_n hx hb dX1_at_8 rfl (lv_at hl 2 rfl) ?_
  refine ix_iadd hx hb dX1_at_9 ?_
  refine wx_i (congrArg iI (show ((16 * r) + i) = ((16 * (r) + (i) : Nat) : Int) by omega)) ?_
  refine gm_rld (r := r) (i := i) hx hb hG (by omega) (by omega) dX1_at_10 ?_
  exact W.iret hx hb hrt (fun t ht hW => ⟨_, rfl, rfl, ht⟩) t_nil dX1_at_11
set_option maxHeartbeats 4000000 in
set_option maxRecDepth 100000 in
theorem m_of (l : Launch) (ω : WM) (th k q : Int) (M : Nat → Nat → Int) (f : Nat → Int) (v : Int) (hq1 : 3329 ≤ q) (hq2 : q ≤ 8380417) (v1 : -9223372036854775808 ≤ v) (v2 : v < 9223372036854775808) : Met l yX1_of wsX1_of ({ frames := 1, cells := 0, slots := 0, locals := 25 }) (va_Pc [.ref (mo ω), .long (lI (v))] (fun U => GM ω th k q M f U U.heap)) (vp_Si (fun r_ => r_ = iI (v % q))) 0 0 (fun _ => False) := by
  refine Met.ofW (cc := cX1_of) (maxL := 3) (ret := (some .int)) (by decide +kernel) rfl ?_
  intro p e s m args below meth c s₁ B hml hv
  obtain ⟨rfl, hG⟩ := hv
  have hx := B.exec
  have hb := B.bytes
  have hrt := B.returns
  have hts : ∀ w ∈ wsU, w.before _ s = true := fun w h => atoms_spec (ws := wsX1_of) B.pre w (List.mem_cons_of_mem _ h)
  have hown : s.vm.findClass "NoiseRingModel" = some m.cls := findClass_of_methodNamed B.named
  have hlocks := B.notSynchronized
  have hl := lv_entry ([.ref (mo ω), .long (lI (v))]) (n := 3) (Nat.le_of_ble_eq_true rfl)
  rw [lg_entry_eq]
  generalize (lg_sl ([.ref (mo ω), .long (lI (v))]) ++ List.replicate (3 - (lg_sl ([.ref (mo ω), .long (lI (v))])).length) Slot.unset).toArray = ls at hl ⊢
  have hl : lv_has ls 3 [(0, .ref (mo ω)), (1, .long (lI (v)))] := hl
  refine lv_lload_n hx hb dX1_of_0 rfl (lv_at hl 1 rfl) ?_
  refine lv_aload_n hx hb dX1_of_1 rfl (lv_at hl 0 rfl) ?_
  refine gm_get hx hb hts hown hG 2 (by decide) rfl u326 dX1_of_2 ?_
  refine ix_i2l hx hb (by omega) (by omega) dX1_of_5 ?_
  refine vp_callSl (va_Run.run (va_runS (As := [.long (lI (v)), .long (lI (q))]) (rest := []) ⟨hx, hb, hml, hown, hts⟩ (c_floorModL l (v) (q) (by omega) (by omega) (by omega) (by omega)) (va_cwS 2 hts (gU (hd := [.methodLink "NoiseRingModel" 23 yJ_floorModL, .static yJ_floorModL, .initialized "java/lang/Math"]) (List.forall_mem_cons.mpr ⟨u362, List.forall_mem_cons.mpr ⟨u199, List.forall_mem_cons.mpr ⟨u36, fun _ h => by cases h⟩⟩⟩) u200) rfl rfl rfl (by decide +kernel) ⟨Nat.le_of_ble_eq_true rfl, Nat.le_of_ble_eq_true rfl⟩) gn_S rfl rfl hl.1 rfl (lv_room (Nat.le_of_ble_eq_true rfl)) dX1_of_6 ⟨Nat.le_of_ble_eq_true rfl, Nat.le_of_ble_eq_true rfl⟩)) (fun r6 hr6 => ?_)
  subst hr6
  refine ix_l2i hx hb dX1_of_9 ?_
  exact W.iret hx hb hrt (fun t ht hW => ⟨_, rfl, rfl, ht⟩) t_nil dX1_of_10
set_option maxHeartbeats 4000000 in
set_option maxRecDepth 100000 in
theorem m_size0 (l : Launch) (ω : WM) (th k q : Int) (M : Nat → Nat → Int) (f : Nat → Int) (x : Int) (hq1 : 3329 ≤ q) (hq2 : q ≤ 8380417) (qo : q % 2 = 1) (x1 : 0 ≤ x) (x2 : x < q) : Met l yX1_size0 wsX1_size0 ({ frames := 0, cells := 0, slots := 0, locals := 0 }) (va_Pc [.ref (mo ω), .int (iI (x))] (fun U => GM ω th k q M f U U.heap)) (vp_Si (fun r_ => r_ = iI (sCs q x))) 0 0 (fun _ => False) := by
  refine Met.ofW (cc := cX1_size0) (maxL := 2) (ret := (some .int)) (by decide +kernel) rfl ?_
  intro p e s m args below meth c s₁ B hml hv
  obtain ⟨rfl, hG⟩ := hv
  have hx := B.exec
  have hb := B.bytes
  have hrt := B.returns
  have hts : ∀ w ∈ wsU, w.before _ s = true := fun w h => atoms_spec (ws := wsX1_size0) B.pre w (List.mem_cons_of_mem _ h)
  have hown : s.vm.findClass "NoiseRingModel" = some m.cls := findClass_of_methodNamed B.named
  have hlocks := B.notSynchronized
  have hl := lv_entry ([.ref (mo ω), .int (iI (x))]) (n := 2) (Nat.le_of_ble_eq_true rfl)
  rw [lg_entry_eq]
  generalize (lg_sl ([.ref (mo ω), .int (iI (x))]) ++ List.replicate (2 - (lg_sl ([.ref (mo ω), .int (iI (x))])).length) Slot.unset).toArray = ls at hl ⊢
  have hl : lv_has ls 2 [(0, .ref (mo ω)), (1, .int (iI (x)))] := hl
  refine lv_iload_n hx hb dX1_size0_0 rfl (lv_at hl 1 rfl) ?_
  refine lv_aload_n hx hb dX1_size0_1 rfl (lv_at hl 0 rfl) ?_
  refine gm_get hx hb hts hown hG 2 (by decide) rfl u326 dX1_size0_2 ?_
  refine ix_iconst hx hb dX1_size0_5 ?_
  refine ix_isub hx hb dX1_size0_6 ?_
  refine ix_iconst hx hb dX1_size0_7 ?_
  refine ix_idiv hx hb (by omega) (by omega) (by omega) (by omega) dX1_size0_8 ?_
  refine ix_icmp_le (tgt := 21) hx hb (by omega) (by omega) (by omega) (by omega) dX1_size0_9 (by decide) (fun h9 => ?_) (fun h9 => ?_)
  · skip
    refine lv_iload_n hx hb dX1_size0_21 rfl (lv_at hl 1 rfl) ?_
    exact W.iret hx hb hrt (fun t ht hW => ⟨_, rfl, congrArg iI (by unfold sCs; split <;> omega), ht⟩) t_nil dX1_size0_22
  · skip
    refine lv_aload_n hx hb dX1_size0_12 rfl (lv_at hl 0 rfl) ?_
    refine gm_get hx hb hts hown hG 2 (by decide) rfl u326 dX1_size0_13 ?_
    refine lv_iload_n hx hb dX1_size0_16 rfl (lv_at hl 1 rfl) ?_
    refine ix_isub hx hb dX1_size0_17 ?_
    refine lv_goto (tgt := 22) hx hb dX1_size0_18 (by decide) ?_
    exact W.iret hx hb hrt (fun t ht hW => ⟨_, rfl, congrArg iI (by unfold sCs; split <;> omega), ht⟩) t_nil dX1_size0_22
set_option maxHeartbeats 4000000 in
set_option maxRecDepth 100000 in
theorem m_most (l : Launch) (ω : WM) (th k q : Int) (M : Nat → Nat → Int) (f : Nat → Int)  (hq1 : 3329 ≤ q) (hq2 : q ≤ 8380417) (qo : q % 2 = 1) (hf : ∀ i, i < 16 → 0 ≤ f i ∧ f i < q) : Met l yX1_most wsX1_most ({ frames := 1, cells := 0, slots := 0, locals := 21 }) (va_Pc [.ref (mo ω), .ref (md ω)] (fun U => GM ω th k q M f U U.heap)) (vp_Si (fun r_ => r_ = iI (sMax q f 16))) 0 0 (fun _ => False) := by
  refine Met.ofW (cc := cX1_most) (maxL := 4) (ret := (some .int)) (by decide +kernel) rfl ?_
  intro p e s m args below meth c s₁ B hml hv
  obtain ⟨rfl, hG⟩ := hv
  have hx := B.exec
  have hb := B.bytes
  have hrt := B.returns
  have hts : ∀ w ∈ wsU, w.before _ s = true := fun w h => atoms_spec (ws := wsX1_most) B.pre w (List.mem_cons_of_mem _ h)
  have hown : s.vm.findClass "NoiseRingModel" = some m.cls := findClass_of_methodNamed B.named
  have hlocks := B.notSynchronized
  have hl := lv_entry ([.ref (mo ω), .ref (md ω)]) (n := 4) (Nat.le_of_ble_eq_true rfl)
  rw [lg_entry_eq]
  generalize (lg_sl ([.ref (mo ω), .ref (md ω)]) ++ List.replicate (4 - (lg_sl ([.ref (mo ω), .ref (md ω)])).length) Slot.unset).toArray = ls at hl ⊢
  have hl : lv_has ls 4 [(0, .ref (mo ω)), (1, .ref (md ω))] := hl
  refine ix_iconst hx hb dX1_most_0 ?_
  refine lv_istore_n (lv' := [(2, .int (iI (0))), (0, .ref (mo ω)), (1, .ref (md ω))]) hx hb dX1_most_1 rfl hl (by decide) rfl (fun ls hl => ?_)
  refine ix_iconst hx hb dX1_most_2 ?_
  refine lv_istore_n (lv' := [(3, .int (iI (0))), (2, .int (iI (0))), (0, .ref (mo ω)), (1, .ref (md ω))]) hx hb dX1_most_3 rfl hl (by decide) rfl (fun ls hl => ?_)
  refine ix_loop (I := fun j ls => lv_has ls 4 [(3, .int (iI ((j : Nat)))), (2, .int (iI (sMax q f (j)))), (1, .ref (md ω)), (0, .ref (mo ω))]) (16) 0 (by omega) (lv_sub hl [0, 1, 3, 2] rfl) (fun ls hl => ?_) (fun j ls hj hl ih4 => ?_)
  · skip
    have hl : lv_has ls 4 [(3, .int (iI ((16 : Nat)))), (2, .int (iI (sMax q f (16)))), (1, .ref (md ω)), (0, .ref (mo ω))] := hl
    refine lv_iload_n hx hb dX1_most_4 rfl (lv_at hl 0 rfl) ?_
    refine ix_bipush hx hb (by decide) dX1_most_5 ?_
    refine ix_icmp_ge (tgt := 28) hx hb (by omega) (by omega) (by omega) (by omega) dX1_most_7 (by decide) (fun h7 => ?_) (fun h7 => absurd h7 (by omega))
    refine lv_iload_n hx hb dX1_most_28 rfl (lv_at hl 1 rfl) ?_
    exact W.iret hx hb hrt (fun t ht hW => ⟨_, rfl, rfl, ht⟩) t_nil dX1_most_29
  · skip
    have hl : lv_has ls 4 [(3, .int (iI ((j : Nat)))), (2, .int (iI (sMax q f (j)))), (1, .ref (md ω)), (0, .ref (mo ω))] := hl
    refine lv_iload_n hx hb dX1_most_4 rfl (lv_at hl 0 rfl) ?_
    refine ix_bipush hx hb (by decide) dX1_most_5 ?_
    refine ix_icmp_ge (tgt := 28) hx hb (by omega) (by omega) (by omega) (by omega) dX1_most_7 (by decide) (fun h7 => absurd h7 (by omega)) (fun h7 => ?_)
    have hm := hf j hj
    have hx1 := sMax_in (q := q) (f := f) (n := j) (by omega) (fun i hi => hf i (by omega))
    have hc := sCs_in hm.1 hm.2
    refine lv_iload_n hx hb dX1_most_10 rfl (lv_at hl 1 rfl) ?_
    refine lv_aload_n hx hb dX1_most_11 rfl (lv_at hl 3 rfl) ?_
    refine lv_aload_n hx hb dX1_most_12 rfl (lv_at hl 2 rfl) ?_
    refine lv_iload_n hx hb dX1_most_13 rfl (lv_at hl 0 rfl) ?_
    refine gm_mld (i := j) hx hb hG (by omega) dX1_most_14 ?_
    refine vp_callSi (va_Run.run (va_runV (As := [.int (iI (f (j)))]) (rest := [.int (iI (sMax q f (j)))]) ⟨hx, hb, hml, hown, hts⟩ (m_size0 l ω th k q M f (f (j)) hq1 hq2 qo (by omega) (by omega)) (cwV 1 hts (gU (hd := [.methodLink "NoiseRingModel" 29 yX1_size0, .instanceMethod yX1_size0, .selects "NoiseRingModel" yX1_size0 yX1_size0, .initialized "NoiseRingModel"]) (List.forall_mem_cons.mpr ⟨u377, List.forall_mem_cons.mpr ⟨u378, List.forall_mem_cons.mpr ⟨u20, List.forall_mem_cons.mpr ⟨u30, fun _ h => by cases h⟩⟩⟩⟩) u379) rfl rfl rfl (by decide +kernel) ⟨Nat.le_of_ble_eq_true rfl, Nat.le_of_ble_eq_true rfl⟩) (gm_V hG) rfl rfl hl.1 rfl (lv_room (Nat.le_of_ble_eq_true rfl)) dX1_most_15 ⟨Nat.le_of_ble_eq_true rfl, Nat.le_of_ble_eq_true rfl⟩)) (fun r15 hr15 => ?_)
    subst hr15
    refine ix_mmax hx hb hts (hml.trans hl.1.symm) hown u380 (by omega) (by omega) (by omega) (by omega) (Nat.le_of_ble_eq_true rfl) (Nat.le_of_ble_eq_true rfl) (Nat.le_of_ble_eq_true rfl) (Nat.le_of_ble_eq_true rfl) dX1_most_18 ?_
    refine wx_i (congrArg iI (show (if sMax q f j < sCs q (f (j)) then sCs q (f (j)) else sMax q f j) = sMax q f (j + 1) by rw [sMax]; split <;> omega)) ?_
    refine lv_istore_n (lv' := [(2, .int (iI (sMax q f (j + 1)))), (3, .int (iI ((j : Nat)))), (1, .ref (md ω)), (0, .ref (mo ω))]) hx hb dX1_most_21 rfl hl (by decide) rfl (fun ls hl => ?_)
    refine lv_iinc (k := 1) (v := iI ((j : Nat) + 1)) (lv' := [(3, .int (iI ((j : Nat) + 1))), (2, .int (iI (sMax q f (j + 1)))), (1, .ref (md ω)), (0, .ref (mo ω))]) hx hb dX1_most_22 hl rfl (iI_add _ _) (by decide) rfl (fun ls hl => ?_)
    refine lv_goto (tgt := 4) hx hb dX1_most_25 (by decide) ?_
    exact ih4 ls (lv_sub hl [0, 1, 2, 3] rfl)
set_option maxHeartbeats 4000000 in
set_option maxRecDepth 100000 in
theorem m_rest (l : Launch)  (x a : Int) (x1 : 0 ≤ x) (x2 : x < 2147483648) (a1 : 0 < a) (a2 : a < 1073741824) : Met l yX1_rest wsX1_rest ({ frames := 0, cells := 0, slots := 0, locals := 0 }) (va_Pc [.int (iI (x)), .int (iI (a))] (fun _ => True)) (vp_Si (fun r_ => r_ = iI (sNear x a))) 0 0 (fun _ => False) := by
  refine Met.ofW (cc := cX1_rest) (maxL := 3) (ret := (some .int)) (by decide +kernel) rfl ?_
  intro p e s m args below meth c s₁ B hml hv
  obtain ⟨rfl, hG⟩ := hv
  have hx := B.exec
  have hb := B.bytes
  have hrt := B.returns
  have hts : ∀ w ∈ wsU, w.before _ s = true := fun w h => atoms_spec (ws := wsX1_rest) B.pre w (List.mem_cons_of_mem _ h)
  have hown : s.vm.findClass "NoiseRingModel" = some m.cls := findClass_of_methodNamed B.named
  have hlocks := B.notSynchronized
  have hl := lv_entry ([.int (iI (x)), .int (iI (a))]) (n := 3) (Nat.le_of_ble_eq_true rfl)
  rw [lg_entry_eq]
  generalize (lg_sl ([.int (iI (x)), .int (iI (a))]) ++ List.replicate (3 - (lg_sl ([.int (iI (x)), .int (iI (a))])).length) Slot.unset).toArray = ls at hl ⊢
  have hl : lv_has ls 3 [(0, .int (iI (x))), (1, .int (iI (a)))] := hl
  have h1 := Int.emod_nonneg x (show a ≠ 0 by omega)
  have h2 := Int.emod_lt_of_pos x a1
  refine lv_iload_n hx hb dX1_rest_0 rfl (lv_at hl 0 rfl) ?_
  refine lv_iload_n hx hb dX1_rest_1 rfl (lv_at hl 1 rfl) ?_
  refine ix_irem hx hb (by omega) (by omega) (by omega) (by omega) dX1_rest_2 ?_
  refine lv_istore_n (lv' := [(2, .int (iI ((x % a)))), (0, .int (iI (x))), (1, .int (iI (a)))]) hx hb dX1_rest_3 rfl hl (by decide) rfl (fun ls hl => ?_)
  refine ix_iconst hx hb dX1_rest_4 ?_
  refine lv_iload_n hx hb dX1_rest_5 rfl (lv_at hl 0 rfl) ?_
  refine ix_imul hx hb dX1_rest_6 ?_
  refine lv_iload_n hx hb dX1_rest_7 rfl (lv_at hl 2 rfl) ?_
  refine ix_icmp_le (tgt := 17) hx hb (by omega) (by omega) (by omega) (by omega) dX1_rest_8 (by decide) (fun h8 => ?_) (fun h8 => ?_)
  · skip
    refine lv_iload_n hx hb dX1_rest_17 rfl (lv_at hl 0 rfl) ?_
    exact W.iret hx hb hrt (fun t ht hW => ⟨_, rfl, congrArg iI (by unfold sNear; first | rw [if_pos (by omega)] | rw [if_neg (by omega)]), ht⟩) t_nil dX1_rest_18
  · skip
    refine lv_iload_n hx hb dX1_rest_11 rfl (lv_at hl 0 rfl) ?_
    refine lv_iload_n hx hb dX1_rest_12 rfl (lv_at hl 2 rfl) ?_
    refine ix_isub hx hb dX1_rest_13 ?_
    refine lv_goto (tgt := 18) hx hb dX1_rest_14 (by decide) ?_
    exact W.iret hx hb hrt (fun t ht hW => ⟨_, rfl, congrArg iI (by unfold sNear; first | rw [if_pos (by omega)] | rw [if_neg (by omega)]), ht⟩) t_nil dX1_rest_18
set_option maxHeartbeats 4000000 in
set_option maxRecDepth 100000 in
theorem m_isAlpha (l : Launch) (ω : WM) (th k q : Int) (M : Nat → Nat → Int) (f : Nat → Int) (a : Int) (hq1 : 3329 ≤ q) (hq2 : q ≤ 8380417) (a1 : -2147483648 ≤ a) (a2 : a < 2147483648) : Met l yX1_isAlpha wsX1_isAlpha ({ frames := 0, cells := 0, slots := 0, locals := 0 }) (va_Pc [.ref (mo ω), .int (iI (a))] (fun U => GM ω th k q M f U U.heap)) (vp_Si (fun r_ => r_ = iI (sAli q a))) 0 0 (fun _ => False) := by
  refine Met.ofW (cc := cX1_isAlpha) (maxL := 2) (ret := (some .boolean)) (by decide +kernel) rfl ?_
  intro p e s m args below meth c s₁ B hml hv
  obtain ⟨rfl, hG⟩ := hv
  have hx := B.exec
  have hb := B.bytes
  have hrt := B.returns
  have hts : ∀ w ∈ wsU, w.before _ s = true := fun w h => atoms_spec (ws := wsX1_isAlpha) B.pre w (List.mem_cons_of_mem _ h)
  have hown : s.vm.findClass "NoiseRingModel" = some m.cls := findClass_of_methodNamed B.named
  have hlocks := B.notSynchronized
  have hl := lv_entry ([.ref (mo ω), .int (iI (a))]) (n := 2) (Nat.le_of_ble_eq_true rfl)
  rw [lg_entry_eq]
  generalize (lg_sl ([.ref (mo ω), .int (iI (a))]) ++ List.replicate (2 - (lg_sl ([.ref (mo ω), .int (iI (a))])).length) Slot.unset).toArray = ls at hl ⊢
  have hl : lv_has ls 2 [(0, .ref (mo ω)), (1, .int (iI (a)))] := hl
  refine lv_iload_n hx hb dX1_isAlpha_0 rfl (lv_at hl 1 rfl) ?_
  refine ix_if_le (tgt := 25) hx hb (by omega) (by omega) dX1_isAlpha_1 (by decide) (fun h1 => ?_) (fun h1 => ?_)
  · skip
    refine ix_iconst hx hb dX1_isAlpha_25 ?_
    exact W.zret (ty := .boolean) hx hb hrt (by decide) (fun t ht hW => ⟨_, rfl, congrArg iI (by unfold sAli; first | rw [if_pos ⟨by omega, by omega, by assumption⟩] | rw [if_neg (fun g => by have g1 := g.1; have g2 := g.2.1; have g3 := g.2.2; omega)]), ht⟩) t_nil dX1_isAlpha_26
  · skip
    refine lv_iload_n hx hb dX1_isAlpha_4 rfl (lv_at hl 1 rfl) ?_
    refine ix_iconst hx hb dX1_isAlpha_5 ?_
    refine ix_irem hx hb (by omega) (by omega) (by omega) (by omega) dX1_isAlpha_6 ?_
    refine ix_if_ne (tgt := 25) hx hb (by omega) (by omega) dX1_isAlpha_7 (by decide) (fun h7 => ?_) (fun h7 => ?_)
    · skip
      refine ix_iconst hx hb dX1_isAlpha_25 ?_
      exact W.zret (ty := .boolean) hx hb hrt (by decide) (fun t ht hW => ⟨_, rfl, congrArg iI (by unfold sAli; first | rw [if_pos ⟨by omega, by omega, by assumption⟩] | rw [if_neg (fun g => by have g1 := g.1; have g2 := g.2.1; have g3 := g.2.2; omega)]), ht⟩) t_nil dX1_isAlpha_26
    · skip
      refine lv_aload_n hx hb dX1_isAlpha_10 rfl (lv_at hl 0 rfl) ?_
      refine gm_get hx hb hts hown hG 2 (by decide) rfl u326 dX1_isAlpha_11 ?_
      refine ix_iconst hx hb dX1_isAlpha_14 ?_
      refine ix_isub hx hb dX1_isAlpha_15 ?_
      refine lv_iload_n hx hb dX1_isAlpha_16 rfl (lv_at hl 1 rfl) ?_
      have h9 := Int.emod_nonneg (q - 1) (show a ≠ 0 by omega)
      have h8 := Int.emod_lt_of_pos (q - 1) (show 0 < a by omega)
      refine ix_irem hx hb (by omega) (by omega) (by omega) (by omega) dX1_isAlpha_17 ?_
      refine ix_if_ne (tgt := 25) hx hb (by omega) (by omega) dX1_isAlpha_18 (by decide) (fun h18 => ?_) (fun h18 => ?_)
      · skip
        refine ix_iconst hx hb dX1_isAlpha_25 ?_
        exact W.zret (ty := .boolean) hx hb hrt (by decide) (fun t ht hW => ⟨_, rfl, congrArg iI (by unfold sAli; first | rw [if_pos ⟨by omega, by omega, by assumption⟩] | rw [if_neg (fun g => by have g1 := g.1; have g2 := g.2.1; have g3 := g.2.2; omega)]), ht⟩) t_nil dX1_isAlpha_26
      · skip
        refine ix_iconst hx hb dX1_isAlpha_21 ?_
        refine lv_goto (tgt := 26) hx hb dX1_isAlpha_22 (by decide) ?_
        exact W.zret (ty := .boolean) hx hb hrt (by decide) (fun t ht hW => ⟨_, rfl, congrArg iI (by unfold sAli; first | rw [if_pos ⟨by omega, by omega, by assumption⟩] | rw [if_neg (fun g => by have g1 := g.1; have g2 := g.2.1; have g3 := g.2.2; omega)]), ht⟩) t_nil dX1_isAlpha_26
set_option maxHeartbeats 4000000 in
set_option maxRecDepth 100000 in
theorem m_restOf (l : Launch) (ω : WM) (th k q : Int) (M : Nat → Nat → Int) (f : Nat → Int) (x a : Int) (hq1 : 3329 ≤ q) (hq2 : q ≤ 8380417) (x1 : 0 ≤ x) (x2 : x < q) (a1 : 0 < a) (a2 : a < 8380417) : Met l yX1_restOf wsX1_restOf ({ frames := 1, cells := 0, slots := 0, locals := 22 }) (va_Pc [.ref (mo ω), .int (iI (x)), .int (iI (a))] (fun U => GM ω th k q M f U U.heap)) (vp_Si (fun r_ => r_ = iI (sRest q x a))) 0 0 (fun _ => False) := by
  refine Met.ofW (cc := cX1_restOf) (maxL := 4) (ret := (some .int)) (by decide +kernel) rfl ?_
  intro p e s m args below meth c s₁ B hml hv
  obtain ⟨rfl, hG⟩ := hv
  have hx := B.exec
  have hb := B.bytes
  have hrt := B.returns
  have hts : ∀ w ∈ wsU, w.before _ s = true := fun w h => atoms_spec (ws := wsX1_restOf) B.pre w (List.mem_cons_of_mem _ h)
  have hown : s.vm.findClass "NoiseRingModel" = some m.cls := findClass_of_methodNamed B.named
  have hlocks := B.notSynchronized
  have hl := lv_entry ([.ref (mo ω), .int (iI (x)), .int (iI (a))]) (n := 4) (Nat.le_of_ble_eq_true rfl)
  rw [lg_entry_eq]
  generalize (lg_sl ([.ref (mo ω), .int (iI (x)), .int (iI (a))]) ++ List.replicate (4 - (lg_sl ([.ref (mo ω), .int (iI (x)), .int (iI (a))])).length) Slot.unset).toArray = ls at hl ⊢
  have hl : lv_has ls 4 [(0, .ref (mo ω)), (1, .int (iI (x))), (2, .int (iI (a)))] := hl
  have hn := sNear_in (x := x) a1
  refine lv_iload_n hx hb dX1_restOf_0 rfl (lv_at hl 1 rfl) ?_
  refine lv_iload_n hx hb dX1_restOf_1 rfl (lv_at hl 2 rfl) ?_
  refine vp_callSi (va_Run.run (va_runS (As := [.int (iI (x)), .int (iI (a))]) (rest := []) ⟨hx, hb, hml, hown, hts⟩ (m_rest l (x) (a) (by omega) (by omega) (by omega) (by omega)) (va_cwS 2 hts (gU (hd := [.methodLink "NoiseRingModel" 59 yX1_rest, .static yX1_rest, .initialized "NoiseRingModel"]) (List.forall_mem_cons.mpr ⟨u385, List.forall_mem_cons.mpr ⟨u386, List.forall_mem_cons.mpr ⟨u30, fun _ h => by cases h⟩⟩⟩) u387) rfl rfl rfl (by decide +kernel) ⟨Nat.le_of_ble_eq_true rfl, Nat.le_of_ble_eq_true rfl⟩) gn_S rfl rfl hl.1 rfl (lv_room (Nat.le_of_ble_eq_true rfl)) dX1_restOf_2 ⟨Nat.le_of_ble_eq_true rfl, Nat.le_of_ble_eq_true rfl⟩)) (fun r2 hr2 => ?_)
  subst hr2
  refine lv_istore_n (lv' := [(3, .int (iI ((sNear (x) (a))))), (0, .ref (mo ω)), (1, .int (iI (x))), (2, .int (iI (a)))]) hx hb dX1_restOf_5 rfl hl (by decide) rfl (fun ls hl => ?_)
  refine lv_iload_n hx hb dX1_restOf_6 rfl (lv_at hl 2 rfl) ?_
  refine lv_iload_n hx hb dX1_restOf_7 rfl (lv_at hl 0 rfl) ?_
  refine ix_isub hx hb dX1_restOf_8 ?_
  refine lv_aload_n hx hb dX1_restOf_9 rfl (lv_at hl 1 rfl) ?_
  refine gm_get hx hb hts hown hG 2 (by decide) rfl u326 dX1_restOf_10 ?_
  refine ix_iconst hx hb dX1_restOf_13 ?_
  refine ix_isub hx hb dX1_restOf_14 ?_
  refine ix_icmp_ne (tgt := 24) hx hb (by omega) (by omega) (by omega) (by omega) dX1_restOf_15 (by decide) (fun h15 => ?_) (fun h15 => ?_)
  · skip
    refine lv_iload_n hx hb dX1_restOf_24 rfl (lv_at hl 0 rfl) ?_
    exact W.iret hx hb hrt (fun t ht hW => ⟨_, rfl, congrArg iI (by unfold sRest; first | rw [if_pos (by omega)] | rw [if_neg (by omega)]), ht⟩) t_nil dX1_restOf_25
  · skip
    refine lv_iload_n hx hb dX1_restOf_18 rfl (lv_at hl 0 rfl) ?_
    refine ix_iconst hx hb dX1_restOf_19 ?_
    refine ix_isub hx hb dX1_restOf_20 ?_
    refine lv_goto (tgt := 25) hx hb dX1_restOf_21 (by decide) ?_
    exact W.iret hx hb hrt (fun t ht hW => ⟨_, rfl, congrArg iI (by unfold sRest; first | rw [if_pos (by omega)] | rw [if_neg (by omega)]), ht⟩) t_nil dX1_restOf_25
set_option maxHeartbeats 4000000 in
set_option maxRecDepth 100000 in
theorem m_partOf (l : Launch) (ω : WM) (th k q : Int) (M : Nat → Nat → Int) (f : Nat → Int) (x a : Int) (hq1 : 3329 ≤ q) (hq2 : q ≤ 8380417) (x1 : 0 ≤ x) (x2 : x < q) (a1 : 0 < a) (a2 : a < 8380417) : Met l yX1_partOf wsX1_partOf ({ frames := 1, cells := 0, slots := 0, locals := 22 }) (va_Pc [.ref (mo ω), .int (iI (x)), .int (iI (a))] (fun U => GM ω th k q M f U U.heap)) (vp_Si (fun r_ => r_ = iI (sPart q x a))) 0 0 (fun _ => False) := by
  refine Met.ofW (cc := cX1_partOf) (maxL := 4) (ret := (some .int)) (by decide +kernel) rfl ?_
  intro p e s m args below meth c s₁ B hml hv
  obtain ⟨rfl, hG⟩ := hv
  have hx := B.exec
  have hb := B.bytes
  have hrt := B.returns
  have hts : ∀ w ∈ wsU, w.before _ s = true := fun w h => atoms_spec (ws := wsX1_partOf) B.pre w (List.mem_cons_of_mem _ h)
  have hown : s.vm.findClass "NoiseRingModel" = some m.cls := findClass_of_methodNamed B.named
  have hlocks := B.notSynchronized
  have hl := lv_entry ([.ref (mo ω), .int (iI (x)), .int (iI (a))]) (n := 4) (Nat.le_of_ble_eq_true rfl)
  rw [lg_entry_eq]
  generalize (lg_sl ([.ref (mo ω), .int (iI (x)), .int (iI (a))]) ++ List.replicate (4 - (lg_sl ([.ref (mo ω), .int (iI (x)), .int (iI (a))])).length) Slot.unset).toArray = ls at hl ⊢
  have hl : lv_has ls 4 [(0, .ref (mo ω)), (1, .int (iI (x))), (2, .int (iI (a)))] := hl
  have hn := sNear_in (x := x) a1
  have hn2 := sNear_low x1 a1
  refine lv_iload_n hx hb dX1_partOf_0 rfl (lv_at hl 1 rfl) ?_
  refine lv_iload_n hx hb dX1_partOf_1 rfl (lv_at hl 2 rfl) ?_
  refine vp_callSi (va_Run.run (va_runS (As := [.int (iI (x)), .int (iI (a))]) (rest := []) ⟨hx, hb, hml, hown, hts⟩ (m_rest l (x) (a) (by omega) (by omega) (by omega) (by omega)) (va_cwS 2 hts (gU (hd := [.methodLink "NoiseRingModel" 59 yX1_rest, .static yX1_rest, .initialized "NoiseRingModel"]) (List.forall_mem_cons.mpr ⟨u385, List.forall_mem_cons.mpr ⟨u386, List.forall_mem_cons.mpr ⟨u30, fun _ h => by cases h⟩⟩⟩) u387) rfl rfl rfl (by decide +kernel) ⟨Nat.le_of_ble_eq_true rfl, Nat.le_of_ble_eq_true rfl⟩) gn_S rfl rfl hl.1 rfl (lv_room (Nat.le_of_ble_eq_true rfl)) dX1_partOf_2 ⟨Nat.le_of_ble_eq_true rfl, Nat.le_of_ble_eq_true rfl⟩)) (fun r2 hr2 => ?_)
  subst hr2
  refine lv_istore_n (lv' := [(3, .int (iI ((sNear (x) (a))))), (0, .ref (mo ω)), (1, .int (iI (x))), (2, .int (iI (a)))]) hx hb dX1_partOf_5 rfl hl (by decide) rfl (fun ls hl => ?_)
  refine lv_iload_n hx hb dX1_partOf_6 rfl (lv_at hl 2 rfl) ?_
  refine lv_iload_n hx hb dX1_partOf_7 rfl (lv_at hl 0 rfl) ?_
  refine ix_isub hx hb dX1_partOf_8 ?_
  refine lv_aload_n hx hb dX1_partOf_9 rfl (lv_at hl 1 rfl) ?_
  refine gm_get hx hb hts hown hG 2 (by decide) rfl u326 dX1_partOf_10 ?_
  refine ix_iconst hx hb dX1_partOf_13 ?_
  refine ix_isub hx hb dX1_partOf_14 ?_
  refine ix_icmp_ne (tgt := 22) hx hb (by omega) (by omega) (by omega) (by omega) dX1_partOf_15 (by decide) (fun h15 => ?_) (fun h15 => ?_)
  · skip
    refine lv_iload_n hx hb dX1_partOf_22 rfl (lv_at hl 2 rfl) ?_
    refine lv_iload_n hx hb dX1_partOf_23 rfl (lv_at hl 0 rfl) ?_
    refine ix_isub hx hb dX1_partOf_24 ?_
    refine lv_iload_n hx hb dX1_partOf_25 rfl (lv_at hl 3 rfl) ?_
    refine ix_idiv hx hb (by omega) (by omega) (by omega) (by omega) dX1_partOf_26 ?_
    exact W.iret hx hb hrt (fun t ht hW => ⟨_, rfl, congrArg iI (by unfold sPart; first | rw [if_pos (by omega)] | rw [if_neg (by omega)]), ht⟩) t_nil dX1_partOf_27
  · skip
    refine ix_iconst hx hb dX1_partOf_18 ?_
    refine lv_goto (tgt := 27) hx hb dX1_partOf_19 (by decide) ?_
    exact W.iret hx hb hrt (fun t ht hW => ⟨_, rfl, congrArg iI (by unfold sPart; first | rw [if_pos (by omega)] | rw [if_neg (by omega)]), ht⟩) t_nil dX1_partOf_27
set_option maxHeartbeats 4000000 in
set_option maxRecDepth 100000 in
theorem m_bit (l : Launch)  (low high : Int64) (n : Nat) (n2 : n < 96) : Met l yX1_bit wsX1_bit ({ frames := 0, cells := 0, slots := 0, locals := 0 }) (va_Pc [.long (low), .long (high), .int (iI (n))] (fun _ => True)) (vp_Si (fun r_ => r_ = iI (sBit low high n))) 0 0 (fun _ => False) := by
  refine Met.ofW (cc := cX1_bit) (maxL := 5) (ret := (some .int)) (by decide +kernel) rfl ?_
  intro p e s m args below meth c s₁ B hml hv
  obtain ⟨rfl, hG⟩ := hv
  have hx := B.exec
  have hb := B.bytes
  have hrt := B.returns
  have hts : ∀ w ∈ wsU, w.before _ s = true := fun w h => atoms_spec (ws := wsX1_bit) B.pre w (List.mem_cons_of_mem _ h)
  have hown : s.vm.findClass "NoiseRingModel" = some m.cls := findClass_of_methodNamed B.named
  have hlocks := B.notSynchronized
  have hl := lv_entry ([.long (low), .long (high), .int (iI (n))]) (n := 5) (Nat.le_of_ble_eq_true rfl)
  rw [lg_entry_eq]
  generalize (lg_sl ([.long (low), .long (high), .int (iI (n))]) ++ List.replicate (5 - (lg_sl ([.long (low), .long (high), .int (iI (n))])).length) Slot.unset).toArray = ls at hl ⊢
  have hl : lv_has ls 5 [(0, .long (low)), (2, .long (high)), (4, .int (iI (n)))] := hl
  refine lv_iload hx hb dX1_bit_0 (lv_at hl 2 rfl) ?_
  refine ix_bipush hx hb (by decide) dX1_bit_2 ?_
  refine ix_icmp_ge (tgt := 14) hx hb (by omega) (by omega) (by omega) (by omega) dX1_bit_4 (by decide) (fun h4 => ?_) (fun h4 => ?_)
  · skip
    refine lv_lload_n hx hb dX1_bit_14 rfl (lv_at hl 1 rfl) ?_
    refine lv_iload hx hb dX1_bit_15 (lv_at hl 2 rfl) ?_
    refine ix_bipush hx hb (by decide) dX1_bit_17 ?_
    refine ix_isub hx hb dX1_bit_19 ?_
    refine wx_i (congrArg iI (show ((n : Nat) : Int) - 64 = ((n - 64 : Nat) : Int) by omega)) ?_
    refine lv_lushr hx hb dX1_bit_20 rfl ?_
    refine ix_lconst1 hx hb dX1_bit_21 ?_
    refine lv_land hx hb dX1_bit_22 ?_
    refine wx_l ((lI_bit high (k := n - 64) (by omega)).trans (congrArg lI (show ((high.toBitVec.toNat / 2 ^ ((n - 64) % 64) % 2 : Nat) : Int) = sBit low high n from ?_))) ?_
    · unfold sBit; rw [if_neg (by omega), show (n - 64) % 64 = n - 64 by omega]
    refine ix_l2i hx hb dX1_bit_23 ?_
    exact W.iret hx hb hrt (fun t ht hW => ⟨_, rfl, rfl, ht⟩) t_nil dX1_bit_24
  · skip
    refine lv_lload_n hx hb dX1_bit_7 rfl (lv_at hl 0 rfl) ?_
    refine lv_iload hx hb dX1_bit_8 (lv_at hl 2 rfl) ?_
    refine lv_lushr hx hb dX1_bit_10 rfl ?_
    refine lv_goto (tgt := 21) hx hb dX1_bit_11 (by decide) ?_
    refine ix_lconst1 hx hb dX1_bit_21 ?_
    refine lv_land hx hb dX1_bit_22 ?_
    refine wx_l ((lI_bit low (k := n) (by omega)).trans (congrArg lI (show ((low.toBitVec.toNat / 2 ^ ((n) % 64) % 2 : Nat) : Int) = sBit low high n from ?_))) ?_
    · unfold sBit; rw [if_pos (by omega), show (n) % 64 = n by omega]
    refine ix_l2i hx hb dX1_bit_23 ?_
    exact W.iret hx hb hrt (fun t ht hW => ⟨_, rfl, rfl, ht⟩) t_nil dX1_bit_24
set_option maxHeartbeats 4000000 in
set_option maxRecDepth 100000 in
theorem m_power (l : Launch) (ω : WM) (th k q : Int) (M : Nat → Nat → Int) (f : Nat → Int) (b : Int) (n : Nat) (hq1 : 3329 ≤ q) (hq2 : q ≤ 8380417) (b1 : 0 ≤ b) (b2 : b < 8380417) (n2 : n < 1000) : Met l yX1_power wsX1_power ({ frames := 0, cells := 0, slots := 0, locals := 0 }) (va_Pc [.ref (mo ω), .int (iI (b)), .int (iI (n))] (fun U => GM ω th k q M f U U.heap)) (vp_Si (fun r_ => r_ = iI (sPow q b n))) 0 0 (fun _ => False) := by
  refine Met.ofW (cc := cX1_power) (maxL := 6) (ret := (some .int)) (by decide +kernel) rfl ?_
  intro p e s m args below meth c s₁ B hml hv
  obtain ⟨rfl, hG⟩ := hv
  have hx := B.exec
  have hb := B.bytes
  have hrt := B.returns
  have hts : ∀ w ∈ wsU, w.before _ s = true := fun w h => atoms_spec (ws := wsX1_power) B.pre w (List.mem_cons_of_mem _ h)
  have hown : s.vm.findClass "NoiseRingModel" = some m.cls := findClass_of_methodNamed B.named
  have hlocks := B.notSynchronized
  have hl := lv_entry ([.ref (mo ω), .int (iI (b)), .int (iI (n))]) (n := 6) (Nat.le_of_ble_eq_true rfl)
  rw [lg_entry_eq]
  generalize (lg_sl ([.ref (mo ω), .int (iI (b)), .int (iI (n))]) ++ List.replicate (6 - (lg_sl ([.ref (mo ω), .int (iI (b)), .int (iI (n))])).length) Slot.unset).toArray = ls at hl ⊢
  have hl : lv_has ls 6 [(0, .ref (mo ω)), (1, .int (iI (b))), (2, .int (iI (n)))] := hl
  refine ix_lconst1 hx hb dX1_power_0 ?_
  refine wx_l (congrArg lI (sPow_0 (q := q) (b := b) (by omega)).symm) ?_
  refine lv_lstore_n (lv' := [(3, .long (lI (sPow q b 0))), (0, .ref (mo ω)), (1, .int (iI (b))), (2, .int (iI (n)))]) hx hb dX1_power_1 rfl hl (by decide) rfl (fun ls hl => ?_)
  refine ix_iconst hx hb dX1_power_2 ?_
  refine lv_istore (lv' := [(5, .int (iI (0))), (3, .long (lI (sPow q b 0))), (0, .ref (mo ω)), (1, .int (iI (b))), (2, .int (iI (n)))]) hx hb dX1_power_3 hl (by decide) rfl (fun ls hl => ?_)
  refine ix_loop (I := fun j ls => lv_has ls 6 [(5, .int (iI ((j : Nat)))), (3, .long (lI (sPow q b (j)))), (2, .int (iI (n))), (1, .int (iI (b))), (0, .ref (mo ω))]) (n) 0 (by omega) (lv_sub hl [0, 1, 4, 3, 2] rfl) (fun ls hl => ?_) (fun j ls hj hl ih5 => ?_)
  · skip
    have hl : lv_has ls 6 [(5, .int (iI ((n : Nat)))), (3, .long (lI (sPow q b (n)))), (2, .int (iI (n))), (1, .int (iI (b))), (0, .ref (mo ω))] := hl
    refine lv_iload hx hb dX1_power_5 (lv_at hl 0 rfl) ?_
    refine lv_iload_n hx hb dX1_power_7 rfl (lv_at hl 2 rfl) ?_
    refine ix_icmp_ge (tgt := 28) hx hb (by omega) (by omega) (by omega) (by omega) dX1_power_8 (by decide) (fun h8 => ?_) (fun h8 => absurd h8 (by omega))
    refine lv_lload_n hx hb dX1_power_28 rfl (lv_at hl 1 rfl) ?_
    refine ix_l2i hx hb dX1_power_29 ?_
    exact W.iret hx hb hrt (fun t ht hW => ⟨_, rfl, rfl, ht⟩) t_nil dX1_power_30
  · skip
    have hl : lv_has ls 6 [(5, .int (iI ((j : Nat)))), (3, .long (lI (sPow q b (j)))), (2, .int (iI (n))), (1, .int (iI (b))), (0, .ref (mo ω))] := hl
    refine lv_iload hx hb dX1_power_5 (lv_at hl 0 rfl) ?_
    refine lv_iload_n hx hb dX1_power_7 rfl (lv_at hl 2 rfl) ?_
    refine ix_icmp_ge (tgt := 28) hx hb (by omega) (by omega) (by omega) (by omega) dX1_power_8 (by decide) (fun h8 => absurd h8 (by omega)) (fun h8 => ?_)
    have hp := sPow_in (q := q) (b := b) (by omega) j
    have hp1 : 0 ≤ sPow q b j * b := Int.mul_nonneg hp.1 b1
    have hp2 : sPow q b j * b ≤ 8380417 * 8380417 := Int.mul_le_mul (by omega) (by omega) b1 (by decide)
    refine lv_lload_n hx hb dX1_power_11 rfl (lv_at hl 1 rfl) ?_
    refine lv_iload_n hx hb dX1_power_12 rfl (lv_at hl 3 rfl) ?_
    refine ix_i2l hx hb (by omega) (by omega) dX1_power_13 ?_
    refine ix_lmul hx hb dX1_power_14 ?_
    refine lv_aload_n hx hb dX1_power_15 rfl (lv_at hl 4 rfl) ?_
    refine gm_get hx hb hts hown hG 2 (by decide) rfl u326 dX1_power_16 ?_
    refine ix_i2l hx hb (by omega) (by omega) dX1_power_19 ?_
    refine ix_lrem hx hb (by omega) (by omega) (by omega) (by omega) dX1_power_20 ?_
    refine wx_l (congrArg lI (sPow_s (q := q) (b := b) j)) ?_
    refine lv_lstore_n (lv' := [(3, .long (lI (sPow q b (j + 1)))), (5, .int (iI ((j : Nat)))), (2, .int (iI (n))), (1, .int (iI (b))), (0, .ref (mo ω))]) hx hb dX1_power_21 rfl hl (by decide) rfl (fun ls hl => ?_)
    refine lv_iinc (k := 1) (v := iI ((j : Nat) + 1)) (lv' := [(5, .int (iI ((j : Nat) + 1))), (3, .long (lI (sPow q b (j + 1)))), (2, .int (iI (n))), (1, .int (iI (b))), (0, .ref (mo ω))]) hx hb dX1_power_22 hl rfl (iI_add _ _) (by decide) rfl (fun ls hl => ?_)
    refine lv_goto (tgt := 5) hx hb dX1_power_25 (by decide) ?_
    exact ih5 ls (lv_sub hl [0, 1, 2, 3, 4] rfl)
set_option maxHeartbeats 4000000 in
set_option maxRecDepth 100000 in
theorem m_root (l : Launch) (ω : WM) (th k q : Int) (M : Nat → Nat → Int) (f : Nat → Int)  (hq1 : 3329 ≤ q) (hq2 : q ≤ 8380417) (k1 : 0 ≤ k) (k2 : k ≤ 1) (qk : q = kQ k) : Met l yX1_root wsX1_root ({ frames := 1, cells := 0, slots := 0, locals := 25 }) (va_Pc [.ref (mo ω)] (fun U => GM ω th k q M f U U.heap)) (vp_Si (fun r_ => r_ = iI (kZ k))) 0 0 (fun _ => False) := by
  refine Met.ofW (cc := cX1_root) (maxL := 1) (ret := (some .int)) (by decide +kernel) rfl ?_
  intro p e s m args below meth c s₁ B hml hv
  obtain ⟨rfl, hG⟩ := hv
  have hx := B.exec
  have hb := B.bytes
  have hrt := B.returns
  have hts : ∀ w ∈ wsU, w.before _ s = true := fun w h => atoms_spec (ws := wsX1_root) B.pre w (List.mem_cons_of_mem _ h)
  have hown : s.vm.findClass "NoiseRingModel" = some m.cls := findClass_of_methodNamed B.named
  have hlocks := B.notSynchronized
  have hl := lv_entry ([.ref (mo ω)]) (n := 1) (Nat.le_of_ble_eq_true rfl)
  rw [lg_entry_eq]
  generalize (lg_sl ([.ref (mo ω)]) ++ List.replicate (1 - (lg_sl ([.ref (mo ω)])).length) Slot.unset).toArray = ls at hl ⊢
  have hl : lv_has ls 1 [(0, .ref (mo ω))] := hl
  refine lv_aload_n hx hb dX1_root_0 rfl (lv_at hl 0 rfl) ?_
  refine lv_aload_n hx hb dX1_root_1 rfl (lv_at hl 0 rfl) ?_
  refine gm_get hx hb hts hown hG 1 (by decide) rfl u325 dX1_root_2 ?_
  refine ix_if_ne (tgt := 13) hx hb (by omega) (by omega) dX1_root_5 (by decide) (fun h5 => ?_) (fun h5 => ?_)
  · skip
    refine ix_sipush hx hb (by decide) dX1_root_13 ?_
    refine ix_bipush hx hb (by decide) dX1_root_16 ?_
    refine vp_callSi (va_Run.run (va_runV (As := [.int (iI (1753)), .int (iI (16))]) (rest := []) ⟨hx, hb, hml, hown, hts⟩ (m_power l ω th k q M f (1753) (16) hq1 hq2 (by omega) (by omega) (by omega)) (cwV 2 hts (gU (hd := [.methodLink "NoiseRingModel" 79 yX1_power, .instanceMethod yX1_power, .selects "NoiseRingModel" yX1_power yX1_power, .initialized "NoiseRingModel"]) (List.forall_mem_cons.mpr ⟨u436, List.forall_mem_cons.mpr ⟨u437, List.forall_mem_cons.mpr ⟨u26, List.forall_mem_cons.mpr ⟨u30, fun _ h => by cases h⟩⟩⟩⟩) u438) rfl rfl rfl (by decide +kernel) ⟨Nat.le_of_ble_eq_true rfl, Nat.le_of_ble_eq_true rfl⟩) (gm_V hG) rfl rfl hl.1 rfl (lv_room (Nat.le_of_ble_eq_true rfl)) dX1_root_18 ⟨Nat.le_of_ble_eq_true rfl, Nat.le_of_ble_eq_true rfl⟩)) (fun r18 hr18 => ?_)
    subst hr18
    exact W.iret hx hb hrt (fun t ht hW => ⟨_, rfl, congrArg iI (by subst qk; unfold kZ sPow kB; first | rw [if_pos (by omega)] | rw [if_neg (by omega)]), ht⟩) t_nil dX1_root_21
  · skip
    refine ix_bipush hx hb (by decide) dX1_root_8 ?_
    refine lv_goto (tgt := 16) hx hb dX1_root_10 (by decide) ?_
    refine ix_bipush hx hb (by decide) dX1_root_16 ?_
    refine vp_callSi (va_Run.run (va_runV (As := [.int (iI (17)), .int (iI (16))]) (rest := []) ⟨hx, hb, hml, hown, hts⟩ (m_power l ω th k q M f (17) (16) hq1 hq2 (by omega) (by omega) (by omega)) (cwV 2 hts (gU (hd := [.methodLink "NoiseRingModel" 79 yX1_power, .instanceMethod yX1_power, .selects "NoiseRingModel" yX1_power yX1_power, .initialized "NoiseRingModel"]) (List.forall_mem_cons.mpr ⟨u436, List.forall_mem_cons.mpr ⟨u437, List.forall_mem_cons.mpr ⟨u26, List.forall_mem_cons.mpr ⟨u30, fun _ h => by cases h⟩⟩⟩⟩) u438) rfl rfl rfl (by decide +kernel) ⟨Nat.le_of_ble_eq_true rfl, Nat.le_of_ble_eq_true rfl⟩) (gm_V hG) rfl rfl hl.1 rfl (lv_room (Nat.le_of_ble_eq_true rfl)) dX1_root_18 ⟨Nat.le_of_ble_eq_true rfl, Nat.le_of_ble_eq_true rfl⟩)) (fun r18 hr18 => ?_)
    subst hr18
    exact W.iret hx hb hrt (fun t ht hW => ⟨_, rfl, congrArg iI (by subst qk; unfold kZ sPow kB; first | rw [if_pos (by omega)] | rw [if_neg (by omega)]), ht⟩) t_nil dX1_root_21
set_option maxHeartbeats 4000000 in
set_option maxRecDepth 100000 in
theorem m_along1 (l : Launch) (ω : WM) (th k q : Int) (M : Nat → Nat → Int) (f : Nat → Int) (r : Nat) (x : Int) (hr : r < 12)  (hq1 : 3329 ≤ q) (hq2 : q ≤ 8380417) (hM : ∀ r i, r < 12 → i < 16 → 0 ≤ M r i ∧ M r i < q) (x1 : 0 ≤ x) (x2 : x < q) : Met l yX1_along wsX1_along ({ frames := 1, cells := 0, slots := 0, locals := 22 }) (va_Pc [.ref (mo ω), .int (iI (r)), .int (iI (0)), .int (iI (1)), .long (lI (x))] (fun U => GM ω th k q M f U U.heap)) (vp_Si (fun r_ => r_ = iI (sPol (fun u => M r (0 + u)) x 16 % q))) 0 0 (fun _ => False) := by
  refine Met.ofW (cc := cX1_along) (maxL := 9) (ret := (some .int)) (by decide +kernel) rfl ?_
  intro p e s m args below meth c s₁ B hml hv
  obtain ⟨rfl, hG⟩ := hv
  have hx := B.exec
  have hb := B.bytes
  have hrt := B.returns
  have hts : ∀ w ∈ wsU, w.before _ s = true := fun w h => atoms_spec (ws := wsX1_along) B.pre w (List.mem_cons_of_mem _ h)
  have hown : s.vm.findClass "NoiseRingModel" = some m.cls := findClass_of_methodNamed B.named
  have hlocks := B.notSynchronized
  have hl := lv_entry ([.ref (mo ω), .int (iI (r)), .int (iI (0)), .int (iI (1)), .long (lI (x))]) (n := 9) (Nat.le_of_ble_eq_true rfl)
  rw [lg_entry_eq]
  generalize (lg_sl ([.ref (mo ω), .int (iI (r)), .int (iI (0)), .int (iI (1)), .long (lI (x))]) ++ List.replicate (9 - (lg_sl ([.ref (mo ω), .int (iI (r)), .int (iI (0)), .int (iI (1)), .long (lI (x))])).length) Slot.unset).toArray = ls at hl ⊢
  have hl : lv_has ls 9 [(0, .ref (mo ω)), (1, .int (iI (r))), (2, .int (iI (0))), (3, .int (iI (1))), (4, .long (lI (x)))] := hl
  refine ix_lconst0 hx hb dX1_along_0 ?_
  refine wx_l (congrArg lI (show (0 : Int) = sPol (fun u => M r (0 + (16 - (0) + u))) x (0) % q from (Int.zero_emod q).symm)) ?_
  refine lv_lstore (lv' := [(6, .long (lI (sPol (fun u => M r (0 + (16 - (0) + u))) x (0) % q))), (0, .ref (mo ω)), (1, .int (iI (r))), (2, .int (iI (0))), (3, .int (iI (1))), (4, .long (lI (x)))]) hx hb dX1_along_1 hl (by decide) rfl (fun ls hl => ?_)
  refine ix_bipush hx hb (by decide) dX1_along_3 ?_
  refine lv_iload_n hx hb dX1_along_5 rfl (lv_at hl 4 rfl) ?_
  refine ix_isub hx hb dX1_along_6 ?_
  refine lv_iload_n hx hb dX1_along_7 rfl (lv_at hl 3 rfl) ?_
  refine ix_iadd hx hb dX1_along_8 ?_
  refine wx_i (congrArg iI (show ((16 - 1) + 0) = 15 - ((0 : Nat) : Int) by omega)) ?_
  refine lv_istore (lv' := [(8, .int (iI (15 - ((0 : Nat) : Int)))), (6, .long (lI (sPol (fun u => M r (0 + (16 - (0) + u))) x (0) % q))), (0, .ref (mo ω)), (1, .int (iI (r))), (2, .int (iI (0))), (3, .int (iI (1))), (4, .long (lI (x)))]) hx hb dX1_along_9 hl (by decide) rfl (fun ls hl => ?_)
  refine ix_loop (I := fun t ls => lv_has ls 9 [(8, .int (iI (15 - ((t : Nat) : Int)))), (6, .long (lI (sPol (fun u => M r (0 + (16 - (t) + u))) x (t) % q))), (0, .ref (mo ω)), (1, .int (iI (r))), (3, .int (iI (1))), (4, .long (lI (x)))]) (16) 0 (by omega) (lv_sub hl [0, 1, 2, 3, 5, 6] rfl) (fun ls hl => ?_) (fun t ls ht hl ih11 => ?_)
  · skip
    have hl : lv_has ls 9 [(8, .int (iI (15 - ((16 : Nat) : Int)))), (6, .long (lI (sPol (fun u => M r (0 + (16 - (16) + u))) x (16) % q))), (0, .ref (mo ω)), (1, .int (iI (r))), (3, .int (iI (1))), (4, .long (lI (x)))] := hl
    refine lv_iload hx hb dX1_along_11 (lv_at hl 0 rfl) ?_
    refine ix_if_lt (tgt := 47) hx hb (by omega) (by omega) dX1_along_13 (by decide) (fun h13 => ?_) (fun h13 => absurd h13 (by omega))
    refine lv_lload hx hb dX1_along_47 (lv_at hl 1 rfl) ?_
    refine ix_l2i hx hb dX1_along_49 ?_
    exact W.iret hx hb hrt (fun t ht hW => ⟨_, rfl, congrArg iI (pol_cut (q := q) (x := x) (fun u => M r (0 + u)) 16), ht⟩) t_nil dX1_along_50
  · skip
    have hl : lv_has ls 9 [(8, .int (iI (15 - ((t : Nat) : Int)))), (6, .long (lI (sPol (fun u => M r (0 + (16 - (t) + u))) x (t) % q))), (0, .ref (mo ω)), (1, .int (iI (r))), (3, .int (iI (1))), (4, .long (lI (x)))] := hl
    refine lv_iload hx hb dX1_along_11 (lv_at hl 0 rfl) ?_
    refine ix_if_lt (tgt := 47) hx hb (by omega) (by omega) dX1_along_13 (by decide) (fun h13 => absurd h13 (by omega)) (fun h13 => ?_)
    have hm := hM r (0 + (16 - 1 - t)) hr (by omega)
    have hs1 := Int.emod_nonneg (sPol (fun u => M r (0 + (16 - (t) + u))) x (t)) (show q ≠ 0 by omega)
    have hs2 := Int.emod_lt_of_pos (sPol (fun u => M r (0 + (16 - (t) + u))) x (t)) (show 0 < q by omega)
    have hp1 : 0 ≤ (sPol (fun u => M r (0 + (16 - (t) + u))) x (t) % q) * x := Int.mul_nonneg hs1 x1
    have hp2 : (sPol (fun u => M r (0 + (16 - (t) + u))) x (t) % q) * x ≤ 8380417 * 8380417 := Int.mul_le_mul (by omega) (by omega) x1 (by decide)
    refine lv_lload hx hb dX1_along_16 (lv_at hl 1 rfl) ?_
    refine lv_lload hx hb dX1_along_18 (lv_at hl 5 rfl) ?_
    refine ix_lmul hx hb dX1_along_20 ?_
    refine lv_aload_n hx hb dX1_along_21 rfl (lv_at hl 2 rfl) ?_
    refine lv_iload_n hx hb dX1_along_22 rfl (lv_at hl 3 rfl) ?_
    refine lv_iload hx hb dX1_along_23 (lv_at hl 0 rfl) ?_
    refine wx_i (congrArg iI (show 15 - ((t : Nat) : Int) = ((0 + (16 - 1 - t) : Nat) : Int) by omega)) ?_
    refine vp_callSi (va_Run.run (va_runV (As := [.int (iI (r)), .int (iI ((0 + (16 - 1 - t) : Nat)))]) (rest := [.long (lI ((sPol (fun u => M r (0 + (16 - (t) + u))) x (t) % q * x)))]) ⟨hx, hb, hml, hown, hts⟩ (m_at l ω th k q M f (r) (0 + (16 - 1 - t)) (by omega) (by omega)) (cwV 2 hts (gU (hd := [.methodLink "NoiseRingModel" 45 yX1_at, .instanceMethod yX1_at, .selects "NoiseRingModel" yX1_at yX1_at, .initialized "NoiseRingModel"]) (List.forall_mem_cons.mpr ⟨u356, List.forall_mem_cons.mpr ⟨u357, List.forall_mem_cons.mpr ⟨u16, List.forall_mem_cons.mpr ⟨u30, fun _ h => by cases h⟩⟩⟩⟩) u358) rfl rfl rfl (by decide +kernel) ⟨Nat.le_of_ble_eq_true rfl, Nat.le_of_ble_eq_true rfl⟩) (gm_V hG) rfl rfl hl.1 rfl (lv_room (Nat.le_of_ble_eq_true rfl)) dX1_along_25 ⟨Nat.le_of_ble_eq_true rfl, Nat.le_of_ble_eq_true rfl⟩)) (fun r25 hr25 => ?_)
    subst hr25
    refine ix_i2l hx hb (by omega) (by omega) dX1_along_28 ?_
    refine ix_ladd hx hb dX1_along_29 ?_
    refine lv_aload_n hx hb dX1_along_30 rfl (lv_at hl 2 rfl) ?_
    refine gm_get hx hb hts hown hG 2 (by decide) rfl u326 dX1_along_31 ?_
    refine ix_i2l hx hb (by omega) (by omega) dX1_along_34 ?_
    refine ix_lrem hx hb (by omega) (by omega) (by omega) (by omega) dX1_along_35 ?_
    refine wx_l (congrArg lI (hor_step (q := q) (x := x) (fun u => M r (0 + u)) 16 t ht)) ?_
    refine lv_lstore (lv' := [(6, .long (lI (sPol (fun u => M r (0 + (16 - (t + 1) + u))) x (t + 1) % q))), (8, .int (iI (15 - ((t : Nat) : Int)))), (0, .ref (mo ω)), (1, .int (iI (r))), (3, .int (iI (1))), (4, .long (lI (x)))]) hx hb dX1_along_36 hl (by decide) rfl (fun ls hl => ?_)
    refine lv_iload hx hb dX1_along_38 (lv_at hl 1 rfl) ?_
    refine lv_iload_n hx hb dX1_along_40 rfl (lv_at hl 4 rfl) ?_
    refine ix_isub hx hb dX1_along_41 ?_
    refine wx_i (congrArg iI (show (15 - ((t : Nat) : Int) - 1) = 15 - ((t + 1 : Nat) : Int) by omega)) ?_
    refine lv_istore (lv' := [(8, .int (iI (15 - ((t + 1 : Nat) : Int)))), (6, .long (lI (sPol (fun u => M r (0 + (16 - (t + 1) + u))) x (t + 1) % q))), (0, .ref (mo ω)), (1, .int (iI (r))), (3, .int (iI (1))), (4, .long (lI (x)))]) hx hb dX1_along_42 hl (by decide) rfl (fun ls hl => ?_)
    refine lv_goto (tgt := 11) hx hb dX1_along_44 (by decide) ?_
    exact ih11 ls (lv_sub hl [0, 1, 2, 3, 4, 5] rfl)
set_option maxHeartbeats 4000000 in
set_option maxRecDepth 100000 in
theorem m_along2 (l : Launch) (ω : WM) (th k q : Int) (M : Nat → Nat → Int) (f : Nat → Int) (r first : Nat) (x : Int) (hr : r < 12) (f2 : first < 2) (hq1 : 3329 ≤ q) (hq2 : q ≤ 8380417) (hM : ∀ r i, r < 12 → i < 16 → 0 ≤ M r i ∧ M r i < q) (x1 : 0 ≤ x) (x2 : x < q) : Met l yX1_along wsX1_along ({ frames := 1, cells := 0, slots := 0, locals := 22 }) (va_Pc [.ref (mo ω), .int (iI (r)), .int (iI (first)), .int (iI (2)), .long (lI (x))] (fun U => GM ω th k q M f U U.heap)) (vp_Si (fun r_ => r_ = iI (sPol (fun u => M r (first + 2 * u)) x 8 % q))) 0 0 (fun _ => False) := by
  refine Met.ofW (cc := cX1_along) (maxL := 9) (ret := (some .int)) (by decide +kernel) rfl ?_
  intro p e s m args below meth c s₁ B hml hv
  obtain ⟨rfl, hG⟩ := hv
  have hx := B.exec
  have hb := B.bytes
  have hrt := B.returns
  have hts : ∀ w ∈ wsU, w.before _ s = true := fun w h => atoms_spec (ws := wsX1_along) B.pre w (List.mem_cons_of_mem _ h)
  have hown : s.vm.findClass "NoiseRingModel" = some m.cls := findClass_of_methodNamed B.named
  have hlocks := B.notSynchronized
  have hl := lv_entry ([.ref (mo ω), .int (iI (r)), .int (iI (first)), .int (iI (2)), .long (lI (x))]) (n := 9) (Nat.le_of_ble_eq_true rfl)
  rw [lg_entry_eq]
  generalize (lg_sl ([.ref (mo ω), .int (iI (r)), .int (iI (first)), .int (iI (2)), .long (lI (x))]) ++ List.replicate (9 - (lg_sl ([.ref (mo ω), .int (iI (r)), .int (iI (first)), .int (iI (2)), .long (lI (x))])).length) Slot.unset).toArray = ls at hl ⊢
  have hl : lv_has ls 9 [(0, .ref (mo ω)), (1, .int (iI (r))), (2, .int (iI (first))), (3, .int (iI (2))), (4, .long (lI (x)))] := hl
  refine ix_lconst0 hx hb dX1_along_0 ?_
  refine wx_l (congrArg lI (show (0 : Int) = sPol (fun u => M r (first + 2 * (8 - (0) + u))) x (0) % q from (Int.zero_emod q).symm)) ?_
  refine lv_lstore (lv' := [(6, .long (lI (sPol (fun u => M r (first + 2 * (8 - (0) + u))) x (0) % q))), (0, .ref (mo ω)), (1, .int (iI (r))), (2, .int (iI (first))), (3, .int (iI (2))), (4, .long (lI (x)))]) hx hb dX1_along_1 hl (by decide) rfl (fun ls hl => ?_)
  refine ix_bipush hx hb (by decide) dX1_along_3 ?_
  refine lv_iload_n hx hb dX1_along_5 rfl (lv_at hl 4 rfl) ?_
  refine ix_isub hx hb dX1_along_6 ?_
  refine lv_iload_n hx hb dX1_along_7 rfl (lv_at hl 3 rfl) ?_
  refine ix_iadd hx hb dX1_along_8 ?_
  refine wx_i (congrArg iI (show ((16 - 2) + first) = (first : Int) + 14 - 2 * ((0 : Nat) : Int) by omega)) ?_
  refine lv_istore (lv' := [(8, .int (iI ((first : Int) + 14 - 2 * ((0 : Nat) : Int)))), (6, .long (lI (sPol (fun u => M r (first + 2 * (8 - (0) + u))) x (0) % q))), (0, .ref (mo ω)), (1, .int (iI (r))), (2, .int (iI (first))), (3, .int (iI (2))), (4, .long (lI (x)))]) hx hb dX1_along_9 hl (by decide) rfl (fun ls hl => ?_)
  refine ix_loop (I := fun t ls => lv_has ls 9 [(8, .int (iI ((first : Int) + 14 - 2 * ((t : Nat) : Int)))), (6, .long (lI (sPol (fun u => M r (first + 2 * (8 - (t) + u))) x (t) % q))), (0, .ref (mo ω)), (1, .int (iI (r))), (3, .int (iI (2))), (4, .long (lI (x)))]) (8) 0 (by omega) (lv_sub hl [0, 1, 2, 3, 5, 6] rfl) (fun ls hl => ?_) (fun t ls ht hl ih11 => ?_)
  · skip
    have hl : lv_has ls 9 [(8, .int (iI ((first : Int) + 14 - 2 * ((8 : Nat) : Int)))), (6, .long (lI (sPol (fun u => M r (first + 2 * (8 - (8) + u))) x (8) % q))), (0, .ref (mo ω)), (1, .int (iI (r))), (3, .int (iI (2))), (4, .long (lI (x)))] := hl
    refine lv_iload hx hb dX1_along_11 (lv_at hl 0 rfl) ?_
    refine ix_if_lt (tgt := 47) hx hb (by omega) (by omega) dX1_along_13 (by decide) (fun h13 => ?_) (fun h13 => absurd h13 (by omega))
    refine lv_lload hx hb dX1_along_47 (lv_at hl 1 rfl) ?_
    refine ix_l2i hx hb dX1_along_49 ?_
    exact W.iret hx hb hrt (fun t ht hW => ⟨_, rfl, congrArg iI (pol_cut (q := q) (x := x) (fun u => M r (first + 2 * u)) 8), ht⟩) t_nil dX1_along_50
  · skip
    have hl : lv_has ls 9 [(8, .int (iI ((first : Int) + 14 - 2 * ((t : Nat) : Int)))), (6, .long (lI (sPol (fun u => M r (first + 2 * (8 - (t) + u))) x (t) % q))), (0, .ref (mo ω)), (1, .int (iI (r))), (3, .int (iI (2))), (4, .long (lI (x)))] := hl
    refine lv_iload hx hb dX1_along_11 (lv_at hl 0 rfl) ?_
    refine ix_if_lt (tgt := 47) hx hb (by omega) (by omega) dX1_along_13 (by decide) (fun h13 => absurd h13 (by omega)) (fun h13 => ?_)
    have hm := hM r (first + 2 * (8 - 1 - t)) hr (by omega)
    have hs1 := Int.emod_nonneg (sPol (fun u => M r (first + 2 * (8 - (t) + u))) x (t)) (show q ≠ 0 by omega)
    have hs2 := Int.emod_lt_of_pos (sPol (fun u => M r (first + 2 * (8 - (t) + u))) x (t)) (show 0 < q by omega)
    have hp1 : 0 ≤ (sPol (fun u => M r (first + 2 * (8 - (t) + u))) x (t) % q) * x := Int.mul_nonneg hs1 x1
    have hp2 : (sPol (fun u => M r (first + 2 * (8 - (t) + u))) x (t) % q) * x ≤ 8380417 * 8380417 := Int.mul_le_mul (by omega) (by omega) x1 (by decide)
    refine lv_lload hx hb dX1_along_16 (lv_at hl 1 rfl) ?_
    refine lv_lload hx hb dX1_along_18 (lv_at hl 5 rfl) ?_
    refine ix_lmul hx hb dX1_along_20 ?_
    refine lv_aload_n hx hb dX1_along_21 rfl (lv_at hl 2 rfl) ?_
    refine lv_iload_n hx hb dX1_along_22 rfl (lv_at hl 3 rfl) ?_
    refine lv_iload hx hb dX1_along_23 (lv_at hl 0 rfl) ?_
    refine wx_i (congrArg iI (show (first : Int) + 14 - 2 * ((t : Nat) : Int) = ((first + 2 * (8 - 1 - t) : Nat) : Int) by omega)) ?_
    refine vp_callSi (va_Run.run (va_runV (As := [.int (iI (r)), .int (iI ((first + 2 * (8 - 1 - t) : Nat)))]) (rest := [.long (lI ((sPol (fun u => M r (first + 2 * (8 - (t) + u))) x (t) % q * x)))]) ⟨hx, hb, hml, hown, hts⟩ (m_at l ω th k q M f (r) (first + 2 * (8 - 1 - t)) (by omega) (by omega)) (cwV 2 hts (gU (hd := [.methodLink "NoiseRingModel" 45 yX1_at, .instanceMethod yX1_at, .selects "NoiseRingModel" yX1_at yX1_at, .initialized "NoiseRingModel"]) (List.forall_mem_cons.mpr ⟨u356, List.forall_mem_cons.mpr ⟨u357, List.forall_mem_cons.mpr ⟨u16, List.forall_mem_cons.mpr ⟨u30, fun _ h => by cases h⟩⟩⟩⟩) u358) rfl rfl rfl (by decide +kernel) ⟨Nat.le_of_ble_eq_true rfl, Nat.le_of_ble_eq_true rfl⟩) (gm_V hG) rfl rfl hl.1 rfl (lv_room (Nat.le_of_ble_eq_true rfl)) dX1_along_25 ⟨Nat.le_of_ble_eq_true rfl, Nat.le_of_ble_eq_true rfl⟩)) (fun r25 hr25 => ?_)
    subst hr25
    refine ix_i2l hx hb (by omega) (by omega) dX1_along_28 ?_
    refine ix_ladd hx hb dX1_along_29 ?_
    refine lv_aload_n hx hb dX1_along_30 rfl (lv_at hl 2 rfl) ?_
    refine gm_get hx hb hts hown hG 2 (by decide) rfl u326 dX1_along_31 ?_
    refine ix_i2l hx hb (by omega) (by omega) dX1_along_34 ?_
    refine ix_lrem hx hb (by omega) (by omega) (by omega) (by omega) dX1_along_35 ?_
    refine wx_l (congrArg lI (hor_step (q := q) (x := x) (fun u => M r (first + 2 * u)) 8 t ht)) ?_
    refine lv_lstore (lv' := [(6, .long (lI (sPol (fun u => M r (first + 2 * (8 - (t + 1) + u))) x (t + 1) % q))), (8, .int (iI ((first : Int) + 14 - 2 * ((t : Nat) : Int)))), (0, .ref (mo ω)), (1, .int (iI (r))), (3, .int (iI (2))), (4, .long (lI (x)))]) hx hb dX1_along_36 hl (by decide) rfl (fun ls hl => ?_)
    refine lv_iload hx hb dX1_along_38 (lv_at hl 1 rfl) ?_
    refine lv_iload_n hx hb dX1_along_40 rfl (lv_at hl 4 rfl) ?_
    refine ix_isub hx hb dX1_along_41 ?_
    refine wx_i (congrArg iI (show ((first : Int) + 14 - 2 * ((t : Nat) : Int) - 2) = (first : Int) + 14 - 2 * ((t + 1 : Nat) : Int) by omega)) ?_
    refine lv_istore (lv' := [(8, .int (iI ((first : Int) + 14 - 2 * ((t + 1 : Nat) : Int)))), (6, .long (lI (sPol (fun u => M r (first + 2 * (8 - (t + 1) + u))) x (t + 1) % q))), (0, .ref (mo ω)), (1, .int (iI (r))), (3, .int (iI (2))), (4, .long (lI (x)))]) hx hb dX1_along_42 hl (by decide) rfl (fun ls hl => ?_)
    refine lv_goto (tgt := 11) hx hb dX1_along_44 (by decide) ?_
    exact ih11 ls (lv_sub hl [0, 1, 2, 3, 4, 5] rfl)
set_option maxHeartbeats 4000000 in
set_option maxRecDepth 100000 in
theorem m_valueOf (l : Launch) (ω : WM) (th k q : Int) (M : Nat → Nat → Int) (f : Nat → Int) (r i : Nat) (hr : r < 12) (hi : i < 16) (hq1 : 3329 ≤ q) (hq2 : q ≤ 8380417) (hM : ∀ r i, r < 12 → i < 16 → 0 ≤ M r i ∧ M r i < q) (k1 : 0 ≤ k) (k2 : k ≤ 1) (qk : q = kQ k) : Met l yX1_valueOf wsX1_valueOf ({ frames := 2, cells := 0, slots := 0, locals := 50 }) (va_Pc [.ref (mo ω), .int (iI (r)), .int (iI (i))] (fun U => GM ω th k q M f U U.heap)) (vp_Si (fun r_ => r_ = iI (sVal k (M r) i))) 0 0 (fun _ => False) := by
  refine Met.ofW (cc := cX1_valueOf) (maxL := 4) (ret := (some .int)) (by decide +kernel) rfl ?_
  intro p e s m args below meth c s₁ B hml hv
  obtain ⟨rfl, hG⟩ := hv
  have hx := B.exec
  have hb := B.bytes
  have hrt := B.returns
  have hts : ∀ w ∈ wsU, w.before _ s = true := fun w h => atoms_spec (ws := wsX1_valueOf) B.pre w (List.mem_cons_of_mem _ h)
  have hown : s.vm.findClass "NoiseRingModel" = some m.cls := findClass_of_methodNamed B.named
  have hlocks := B.notSynchronized
  have hl := lv_entry ([.ref (mo ω), .int (iI (r)), .int (iI (i))]) (n := 4) (Nat.le_of_ble_eq_true rfl)
  rw [lg_entry_eq]
  generalize (lg_sl ([.ref (mo ω), .int (iI (r)), .int (iI (i))]) ++ List.replicate (4 - (lg_sl ([.ref (mo ω), .int (iI (r)), .int (iI (i))])).length) Slot.unset).toArray = ls at hl ⊢
  have hl : lv_has ls 4 [(0, .ref (mo ω)), (1, .int (iI (r))), (2, .int (iI (i)))] := hl
  have hz : 0 ≤ kZ k ∧ kZ k < q := by
    rw [qk]
    exact sPow_in (q := kQ k) (b := kB k) (by have := kQ_in (k := k); omega) 16
  refine lv_aload_n hx hb dX1_valueOf_0 rfl (lv_at hl 0 rfl) ?_
  refine vp_callSi (va_Run.run (va_runV (As := []) (rest := []) ⟨hx, hb, hml, hown, hts⟩ (m_root l ω th k q M f hq1 hq2 (by omega) (by omega) qk) (cwV 0 hts (gU (hd := [.methodLink "NoiseRingModel" 82 yX1_root, .instanceMethod yX1_root, .selects "NoiseRingModel" yX1_root yX1_root, .initialized "NoiseRingModel"]) (List.forall_mem_cons.mpr ⟨u433, List.forall_mem_cons.mpr ⟨u434, List.forall_mem_cons.mpr ⟨u25, List.forall_mem_cons.mpr ⟨u30, fun _ h => by cases h⟩⟩⟩⟩) u435) rfl rfl rfl (by decide +kernel) ⟨Nat.le_of_ble_eq_true rfl, Nat.le_of_ble_eq_true rfl⟩) (gm_V hG) rfl rfl hl.1 rfl (lv_room (Nat.le_of_ble_eq_true rfl)) dX1_valueOf_1 ⟨Nat.le_of_ble_eq_true rfl, Nat.le_of_ble_eq_true rfl⟩)) (fun r1 hr1 => ?_)
  subst hr1
  refine lv_istore_n (lv' := [(3, .int (iI ((kZ k)))), (0, .ref (mo ω)), (1, .int (iI (r))), (2, .int (iI (i)))]) hx hb dX1_valueOf_4 rfl hl (by decide) rfl (fun ls hl => ?_)
  refine lv_aload_n hx hb dX1_valueOf_5 rfl (lv_at hl 1 rfl) ?_
  refine gm_get hx hb hts hown hG 1 (by decide) rfl u325 dX1_valueOf_6 ?_
  refine ix_iconst hx hb dX1_valueOf_9 ?_
  refine ix_icmp_ne (tgt := 34) hx hb (by omega) (by omega) (by omega) (by omega) dX1_valueOf_10 (by decide) (fun h10 => ?_) (fun h10 => ?_)
  · skip
    refine lv_aload_n hx hb dX1_valueOf_34 rfl (lv_at hl 1 rfl) ?_
    refine lv_iload_n hx hb dX1_valueOf_35 rfl (lv_at hl 2 rfl) ?_
    refine lv_iload_n hx hb dX1_valueOf_36 rfl (lv_at hl 3 rfl) ?_
    refine ix_iconst hx hb dX1_valueOf_37 ?_
    refine ix_irem hx hb (by omega) (by omega) (by omega) (by omega) dX1_valueOf_38 ?_
    refine wx_i (congrArg iI (show ((i : Nat) : Int) % 2 = ((i % 2 : Nat) : Int) by omega)) ?_
    refine ix_iconst hx hb dX1_valueOf_39 ?_
    refine lv_aload_n hx hb dX1_valueOf_40 rfl (lv_at hl 1 rfl) ?_
    refine lv_iload_n hx hb dX1_valueOf_41 rfl (lv_at hl 0 rfl) ?_
    refine ix_iconst hx hb dX1_valueOf_42 ?_
    refine lv_iload_n hx hb dX1_valueOf_43 rfl (lv_at hl 3 rfl) ?_
    refine ix_iconst hx hb dX1_valueOf_44 ?_
    refine ix_idiv hx hb (by omega) (by omega) (by omega) (by omega) dX1_valueOf_45 ?_
    refine ix_imul hx hb dX1_valueOf_46 ?_
    refine ix_iconst hx hb dX1_valueOf_47 ?_
    refine ix_iadd hx hb dX1_valueOf_48 ?_
    refine wx_i (congrArg iI (show (2 * (i / 2)) + 1 = ((2 * (i / 2) + 1 : Nat) : Int) by omega)) ?_
    have hpw := sPow_in (q := q) (b := kZ k) (by omega) (2 * (i / 2) + 1)
    refine vp_callSi (va_Run.run (va_runV (As := [.int (iI ((kZ k))), .int (iI ((2 * (i / 2) + 1 : Nat)))]) (rest := [.int (iI (2)), .int (iI ((i % 2 : Nat))), .int (iI (r)), .ref (mo ω)]) ⟨hx, hb, hml, hown, hts⟩ (m_power l ω th k q M f ((kZ k)) (2 * (i / 2) + 1) hq1 hq2 (by omega) (by omega) (by omega)) (cwV 2 hts (gU (hd := [.methodLink "NoiseRingModel" 79 yX1_power, .instanceMethod yX1_power, .selects "NoiseRingModel" yX1_power yX1_power, .initialized "NoiseRingModel"]) (List.forall_mem_cons.mpr ⟨u436, List.forall_mem_cons.mpr ⟨u437, List.forall_mem_cons.mpr ⟨u26, List.forall_mem_cons.mpr ⟨u30, fun _ h => by cases h⟩⟩⟩⟩) u438) rfl rfl rfl (by decide +kernel) ⟨Nat.le_of_ble_eq_true rfl, Nat.le_of_ble_eq_true rfl⟩) (gm_V hG) rfl rfl hl.1 rfl (lv_room (Nat.le_of_ble_eq_true rfl)) dX1_valueOf_49 ⟨Nat.le_of_ble_eq_true rfl, Nat.le_of_ble_eq_true rfl⟩)) (fun r49 hr49 => ?_)
    subst hr49
    refine ix_i2l hx hb (by omega) (by omega) dX1_valueOf_52 ?_
    refine vp_callSi (va_Run.run (va_runV (As := [.int (iI (r)), .int (iI ((i % 2 : Nat))), .int (iI (2)), .long (lI ((sPow q ((kZ k)) (2 * (i / 2) + 1))))]) (rest := []) ⟨hx, hb, hml, hown, hts⟩ (m_along2 l ω th k q M f (r) (i % 2) ((sPow q ((kZ k)) (2 * (i / 2) + 1))) (by omega) (by omega) hq1 hq2 hM (by omega) (by omega)) (cwV 4 hts (gU (hd := [.methodLink "NoiseRingModel" 86 yX1_along, .instanceMethod yX1_along, .selects "NoiseRingModel" yX1_along yX1_along, .initialized "NoiseRingModel"]) (List.forall_mem_cons.mpr ⟨u439, List.forall_mem_cons.mpr ⟨u440, List.forall_mem_cons.mpr ⟨u27, List.forall_mem_cons.mpr ⟨u30, fun _ h => by cases h⟩⟩⟩⟩) u441) rfl rfl rfl (by decide +kernel) ⟨Nat.le_of_ble_eq_true rfl, Nat.le_of_ble_eq_true rfl⟩) (gm_V hG) rfl rfl hl.1 rfl (lv_room (Nat.le_of_ble_eq_true rfl)) dX1_valueOf_53 ⟨Nat.le_of_ble_eq_true rfl, Nat.le_of_ble_eq_true rfl⟩)) (fun r53 hr53 => ?_)
    subst hr53
    exact W.iret hx hb hrt (fun t ht hW => ⟨_, rfl, congrArg iI (by subst qk; unfold sVal; first | (rw [if_neg (by omega)]; simp) | rw [if_pos (by omega)]), ht⟩) t_nil dX1_valueOf_56
  · skip
    refine lv_aload_n hx hb dX1_valueOf_13 rfl (lv_at hl 1 rfl) ?_
    refine lv_iload_n hx hb dX1_valueOf_14 rfl (lv_at hl 2 rfl) ?_
    refine ix_iconst hx hb dX1_valueOf_15 ?_
    refine ix_iconst hx hb dX1_valueOf_16 ?_
    refine lv_aload_n hx hb dX1_valueOf_17 rfl (lv_at hl 1 rfl) ?_
    refine lv_iload_n hx hb dX1_valueOf_18 rfl (lv_at hl 0 rfl) ?_
    refine ix_iconst hx hb dX1_valueOf_19 ?_
    refine lv_iload_n hx hb dX1_valueOf_20 rfl (lv_at hl 3 rfl) ?_
    refine ix_imul hx hb dX1_valueOf_21 ?_
    refine ix_iconst hx hb dX1_valueOf_22 ?_
    refine ix_iadd hx hb dX1_valueOf_23 ?_
    refine wx_i (congrArg iI (show (2 * i) + 1 = ((2 * i + 1 : Nat) : Int) by omega)) ?_
    have hpw := sPow_in (q := q) (b := kZ k) (by omega) (2 * i + 1)
    refine vp_callSi (va_Run.run (va_runV (As := [.int (iI ((kZ k))), .int (iI ((2 * i + 1 : Nat)))]) (rest := [.int (iI (1)), .int (iI (0)), .int (iI (r)), .ref (mo ω)]) ⟨hx, hb, hml, hown, hts⟩ (m_power l ω th k q M f ((kZ k)) (2 * i + 1) hq1 hq2 (by omega) (by omega) (by omega)) (cwV 2 hts (gU (hd := [.methodLink "NoiseRingModel" 79 yX1_power, .instanceMethod yX1_power, .selects "NoiseRingModel" yX1_power yX1_power, .initialized "NoiseRingModel"]) (List.forall_mem_cons.mpr ⟨u436, List.forall_mem_cons.mpr ⟨u437, List.forall_mem_cons.mpr ⟨u26, List.forall_mem_cons.mpr ⟨u30, fun _ h => by cases h⟩⟩⟩⟩) u438) rfl rfl rfl (by decide +kernel) ⟨Nat.le_of_ble_eq_true rfl, Nat.le_of_ble_eq_true rfl⟩) (gm_V hG) rfl rfl hl.1 rfl (lv_room (Nat.le_of_ble_eq_true rfl)) dX1_valueOf_24 ⟨Nat.le_of_ble_eq_true rfl, Nat.le_of_ble_eq_true rfl⟩)) (fun r24 hr24 => ?_)
    subst hr24
    refine ix_i2l hx hb (by omega) (by omega) dX1_valueOf_27 ?_
    refine vp_callSi (va_Run.run (va_runV (As := [.int (iI (r)), .int (iI (0)), .int (iI (1)), .long (lI ((sPow q ((kZ k)) (2 * i + 1))))]) (rest := []) ⟨hx, hb, hml, hown, hts⟩ (m_along1 l ω th k q M f (r) ((sPow q ((kZ k)) (2 * i + 1))) (by omega) hq1 hq2 hM (by omega) (by omega)) (cwV 4 hts (gU (hd := [.methodLink "NoiseRingModel" 86 yX1_along, .instanceMethod yX1_along, .selects "NoiseRingModel" yX1_along yX1_along, .initialized "NoiseRingModel"]) (List.forall_mem_cons.mpr ⟨u439, List.forall_mem_cons.mpr ⟨u440, List.forall_mem_cons.mpr ⟨u27, List.forall_mem_cons.mpr ⟨u30, fun _ h => by cases h⟩⟩⟩⟩) u441) rfl rfl rfl (by decide +kernel) ⟨Nat.le_of_ble_eq_true rfl, Nat.le_of_ble_eq_true rfl⟩) (gm_V hG) rfl rfl hl.1 rfl (lv_room (Nat.le_of_ble_eq_true rfl)) dX1_valueOf_28 ⟨Nat.le_of_ble_eq_true rfl, Nat.le_of_ble_eq_true rfl⟩)) (fun r28 hr28 => ?_)
    subst hr28
    refine lv_goto (tgt := 56) hx hb dX1_valueOf_31 (by decide) ?_
    exact W.iret hx hb hrt (fun t ht hW => ⟨_, rfl, congrArg iI (by subst qk; unfold sVal; first | (rw [if_neg (by omega)]; simp) | rw [if_pos (by omega)]), ht⟩) t_nil dX1_valueOf_56
end
section
/-! The throw itself: new, dup, ldc, invokespecial, athrow, for a class whose constructor passes its message on to its superclass's (any pool number). -/
/-- the words of the heap: Throwable's two statics -/
def tx_hp : List Cond := [.isRef (.static Bundle.tN "UNASSIGNED_STACK" Bundle.steD), .isRef (.static Bundle.tN "SUPPRESSED_SENTINEL" Bundle.listD), .laysStatic Bundle.tN "UNASSIGNED_STACK" Bundle.steD, .laysStatic Bundle.tN "SUPPRESSED_SENTINEL" Bundle.listD]
def tx_at (own : String) (ic : Nat) (X Y : String) (i7 : Nat) (bytes : ByteArray) (names : List String) : List Cond :=
  Bundle.throwableAtoms ++ (Bundle.throwableSAtoms ++ (Bundle.passSAtoms X Y i7 bytes ++ (Bundle.chainSAtoms Y names ++
  [.methodLink own ic (Bundle.initS X), .instantiable X 6, .selects X Bundle.tFill0 Bundle.tFill0, .selects X Bundle.tFill Bundle.tFill,
   .lays X Bundle.tN "cause" "Ljava/lang/Throwable;", .lays X Bundle.tN "stackTrace" Bundle.steD, .lays X Bundle.tN "suppressedExceptions" Bundle.listD, .lays X Bundle.tN "detailMessage" "Ljava/lang/String;",
   .isRef (.static Bundle.tN "UNASSIGNED_STACK" Bundle.steD), .isRef (.static Bundle.tN "SUPPRESSED_SENTINEL" Bundle.listD),
   .fieldLink Bundle.tN 198 Bundle.tN "backtrace" "Ljava/lang/Object;", .lays Bundle.tN Bundle.tN "backtrace" "Ljava/lang/Object;", .lays X Bundle.tN "backtrace" "Ljava/lang/Object;"])))
section TXO
variable {p : Program} {l : Launch} {e : Env} {R : Room} {s : State} {m : MethodId} {args : Array Value} {below : List Frame} {meth : Method} {c : Code} {V : State} {locs : List Loc} {cells slots : Nat}
set_option maxHeartbeats 4000000 in
theorem tx_ctor (X : Stand p l e R s m args below meth c V locs cells slots) (hexec : p.tables.exec = Jvm.exec) (htr : e.platform.stackTraces = false) {own cls sup : String} {names : List String} {ic i7 : Nat} {bytes : ByteArray}
    (hown : s.vm.findClass own = some m.cls) (hcls : Bundle.fit cls = true) (hsup : Bundle.fit sup = true) (hnames : ∀ n ∈ names, Bundle.fit n = true)
    (b0 : decode bytes 0 = .ok (.aload_n 0, 1)) (b1 : decode bytes 1 = .ok (.aload_n 1, 1)) (b2 : decode bytes 2 = .ok (.invokespecial i7, 3)) (b5 : decode bytes 5 = .ok (.return_, 1))
    (h : ∀ a ∈ tx_at own ic cls sup i7 bytes names, a.before args s = true)
    (hlocs : ∀ x ∈ locs, ∀ cell, s.heap[x.base]? = some cell → cell.vm.isStatics = false)
    {a : Addr} {cX : ClassId} {kX : Class} (hfoundX : s.vm.findClass cls = some cX) (hkX : s.vm.classes[cX]? = some kX) (hcell : V.heap[a]? = some (freshCell cX kX)) (hnew : s.heap.size ≤ a)
    {msg : Value} (hmsg : msg.isRef = true)
    {g : JFrame} (hg : g.method = m) (hsize : g.locals.size = c.maxLocals) (hlocked : g.locked = none) (hentered : g.entered = []) {rest : List Value} (hstack : g.stack = msg :: .ref a :: .ref a :: rest)
    (hd6 : decode c.code g.pc = .ok (.invokespecial ic, 3)) (hd9 : decode c.code (g.pc + 3) = .ok (.athrow, 1)) (hout : ∀ x ∈ c.exceptionTable.toList, covers x (g.pc + 3) = false)
    (hRframes : names.length + 4 < R.frames) (hRlocals : 2 * g.monitorRoom + ((Value.ref a :: rest).map fun v => v.category).sum + (13 * (names.length + 2) + 42) ≤ R.locals) (hlocks : meth.locks = false) :
    ∃ U : State, Steps p.tables e below (V.setTop g) U ∧ U.status = .running ∧ Ended U below (.threw a) ∧ s.WarmedH U.vm ∧ s.sameButNew ({ U with vm := s.vm } : State) locs cells slots ∧
      V.heap.size ≤ U.heap.size ∧ (∀ r : Nat, r ≠ a → U.heap[r]? = V.heap[r]?) ∧ ∃ ce : Cell, U.heap[a]? = some ce ∧ ce.vm = .none ∧ ce.cls = cX := by
  have howns : e.platform.frameOwnsMonitors = true := by rw [X.admits.platform]
  have hfin : e.platform.finalization = false := by rw [X.admits.platform]
  have hpl : e.platform.magicAccessors = ({} : Platform).magicAccessors := by rw [X.admits.platform]
  have a' : ∀ x, x ∈ tx_at own ic cls sup i7 bytes names → x.holds args s none s [] = true := fun x hx => h x hx
  have m1 : ∀ x ∈ Bundle.throwableAtoms, x ∈ tx_at own ic cls sup i7 bytes names := fun x hx => List.mem_append_left _ hx
  have m2 : ∀ x ∈ Bundle.throwableSAtoms, x ∈ tx_at own ic cls sup i7 bytes names := fun x hx => List.mem_append_right _ (List.mem_append_left _ hx)
  have m3 : ∀ x ∈ Bundle.passSAtoms cls sup i7 bytes, x ∈ tx_at own ic cls sup i7 bytes names := fun x hx => List.mem_append_right _ (List.mem_append_right _ (List.mem_append_left _ hx))
  have m4 : ∀ x ∈ Bundle.chainSAtoms sup names, x ∈ tx_at own ic cls sup i7 bytes names := fun x hx => List.mem_append_right _ (List.mem_append_right _ (List.mem_append_right _ (List.mem_append_left _ hx)))
  have m5 : ∀ x ∈ ([.methodLink own ic (Bundle.initS cls), .instantiable cls 6, .selects cls Bundle.tFill0 Bundle.tFill0, .selects cls Bundle.tFill Bundle.tFill,
   .lays cls Bundle.tN "cause" "Ljava/lang/Throwable;", .lays cls Bundle.tN "stackTrace" Bundle.steD, .lays cls Bundle.tN "suppressedExceptions" Bundle.listD, .lays cls Bundle.tN "detailMessage" "Ljava/lang/String;",
   .isRef (.static Bundle.tN "UNASSIGNED_STACK" Bundle.steD), .isRef (.static Bundle.tN "SUPPRESSED_SENTINEL" Bundle.listD),
   .fieldLink Bundle.tN 198 Bundle.tN "backtrace" "Ljava/lang/Object;", .lays Bundle.tN Bundle.tN "backtrace" "Ljava/lang/Object;", .lays cls Bundle.tN "backtrace" "Ljava/lang/Object;"] : List Cond), x ∈ tx_at own ic cls sup i7 bytes names :=
    fun x hx => List.mem_append_right _ (List.mem_append_right _ (List.mem_append_right _ (List.mem_append_right _ hx)))
  obtain ⟨T, Z0, L, -, Y⟩ := ThrowableC.of_atoms (args := args) howns hfin hpl (fun x hx => h x (m1 x hx))
  obtain ⟨Z, M, LZ, LM, hnZ⟩ := Init0T.ofS_atoms (args := args) hpl L Y (fun x hx => h x (m2 x hx))
  obtain ⟨P1, Ps, hlen, L1, hL, hP1m, hlink1, hlink⟩ := Bundle.chainS (args := args) hpl hnZ names sup hsup hnames (fun x hx => h x (m4 x hx))
  obtain ⟨P0, L0, hP0m, hP0s⟩ := PassC.ofS_atoms (args := args) (s := s) hpl (X := cls) (Y := sup) (Bundle.fit_spec hcls).1 (Bundle.fit_spec hsup).2 b0 b1 b2 b5 (fun x hx => h x (m3 x hx))
  have hfound : s.vm.findClass cls = some P0.m.cls := findClass_of_methodNamed hP0m
  cases Option.some.inj (hfoundX.symm.trans hfound)
  obtain ⟨c1, kX', hc1, hk, hord, -, -, hn6⟩ := Cond.instantiable_spec (a' (.instantiable cls 6) (m5 _ (by simp)))
  cases Option.some.inj (hc1.symm.trans hfound)
  cases Option.some.inj (hkX.symm.trans hk)
  have hsel0 : selectMethod e.platform s.vm P0.m.cls T.fill0 = .method T.fill0 := by
    obtain ⟨c2, r2, m2, q1, q2, q3, q4, -⟩ := Cond.selects_spec (a' (.selects cls Bundle.tFill0 Bundle.tFill0) (m5 _ (by simp)))
    cases Option.some.inj (q1.symm.trans hfound)
    cases Option.some.inj (q2.symm.trans (State.methodFound?_of_named Y.fill0 (by decide)))
    cases Option.some.inj (q3.symm.trans Y.fill0)
    rw [Launch.admits_selectMethod X.admits]; exact q4
  have hselF : selectMethod e.platform s.vm P0.m.cls T.fill = .method T.fill := by
    obtain ⟨c2, r2, m2, q1, q2, q3, q4, -⟩ := Cond.selects_spec (a' (.selects cls Bundle.tFill Bundle.tFill) (m5 _ (by simp)))
    cases Option.some.inj (q1.symm.trans hfound)
    cases Option.some.inj (q2.symm.trans (State.methodFound?_of_named Y.fill (by decide)))
    cases Option.some.inj (q3.symm.trans Y.fill)
    rw [Launch.admits_selectMethod X.admits]; exact q4
  obtain ⟨cellS0, hcS0, hiss⟩ := Y.statics
  obtain ⟨u0, hu0⟩ := Cond.staticRefV Y.unassigned L.unassignedStatic L.statics hcS0 hiss (a' (.isRef (.static Bundle.tN "UNASSIGNED_STACK" Bundle.steD)) (m5 _ (by simp)))
  obtain ⟨sen, hsen⟩ := Cond.staticRefV Y.sentinel L.sentinelStatic L.statics hcS0 hiss (a' (.isRef (.static Bundle.tN "SUPPRESSED_SENTINEL" Bundle.listD)) (m5 _ (by simp)))
  obtain ⟨ci198, i198, fB, hk198, hg198, ha198, hsB, -, hnB, htB, hffB⟩ := Cond.ownField (t := .object "java/lang/Object") Y.found L.cls (by decide +kernel) (a' (.fieldLink Bundle.tN 198 Bundle.tN "backtrace" "Ljava/lang/Object;") (m5 _ (by simp))) (a' (.lays Bundle.tN Bundle.tN "backtrace" "Ljava/lang/Object;") (m5 _ (by simp))) e.platform hpl
  obtain ⟨cellS, hcS', heS, -, hkeep⟩ := X.same.2.2.2.2.2 T.aS cellS0 hcS0
  have hcellS : V.heap[T.aS]? = some cellS := hcS'
  have hout' : ∀ i, (⟨T.aS, i⟩ : Loc) ∉ locs := fun i hmem => by
    have := hlocs _ hmem cellS0 hcS0
    rw [hiss] at this; cases this
  have hknownS : cellS.vm ≠ .unknown := by
    rw [heS]; intro hu
    rw [show cellS0.vm = .unknown from hu] at hiss
    cases hiss
  have hneS : T.aS ≠ a := Nat.ne_of_lt (Nat.lt_of_lt_of_le (Array.getElem?_eq_some_iff.mp hcS0).1 hnew)
  obtain ⟨iM, hffM⟩ := Y.msg
  obtain ⟨tyC, dC, hdC, hdnC⟩ := Cond.laysAt hfound hk Y.cause (a' (.lays cls Bundle.tN "cause" "Ljava/lang/Throwable;") (m5 _ (by simp)))
  obtain ⟨tyS, dS, hdS, hdnS⟩ := Cond.laysAt hfound hk Y.stack (a' (.lays cls Bundle.tN "stackTrace" Bundle.steD) (m5 _ (by simp)))
  obtain ⟨tyP, dP, hdP, hdnP⟩ := Cond.laysAt hfound hk Y.supp (a' (.lays cls Bundle.tN "suppressedExceptions" Bundle.listD) (m5 _ (by simp)))
  obtain ⟨tyM, dM, hdM, hdnM⟩ := Cond.laysAt hfound hk hffM (a' (.lays cls Bundle.tN "detailMessage" "Ljava/lang/String;") (m5 _ (by simp)))
  obtain ⟨tyB, dB, hdB, hdnB⟩ := Cond.laysAt hfound hk hffB (a' (.lays cls Bundle.tN "backtrace" "Ljava/lang/Object;") (m5 _ (by simp)))
  have bC := Cond.laysApart hdB hdC hdnB hdnC (by rw [hnB, Y.causeName]; decide)
  have bS := Cond.laysApart hdB hdS hdnB hdnS (by rw [hnB, Y.stackName]; decide)
  have bP := Cond.laysApart hdB hdP hdnB hdnP (by rw [hnB, Y.suppName]; decide)
  have hskip : SkipFacts T e.platform s (fun u => u) u0 ((preparedCellV T.toThrowableT (freshCell P0.m.cls kX) a u0 sen).withEntry V.cur) :=
    ⟨{ ci198 := ci198, i198 := i198, fBack := fB }, ⟨hk198, hg198, ha198, hsB⟩, by
      have := fresh_default (c := P0.m.cls) tyB
      rw [htB] at this
      simpa [preparedCellV, Cell.setSlot, Cell.withEntry, Array.getElem?_setIfInBounds, bC, bS, bP, bC.symm, bS.symm, bP.symm, defaultValue] using this, fun _ _ => rfl⟩
  obtain ⟨tm, methC, cdC, kC, vm₁, hnC, -, -, -, -, -, -, -, hW₁, st1⟩ := Steps.initColdS (tb := p.tables) (e := e) (below := below) (s := s) (U := V) X.here hexec X.warmed hpl hown (t := Bundle.initS cls) rfl rfl (Bundle.fit_spec hcls).2
    (a' (.methodLink own ic (Bundle.initS cls)) (m5 _ (by simp))) (h (.instanceMethod (Bundle.initS cls)) (m3 _ (by simp [Bundle.passSAtoms]))) (bytes := bytes) (maxL := 2) (h (.code (Bundle.initS cls) bytes 2 none) (m3 _ (by simp [Bundle.passSAtoms])))
    (f := g) hg (a := a) (msg := msg) (rest := .ref a :: rest) hstack hd6
  cases Option.some.inj (hnC.symm.trans hP0m)
  have X₁ := X.noted hW₁
  have hsup1 : P0.sup = P1.m := Option.some.inj (hP0s.symm.trans hP1m)
  obtain ⟨vm₂, X₂, st2⟩ := X₁.ctorMessageOffV hexec (g := { g with stack := .ref a :: rest }) hg hsize T L Z LZ M LM (P0 :: P1 :: Ps)
    (fun P hP => by
      rcases List.mem_cons.mp hP with rfl | hP
      · exact L0
      · rcases List.mem_cons.mp hP with rfl | hP
        · exact L1
        · exact hL P hP) ⟨hsup1, hlink1, hlink⟩ (u0 := u0) (sen := sen) (self := a) hmsg (cell := freshCell P0.m.cls kX) (cellS := cellS)
    hcell (fun _ => by simp) (by simp) rfl rfl hsel0 hselF hcellS hneS hknownS (by rw [hkeep _ (hout' _)]; exact hu0) (by rw [hkeep _ (hout' _)]; exact hsen)
    (Takes.of_laid hk hord tyC (by rw [Y.causeType]; rfl)) (Takes.of_laid hk hord tyS (by rw [Y.stackType]; exact fits_refV_array _ u0)) (Takes.of_laid hk hord tyP (by rw [Y.suppType]; exact fits_refV_object _ sen))
    (Takes.of_laid hk hord tyM (by rw [Y.msgType]; exact fits_refV_object _ ⟨msg, hmsg⟩)) Y.objLocals hskip htr [] hd6
    (by simp only [List.length_cons, hlen]; omega) (by simp only [List.length_cons, hlen]; exact hRlocals)
  obtain ⟨hwalk, hrun, hended, hWU, hsame⟩ := X₂.athrowLeaves hexec (g := { g with stack := .ref a :: rest, pc := g.pc + 3 }) hg hlocked hentered hout (a := a) (rest := rest) rfl hd9 hlocks
  have hlt : a < ((V.setVm vm₁).setVm vm₂).heap.size := (Array.getElem?_eq_some_iff.mp hcell).1
  have hU := heapAt_setCell_self (s := (V.setVm vm₁).setVm vm₂) (plainBareV T.toThrowableT (freshCell P0.m.cls kX) a u0 sen msg) hlt
  refine ⟨_, st1 _ (fun acts => ?_), hrun, hended, hWU, hsame.weaken (fun y hy hlt' => ?_) (Nat.le_refl _) (Nat.le_refl _), ?_, fun r hr => ?_, _, hU, ?_, ?_⟩
  · rw [doInvoke_state]
    exact st2 _ hwalk
  · rcases List.mem_append.mp hy with h1 | h1
    · exact h1
    · exfalso
      have hb : y.base = a := by
        simp only [List.mem_cons, List.not_mem_nil, or_false] at h1
        rcases h1 with rfl | rfl | rfl | rfl | rfl <;> rfl
      rw [hb] at hlt'
      exact Nat.not_lt.mpr hnew hlt'
  · show V.heap.size ≤ (((V.setVm vm₁).setVm vm₂).setCell a _).heap.size
    rw [size_setCell]
    exact Nat.le_refl _
  · show (((V.setVm vm₁).setVm vm₂).setCell a _).heap[r]? = V.heap[r]?
    rw [heapAt_setCell_ne _ (Ne.symm hr)]
    rfl
  · rfl
  · rfl
variable {Q : State → Prop} {cc : ByteArray} {pc nL : Nat} {ls : Array Slot} {Qc : Array Value → State → Outcome → State → Prop} {XC : String → State → State → Prop} {free : Addr → Prop}
set_option maxHeartbeats 4000000 in
/-- a method that throws a new exception, from its 'new' on; nothing was written before -/
theorem tx_throw (hexec : p.tables.exec = Jvm.exec) (hb : c.code = cc) (htr : l.stackTraces = false) {own cls sup tx : String} {names : List String} {ix ic i7 is sa mc ms : Nat} {bytes : ByteArray}
    (hown : s.vm.findClass own = some m.cls) (hcls : Bundle.fit cls = true) (hsup : Bundle.fit sup = true) (hnames : ∀ n ∈ names, Bundle.fit n = true)
    (b0 : decode bytes 0 = .ok (.aload_n 0, 1)) (b1 : decode bytes 1 = .ok (.aload_n 1, 1)) (b2 : decode bytes 2 = .ok (.invokespecial i7, 3)) (b5 : decode bytes 5 = .ok (.return_, 1))
    (h : ∀ a ∈ tx_at own ic cls sup i7 bytes names, a.before args s = true) (hclink : (Cond.classLink own ix cls).before args s = true) (hini : (Cond.initialized cls).before args s = true) (hstr : vk_R own is tx sa s)
    (hml : c.maxLocals = nL) (hsize : ls.size = nL) (hout : ∀ x ∈ c.exceptionTable.toList, False) (hlocks : meth.locks = false)
    (d0 : decode cc pc = .ok (.new ix, 3)) (d3 : decode cc (pc + 3) = .ok (.dup, 1)) (d4 : decode cc (pc + 3 + 1) = .ok (.ldc is, 2)) (d6 : decode cc (pc + 3 + 1 + 2) = .ok (.invokespecial ic, 3)) (d9 : decode cc (pc + 3 + 1 + 2 + 3) = .ok (.athrow, 1))
    (hR1 : names.length + 4 < R.frames) (hR2 : 13 * (names.length + 2) + 43 ≤ R.locals) (hR3 : 1 ≤ R.cells) (hR4 : 6 ≤ R.slots)
    (hx : ∀ t : State, s.vm.Alike t.vm → s.heap.size ≤ t.heap.size → (∀ q : Nat, q < s.heap.size → t.heap[q]? = s.heap[q]?) → XC cls s t) (hc1 : 1 ≤ mc) (hc2 : 6 ≤ ms) :
    W p l e R s m args below meth c s.heap [] 0 0 (vx_MQ below Qc XC args s mc ms free) (F0 m pc ls []) := by
  have hins : (Cond.instantiable cls 6).before args s = true := h _ (List.mem_append_right _ (List.mem_append_right _ (List.mem_append_right _ (List.mem_append_right _ (by simp)))))
  refine W.newc hexec hb hown hclink hins hini rfl d0 (by omega) (by omega) (fun cC kC f1 f2 f3 f4 => ?_)
  refine W.eq (g2 := F0 m (pc + 3) ls [.ref s.heap.size]) rfl ?_
  refine lv_dup hexec hb d3 rfl ?_
  refine va_ldcS hexec hb hown hstr d4 ?_
  intro V hV X
  have hcell : V.heap[s.heap.size]? = some (freshCell cC kC) := by rw [hV]; exact Array.getElem?_push_size
  obtain ⟨U, g1, g2, g3, g4, g5, g6, g7, ce, g8, g9, g10⟩ := tx_ctor X hexec (by rw [X.admits.platform]; exact htr) hown hcls hsup hnames b0 b1 b2 b5 h (fun x hx => by cases hx) f1 f2 hcell (Nat.le_refl _) (msg := .ref sa) rfl
    (g := F0 m (pc + 3 + 1 + 2) ls [.ref sa, .ref s.heap.size, .ref s.heap.size]) rfl (hsize.trans hml.symm) rfl rfl (rest := []) rfl (by rw [hb]; exact d6) (by rw [hb]; exact d9) (fun x hx => (hout x hx).elim) hR1 (by
      show 2 * 0 + (1 + 0) + _ ≤ R.locals
      omega) hlocks
  have hz : s.heap.size ≤ U.heap.size := by
    refine Nat.le_trans ?_ g6
    rw [hV, Array.size_push]
    omega
  have ho : ∀ r : Nat, r < s.heap.size → U.heap[r]? = s.heap[r]? := fun r hr => by
    rw [g7 r (Nat.ne_of_lt hr), hV, Array.getElem?_push, if_neg (Nat.ne_of_lt hr)]
  exact ⟨U, g1, .threw s.heap.size, g2, g3, Or.inr ⟨s.heap.size, rfl, cls, ce, [], hx U g4.alike hz ho, g8, g9, by rw [g10]; exact f1, g4, g5.mono hc1 hc2, fun z hz => by cases hz⟩⟩
end TXO
/-! the words of the two throws -/
theorem tx_parts {args : Array Value} {s : State} {A B : List Cond} {L : List Cond} (hL : ∀ w ∈ L, w ∈ A ∨ w ∈ B) (hA : ∀ w ∈ A, w.before args s = true) (hB : ∀ w ∈ B, w.before args s = true) : ∀ w ∈ L, w.before args s = true := fun w hw => (hL w hw).elim (hA w) (hB w)
def tx_no : List Cond := tx_hp ++ [.declares (Bundle.initS "java/lang/RuntimeException"), .declares (Bundle.initS "java/lang/Exception"), .declares (Bundle.initS Bundle.tN)]
theorem tx_noB {ω : WX} {args : Array Value} {s : State} (h : EX ω s s.heap) : ∀ w ∈ tx_no, w.before args s = true := by
  intro w hw
  unfold tx_no tx_hp at hw
  simp only [List.cons_append, List.nil_append, List.mem_cons, List.not_mem_nil, or_false] at hw
  rcases hw with rfl | rfl | rfl | rfl | rfl | rfl | rfl
  · exact vx_isRefq h.1.1.1
  · exact vx_isRefq h.1.2.1
  · exact h.1.1.2.word
  · exact h.1.2.2.word
  · exact va_Nw.use rfl h.2.2.1.1
  · exact va_Nw.use rfl h.2.2.1.2.1
  · exact va_Nw.use rfl h.2.2.1.2.2
set_option maxRecDepth 100000 in
theorem tx_inN : ∀ w ∈ tx_at "NoiseRing" 117 nNSE "java/lang/RuntimeException" 13 prog_11_method_4_code ["java/lang/Exception"], w ∈ wsU ∨ w ∈ tx_no := by decide +kernel
set_option maxRecDepth 100000 in
theorem tx_inI : ∀ w ∈ tx_at "NoiseRing" 126 nIAE "java/lang/RuntimeException" 7 prog_5_method_2_code ["java/lang/Exception"], w ∈ wsU ∨ w ∈ tx_no := by decide +kernel
end
section
/-! needRegister, needPlace, needArgument; by program (wip/gen/rw.py). -/
theorem gx_Sh {s : State} {H : Heap} {ω : WX} {k q z : Int} {M : Nat → Nat → Int} {wk : Nat → Int} (hG : GX ω k q z M wk s H) {As : List Value} : PreS s H (va_Pc As (fun U => U.heap = H ∧ GX ω k q z M wk U U.heap)) As :=
  ⟨fun a U g mk h => ⟨h.1, h.2.1, GX.moved (u := U) (U := U.calling g mk a) (State.WarmedH.refl U) h.2.2⟩, fun U hU hW => ⟨rfl, hU, by have h := hG.moved hW; rw [← hU] at h; exact h⟩⟩
set_option maxHeartbeats 4000000 in
set_option maxRecDepth 100000 in
theorem n_needRegister (l : Launch) (htr : l.stackTraces = false) (ω : WX) (k q z : Int) (M : Nat → Nat → Int) (wk : Nat → Int) (Hf : Heap) (r : Int) (r1 : -2147483648 ≤ r) (r2 : r < 2147483648) : vx_Met l yX0_needRegister wsX0_needRegister ({ frames := 6, cells := 1, slots := 6, locals := 82 }) (va_Pc [.int (iI r)] (fun U => U.heap = Hf ∧ GX ω k q z M wk U U.heap)) (va_Qv (fun _ : Unit => 0 ≤ r ∧ r < 12) (fun _ t => t.heap = Hf) (fun _ => False)) (vx_X (fun _ : Unit => True) (fun E _ _ => ¬ (0 ≤ r ∧ r < 12) ∧ E = nNSE) (fun _ => False)) 1 6 (fun _ => False) := by
  refine vx_ofW (cc := cX0_needRegister) (maxL := 1) (ret := none) (by decide +kernel) rfl ?_
  intro p e s m args below meth c s₁ B hml hnx hv
  obtain ⟨rfl, hHf, hG⟩ := hv
  have hx := B.exec
  have hb := B.bytes
  have hrt := B.returns
  have hts : ∀ w ∈ wsU, w.before _ s = true := fun w h => atoms_spec (ws := wsX0_needRegister) B.pre w (List.mem_cons_of_mem _ h)
  have hown : s.vm.findClass "NoiseRing" = some m.cls := findClass_of_methodNamed B.named
  have hlocks := B.notSynchronized
  have hl := lv_entry ([.int (iI r)]) (n := 1) (Nat.le_of_ble_eq_true rfl)
  rw [lg_entry_eq]
  generalize (lg_sl ([.int (iI r)]) ++ List.replicate (1 - (lg_sl ([.int (iI r)])).length) Slot.unset).toArray = ls at hl ⊢
  have hl : lv_has ls 1 [(0, .int (iI r))] := hl
  have hS : va_S (fun _ => False) s.heap s.heap [] := va_S.rf
  refine lv_iload_n hx hb dX0_needRegister_0 rfl (lv_at hl 0 rfl) ?_
  refine ix_if_lt (tgt := 10) hx hb (by omega) (by omega) dX0_needRegister_1 (by decide) (fun h1 => ?_) (fun h1 => ?_)
  · exact tx_throw (own := "NoiseRing") (cls := nNSE) (sup := "java/lang/RuntimeException") (names := ["java/lang/Exception"]) (i7 := 13) (bytes := prog_11_method_4_code) hx hb htr hown (by decide +kernel) (by decide +kernel) (by decide +kernel) (by decide +kernel) (by decide +kernel) (by decide +kernel) (by decide +kernel) (tx_parts tx_inN hts (tx_noB hG.1.2.1.2)) (hts _ u158) (hts _ u35) hG.1.2.1.2.2.1.1 hml hl.1 hnx hlocks dX0_needRegister_10 dX0_needRegister_13 dX0_needRegister_14 dX0_needRegister_16 dX0_needRegister_19 (Nat.le_of_ble_eq_true rfl) (Nat.le_of_ble_eq_true rfl) (Nat.le_of_ble_eq_true rfl) (Nat.le_of_ble_eq_true rfl) (fun t h1 h2 h3 => ⟨(), trivial, ⟨by omega, rfl⟩, h2, fun q9 g9 _ => h3 q9 g9⟩) (by decide) (by decide)
  · refine lv_iload_n hx hb dX0_needRegister_4 rfl (lv_at hl 0 rfl) ?_
    refine ix_bipush hx hb (by decide) dX0_needRegister_5 ?_
    refine ix_icmp_lt (tgt := 20) hx hb (by omega) (by omega) (by omega) (by omega) dX0_needRegister_7 (by decide) (fun h7 => ?_) (fun h7 => ?_)
    · refine W.widen (k := 1) (n := 6) (by decide) (by decide) ?_
      exact vx_ret (W.vret hx hb hrt (fun t ht hW => ⟨⟨(), rfl, by omega, ht.trans hHf⟩, hS.F ht⟩) hS.2.2 dX0_needRegister_20)
    · exact tx_throw (own := "NoiseRing") (cls := nNSE) (sup := "java/lang/RuntimeException") (names := ["java/lang/Exception"]) (i7 := 13) (bytes := prog_11_method_4_code) hx hb htr hown (by decide +kernel) (by decide +kernel) (by decide +kernel) (by decide +kernel) (by decide +kernel) (by decide +kernel) (by decide +kernel) (tx_parts tx_inN hts (tx_noB hG.1.2.1.2)) (hts _ u158) (hts _ u35) hG.1.2.1.2.2.1.1 hml hl.1 hnx hlocks dX0_needRegister_10 dX0_needRegister_13 dX0_needRegister_14 dX0_needRegister_16 dX0_needRegister_19 (Nat.le_of_ble_eq_true rfl) (Nat.le_of_ble_eq_true rfl) (Nat.le_of_ble_eq_true rfl) (Nat.le_of_ble_eq_true rfl) (fun t h1 h2 h3 => ⟨(), trivial, ⟨by omega, rfl⟩, h2, fun q9 g9 _ => h3 q9 g9⟩) (by decide) (by decide)
set_option maxHeartbeats 4000000 in
set_option maxRecDepth 100000 in
theorem n_needPlace (l : Launch) (htr : l.stackTraces = false) (ω : WX) (k q z : Int) (M : Nat → Nat → Int) (wk : Nat → Int) (Hf : Heap) (r : Int) (r1 : -2147483648 ≤ r) (r2 : r < 2147483648) : vx_Met l yX0_needPlace wsX0_needPlace ({ frames := 6, cells := 1, slots := 6, locals := 82 }) (va_Pc [.int (iI r)] (fun U => U.heap = Hf ∧ GX ω k q z M wk U U.heap)) (va_Qv (fun _ : Unit => 0 ≤ r ∧ r < 16) (fun _ t => t.heap = Hf) (fun _ => False)) (vx_X (fun _ : Unit => True) (fun E _ _ => ¬ (0 ≤ r ∧ r < 16) ∧ E = nNSE) (fun _ => False)) 1 6 (fun _ => False) := by
  refine vx_ofW (cc := cX0_needPlace) (maxL := 1) (ret := none) (by decide +kernel) rfl ?_
  intro p e s m args below meth c s₁ B hml hnx hv
  obtain ⟨rfl, hHf, hG⟩ := hv
  have hx := B.exec
  have hb := B.bytes
  have hrt := B.returns
  have hts : ∀ w ∈ wsU, w.before _ s = true := fun w h => atoms_spec (ws := wsX0_needPlace) B.pre w (List.mem_cons_of_mem _ h)
  have hown : s.vm.findClass "NoiseRing" = some m.cls := findClass_of_methodNamed B.named
  have hlocks := B.notSynchronized
  have hl := lv_entry ([.int (iI r)]) (n := 1) (Nat.le_of_ble_eq_true rfl)
  rw [lg_entry_eq]
  generalize (lg_sl ([.int (iI r)]) ++ List.replicate (1 - (lg_sl ([.int (iI r)])).length) Slot.unset).toArray = ls at hl ⊢
  have hl : lv_has ls 1 [(0, .int (iI r))] := hl
  have hS : va_S (fun _ => False) s.heap s.heap [] := va_S.rf
  refine lv_iload_n hx hb dX0_needPlace_0 rfl (lv_at hl 0 rfl) ?_
  refine ix_if_lt (tgt := 10) hx hb (by omega) (by omega) dX0_needPlace_1 (by decide) (fun h1 => ?_) (fun h1 => ?_)
  · exact tx_throw (own := "NoiseRing") (cls := nNSE) (sup := "java/lang/RuntimeException") (names := ["java/lang/Exception"]) (i7 := 13) (bytes := prog_11_method_4_code) hx hb htr hown (by decide +kernel) (by decide +kernel) (by decide +kernel) (by decide +kernel) (by decide +kernel) (by decide +kernel) (by decide +kernel) (tx_parts tx_inN hts (tx_noB hG.1.2.1.2)) (hts _ u158) (hts _ u35) hG.1.2.1.2.2.1.2.1 hml hl.1 hnx hlocks dX0_needPlace_10 dX0_needPlace_13 dX0_needPlace_14 dX0_needPlace_16 dX0_needPlace_19 (Nat.le_of_ble_eq_true rfl) (Nat.le_of_ble_eq_true rfl) (Nat.le_of_ble_eq_true rfl) (Nat.le_of_ble_eq_true rfl) (fun t h1 h2 h3 => ⟨(), trivial, ⟨by omega, rfl⟩, h2, fun q9 g9 _ => h3 q9 g9⟩) (by decide) (by decide)
  · refine lv_iload_n hx hb dX0_needPlace_4 rfl (lv_at hl 0 rfl) ?_
    refine ix_bipush hx hb (by decide) dX0_needPlace_5 ?_
    refine ix_icmp_lt (tgt := 20) hx hb (by omega) (by omega) (by omega) (by omega) dX0_needPlace_7 (by decide) (fun h7 => ?_) (fun h7 => ?_)
    · refine W.widen (k := 1) (n := 6) (by decide) (by decide) ?_
      exact vx_ret (W.vret hx hb hrt (fun t ht hW => ⟨⟨(), rfl, by omega, ht.trans hHf⟩, hS.F ht⟩) hS.2.2 dX0_needPlace_20)
    · exact tx_throw (own := "NoiseRing") (cls := nNSE) (sup := "java/lang/RuntimeException") (names := ["java/lang/Exception"]) (i7 := 13) (bytes := prog_11_method_4_code) hx hb htr hown (by decide +kernel) (by decide +kernel) (by decide +kernel) (by decide +kernel) (by decide +kernel) (by decide +kernel) (by decide +kernel) (tx_parts tx_inN hts (tx_noB hG.1.2.1.2)) (hts _ u158) (hts _ u35) hG.1.2.1.2.2.1.2.1 hml hl.1 hnx hlocks dX0_needPlace_10 dX0_needPlace_13 dX0_needPlace_14 dX0_needPlace_16 dX0_needPlace_19 (Nat.le_of_ble_eq_true rfl) (Nat.le_of_ble_eq_true rfl) (Nat.le_of_ble_eq_true rfl) (Nat.le_of_ble_eq_true rfl) (fun t h1 h2 h3 => ⟨(), trivial, ⟨by omega, rfl⟩, h2, fun q9 g9 _ => h3 q9 g9⟩) (by decide) (by decide)
set_option maxHeartbeats 4000000 in
set_option maxRecDepth 100000 in
theorem n_needArgument (l : Launch) (htr : l.stackTraces = false) (ω : WX) (k q z : Int) (M : Nat → Nat → Int) (wk : Nat → Int) (Hf : Heap) (r : Int) (r1 : -2147483648 ≤ r) (r2 : r < 2147483648) : vx_Met l yX0_needArgument wsX0_needArgument ({ frames := 6, cells := 1, slots := 6, locals := 82 }) (va_Pc [.int (iI r)] (fun U => U.heap = Hf ∧ GX ω k q z M wk U U.heap)) (va_Qv (fun _ : Unit => ¬ r = 0) (fun _ t => t.heap = Hf) (fun _ => False)) (vx_X (fun _ : Unit => True) (fun E _ _ => ¬ (¬ r = 0) ∧ E = nIAE) (fun _ => False)) 1 6 (fun _ => False) := by
  refine vx_ofW (cc := cX0_needArgument) (maxL := 1) (ret := none) (by decide +kernel) rfl ?_
  intro p e s m args below meth c s₁ B hml hnx hv
  obtain ⟨rfl, hHf, hG⟩ := hv
  have hx := B.exec
  have hb := B.bytes
  have hrt := B.returns
  have hts : ∀ w ∈ wsU, w.before _ s = true := fun w h => atoms_spec (ws := wsX0_needArgument) B.pre w (List.mem_cons_of_mem _ h)
  have hown : s.vm.findClass "NoiseRing" = some m.cls := findClass_of_methodNamed B.named
  have hlocks := B.notSynchronized
  have hl := lv_entry ([.int (iI r)]) (n := 1) (Nat.le_of_ble_eq_true rfl)
  rw [lg_entry_eq]
  generalize (lg_sl ([.int (iI r)]) ++ List.replicate (1 - (lg_sl ([.int (iI r)])).length) Slot.unset).toArray = ls at hl ⊢
  have hl : lv_has ls 1 [(0, .int (iI r))] := hl
  have hS : va_S (fun _ => False) s.heap s.heap [] := va_S.rf
  refine lv_iload_n hx hb dX0_needArgument_0 rfl (lv_at hl 0 rfl) ?_
  refine ix_if_ne (tgt := 14) hx hb (by omega) (by omega) dX0_needArgument_1 (by decide) (fun h1 => ?_) (fun h1 => ?_)
  · refine W.widen (k := 1) (n := 6) (by decide) (by decide) ?_
    exact vx_ret (W.vret hx hb hrt (fun t ht hW => ⟨⟨(), rfl, by omega, ht.trans hHf⟩, hS.F ht⟩) hS.2.2 dX0_needArgument_14)
  · exact tx_throw (own := "NoiseRing") (cls := nIAE) (sup := "java/lang/RuntimeException") (names := ["java/lang/Exception"]) (i7 := 7) (bytes := prog_5_method_2_code) hx hb htr hown (by decide +kernel) (by decide +kernel) (by decide +kernel) (by decide +kernel) (by decide +kernel) (by decide +kernel) (by decide +kernel) (tx_parts tx_inI hts (tx_noB hG.1.2.1.2)) (hts _ u93) (hts _ u34) hG.1.2.1.2.2.1.2.2 hml hl.1 hnx hlocks dX0_needArgument_4 dX0_needArgument_7 dX0_needArgument_8 dX0_needArgument_10 dX0_needArgument_13 (Nat.le_of_ble_eq_true rfl) (Nat.le_of_ble_eq_true rfl) (Nat.le_of_ble_eq_true rfl) (Nat.le_of_ble_eq_true rfl) (fun t h1 h2 h3 => ⟨(), trivial, ⟨by omega, rfl⟩, h2, fun q9 g9 _ => h3 q9 g9⟩) (by decide) (by decide)
end
section
/-! The class's public methods, by program (wip/gen/rw.py). -/
set_option maxHeartbeats 4000000 in
set_option maxRecDepth 100000 in
theorem p_get (l : Launch) (htr : l.stackTraces = false) (ω : WX) (k q z : Int) (M : Nat → Nat → Int) (wk : Nat → Int) (r i : Int) (r1 : -2147483648 ≤ r) (r2 : r < 2147483648) (i1 : -2147483648 ≤ i) (i2 : i < 2147483648) (hq1 : 3329 ≤ q) (hq2 : q ≤ 8380417) (hM : ∀ r i, r < 12 → i < 16 → 0 ≤ M r i ∧ M r i < q) : vx_Met l yX0_get wsX0_get ({ frames := 7, cells := 2, slots := 12, locals := 102 }) (va_Pc [.ref (ox ω), .int (iI (r)), .int (iI (i))] (fun U => GX ω k q z M wk U U.heap)) (va_Qi (fun r_ (_ : Nat → Int) => ((0 ≤ r ∧ r < 12) ∧ 0 ≤ i ∧ i < 16) ∧ r_ = iI (M r.toNat i.toNat)) (fun w_ t => CX ω k q z M w_ t.heap) (Ax ω)) (vx_X (fun _ : Unit => True) (fun E _ t => (¬ ((0 ≤ r ∧ r < 12) ∧ 0 ≤ i ∧ i < 16) ∧ E = nNSE) ∧ CX ω k q z M wk t.heap) (Ax ω)) 2 12 (Ax ω) := by
  refine vx_ofW (cc := cX0_get) (maxL := 3) (ret := (some .int)) (by decide +kernel) rfl ?_
  intro p e s m args below meth c s₁ B hml hnx hv
  obtain ⟨rfl, hG⟩ := hv
  have hx := B.exec
  have hb := B.bytes
  have hrt := B.returns
  have hts : ∀ w ∈ wsU, w.before _ s = true := fun w h => atoms_spec (ws := wsX0_get) B.pre w (List.mem_cons_of_mem _ h)
  have hown : s.vm.findClass "NoiseRing" = some m.cls := findClass_of_methodNamed B.named
  have hlocks := B.notSynchronized
  have hS : va_S (Ax ω) s.heap s.heap [] := va_S.rf
  have hl := lv_entry ([.ref (ox ω), .int (iI (r)), .int (iI (i))]) (n := 3) (Nat.le_of_ble_eq_true rfl)
  rw [lg_entry_eq]
  generalize (lg_sl ([.ref (ox ω), .int (iI (r)), .int (iI (i))]) ++ List.replicate (3 - (lg_sl ([.ref (ox ω), .int (iI (r)), .int (iI (i))])).length) Slot.unset).toArray = ls at hl ⊢
  have hl : lv_has ls 3 [(0, .ref (ox ω)), (1, .int (iI (r))), (2, .int (iI (i)))] := hl
  refine lv_iload_n hx hb dX0_get_0 rfl (lv_at hl 1 rfl) ?_
  refine vx_callv (vx_runS (As := [.int (iI (r))]) (rest := []) ⟨hx, hb, hml, hown, hts⟩ (n_needRegister l htr ω k q z M wk _ (r) (by omega) (by omega)) (va_cwS 1 hts (gU (hd := [.methodLink "NoiseRing" 33 yX0_needRegister, .static yX0_needRegister, .initialized "NoiseRing"]) (List.forall_mem_cons.mpr ⟨u155, List.forall_mem_cons.mpr ⟨u156, List.forall_mem_cons.mpr ⟨u29, fun _ h => by cases h⟩⟩⟩) u157) rfl rfl rfl (by decide +kernel) ⟨Nat.le_of_ble_eq_true rfl, Nat.le_of_ble_eq_true rfl⟩) (gx_Sh hG) rfl rfl hl.1 rfl (lv_room (Nat.le_of_ble_eq_true rfl)) dX0_get_1 ⟨Nat.le_of_ble_eq_true rfl, Nat.le_of_ble_eq_true rfl⟩) hS (fun q9 _ h => h.elim) (fun q9 h => h.elim) (fun q9 _ h => h.elim) (fun E ce q9 u t H1 locs1 ht hvm hpx hBX hz hk hS1 hce hcv hcl => ?_) (fun u t H1 locs1 ht hvm hp1 hB hz hk hS1 => ?_)
  · exact vx_out (E := E) (fun x9 h9 => (hnx x9 h9).elim) hlocks hce hcv hcl (fun t1 ht1 ha1 => ⟨(), trivial, ⟨⟨by omega, hBX.2⟩, by rw [ht1]; exact hG.2.kept (fun a9 g9 => hk a9 g9 (fun f9 => f9))⟩, hS1.F ht1⟩) hS1.2.2 (Nat.le_of_ble_eq_true rfl) (Nat.le_of_ble_eq_true rfl)
  obtain rfl := ht.symm.trans hB
  clear hS
  have hS := hS1
  obtain ⟨r, rfl⟩ := Int.eq_ofNat_of_zero_le hp1.1
  refine lv_iload_n hx hb dX0_get_4 rfl (lv_at hl 2 rfl) ?_
  refine vx_callv (vx_runS (As := [.int (iI (i))]) (rest := []) ⟨hx, hb, hml, hown, hts⟩ (n_needPlace l htr ω k q z M wk _ (i) (by omega) (by omega)) (va_cwS 1 hts (gU (hd := [.methodLink "NoiseRing" 36 yX0_needPlace, .static yX0_needPlace, .initialized "NoiseRing"]) (List.forall_mem_cons.mpr ⟨u172, List.forall_mem_cons.mpr ⟨u173, List.forall_mem_cons.mpr ⟨u29, fun _ h => by cases h⟩⟩⟩) u174) rfl rfl rfl (by decide +kernel) ⟨Nat.le_of_ble_eq_true rfl, Nat.le_of_ble_eq_true rfl⟩) (gx_Sh hG) rfl rfl hl.1 rfl (lv_room (Nat.le_of_ble_eq_true rfl)) dX0_get_5 ⟨Nat.le_of_ble_eq_true rfl, Nat.le_of_ble_eq_true rfl⟩) hS (fun q9 _ h => h.elim) (fun q9 h => h.elim) (fun q9 _ h => h.elim) (fun E ce q9 u t H1 locs1 ht hvm hpx hBX hz hk hS1 hce hcv hcl => ?_) (fun u t H1 locs1 ht hvm hp5 hB hz hk hS1 => ?_)
  · exact vx_out (E := E) (fun x9 h9 => (hnx x9 h9).elim) hlocks hce hcv hcl (fun t1 ht1 ha1 => ⟨(), trivial, ⟨⟨by omega, hBX.2⟩, by rw [ht1]; exact hG.2.kept (fun a9 g9 => hk a9 g9 (fun f9 => f9))⟩, hS1.F ht1⟩) hS1.2.2 (Nat.le_of_ble_eq_true rfl) (Nat.le_of_ble_eq_true rfl)
  obtain rfl := ht.symm.trans hB
  clear hS
  have hS := hS1
  obtain ⟨i, rfl⟩ := Int.eq_ofNat_of_zero_le hp5.1
  refine lv_aload_n hx hb dX0_get_8 rfl (lv_at hl 0 rfl) ?_
  refine gx_get hx hb hts hown hG 0 (by decide) rfl u55 dX0_get_9 ?_
  refine lv_iload_n hx hb dX0_get_12 rfl (lv_at hl 1 rfl) ?_
  refine gx_row (r := r) hx hb hG (by omega) dX0_get_13 ?_
  refine lv_iload_n hx hb dX0_get_14 rfl (lv_at hl 2 rfl) ?_
  refine gx_ild (r := r) (i := i) hx hb hG (by omega) (by omega) dX0_get_15 ?_
  refine W.widen (k := 2) (n := 12) (Nat.le_of_ble_eq_true rfl) (Nat.le_of_ble_eq_true rfl) ?_
  exact vx_ret (W.iret hx hb hrt (fun t ht hW => ⟨⟨_, wk, rfl, ⟨by omega, congrArg iI (rfl)⟩, by have h9 := hG.2; rw [← ht] at h9; exact h9⟩, hS.F ht⟩) hS.2.2 dX0_get_16)
set_option maxHeartbeats 4000000 in
set_option maxRecDepth 100000 in
theorem p_set (l : Launch) (htr : l.stackTraces = false) (ω : WX) (k q z : Int) (M : Nat → Nat → Int) (wk : Nat → Int) (r i v : Int) (r1 : -2147483648 ≤ r) (r2 : r < 2147483648) (i1 : -2147483648 ≤ i) (i2 : i < 2147483648) (v1 : -2147483648 ≤ v) (v2 : v < 2147483648) (hq1 : 3329 ≤ q) (hq2 : q ≤ 8380417) (hM : ∀ r i, r < 12 → i < 16 → 0 ≤ M r i ∧ M r i < q) : vx_Met l yX0_set wsX0_set ({ frames := 7, cells := 2, slots := 12, locals := 102 }) (va_Pc [.ref (ox ω), .int (iI (r)), .int (iI (i)), .int (iI (v))] (fun U => GX ω k q z M wk U U.heap)) (va_Qi (fun r_ (_ : Nat → Int) => ((0 ≤ r ∧ r < 12) ∧ 0 ≤ i ∧ i < 16) ∧ r_ = iI (M r.toNat i.toNat)) (fun w_ t => CX ω k q z (upR M r.toNat (upI (M r.toNat) i.toNat (v % q))) w_ t.heap) (Ax ω)) (vx_X (fun _ : Unit => True) (fun E _ t => (¬ ((0 ≤ r ∧ r < 12) ∧ 0 ≤ i ∧ i < 16) ∧ E = nNSE) ∧ CX ω k q z M wk t.heap) (Ax ω)) 2 12 (Ax ω) := by
  refine vx_ofW (cc := cX0_set) (maxL := 5) (ret := (some .int)) (by decide +kernel) rfl ?_
  intro p e s m args below meth c s₁ B hml hnx hv
  obtain ⟨rfl, hG⟩ := hv
  have hx := B.exec
  have hb := B.bytes
  have hrt := B.returns
  have hts : ∀ w ∈ wsU, w.before _ s = true := fun w h => atoms_spec (ws := wsX0_set) B.pre w (List.mem_cons_of_mem _ h)
  have hown : s.vm.findClass "NoiseRing" = some m.cls := findClass_of_methodNamed B.named
  have hlocks := B.notSynchronized
  have hS : va_S (Ax ω) s.heap s.heap [] := va_S.rf
  have hl := lv_entry ([.ref (ox ω), .int (iI (r)), .int (iI (i)), .int (iI (v))]) (n := 5) (Nat.le_of_ble_eq_true rfl)
  rw [lg_entry_eq]
  generalize (lg_sl ([.ref (ox ω), .int (iI (r)), .int (iI (i)), .int (iI (v))]) ++ List.replicate (5 - (lg_sl ([.ref (ox ω), .int (iI (r)), .int (iI (i)), .int (iI (v))])).length) Slot.unset).toArray = ls at hl ⊢
  have hl : lv_has ls 5 [(0, .ref (ox ω)), (1, .int (iI (r))), (2, .int (iI (i))), (3, .int (iI (v)))] := hl
  refine lv_iload_n hx hb dX0_set_0 rfl (lv_at hl 1 rfl) ?_
  refine vx_callv (vx_runS (As := [.int (iI (r))]) (rest := []) ⟨hx, hb, hml, hown, hts⟩ (n_needRegister l htr ω k q z M wk _ (r) (by omega) (by omega)) (va_cwS 1 hts (gU (hd := [.methodLink "NoiseRing" 33 yX0_needRegister, .static yX0_needRegister, .initialized "NoiseRing"]) (List.forall_mem_cons.mpr ⟨u155, List.forall_mem_cons.mpr ⟨u156, List.forall_mem_cons.mpr ⟨u29, fun _ h => by cases h⟩⟩⟩) u157) rfl rfl rfl (by decide +kernel) ⟨Nat.le_of_ble_eq_true rfl, Nat.le_of_ble_eq_true rfl⟩) (gx_Sh hG) rfl rfl hl.1 rfl (lv_room (Nat.le_of_ble_eq_true rfl)) dX0_set_1 ⟨Nat.le_of_ble_eq_true rfl, Nat.le_of_ble_eq_true rfl⟩) hS (fun q9 _ h => h.elim) (fun q9 h => h.elim) (fun q9 _ h => h.elim) (fun E ce q9 u t H1 locs1 ht hvm hpx hBX hz hk hS1 hce hcv hcl => ?_) (fun u t H1 locs1 ht hvm hp1 hB hz hk hS1 => ?_)
  · exact vx_out (E := E) (fun x9 h9 => (hnx x9 h9).elim) hlocks hce hcv hcl (fun t1 ht1 ha1 => ⟨(), trivial, ⟨⟨by omega, hBX.2⟩, by rw [ht1]; exact hG.2.kept (fun a9 g9 => hk a9 g9 (fun f9 => f9))⟩, hS1.F ht1⟩) hS1.2.2 (Nat.le_of_ble_eq_true rfl) (Nat.le_of_ble_eq_true rfl)
  obtain rfl := ht.symm.trans hB
  clear hS
  have hS := hS1
  obtain ⟨r, rfl⟩ := Int.eq_ofNat_of_zero_le hp1.1
  refine lv_iload_n hx hb dX0_set_4 rfl (lv_at hl 2 rfl) ?_
  refine vx_callv (vx_runS (As := [.int (iI (i))]) (rest := []) ⟨hx, hb, hml, hown, hts⟩ (n_needPlace l htr ω k q z M wk _ (i) (by omega) (by omega)) (va_cwS 1 hts (gU (hd := [.methodLink "NoiseRing" 36 yX0_needPlace, .static yX0_needPlace, .initialized "NoiseRing"]) (List.forall_mem_cons.mpr ⟨u172, List.forall_mem_cons.mpr ⟨u173, List.forall_mem_cons.mpr ⟨u29, fun _ h => by cases h⟩⟩⟩) u174) rfl rfl rfl (by decide +kernel) ⟨Nat.le_of_ble_eq_true rfl, Nat.le_of_ble_eq_true rfl⟩) (gx_Sh hG) rfl rfl hl.1 rfl (lv_room (Nat.le_of_ble_eq_true rfl)) dX0_set_5 ⟨Nat.le_of_ble_eq_true rfl, Nat.le_of_ble_eq_true rfl⟩) hS (fun q9 _ h => h.elim) (fun q9 h => h.elim) (fun q9 _ h => h.elim) (fun E ce q9 u t H1 locs1 ht hvm hpx hBX hz hk hS1 hce hcv hcl => ?_) (fun u t H1 locs1 ht hvm hp5 hB hz hk hS1 => ?_)
  · exact vx_out (E := E) (fun x9 h9 => (hnx x9 h9).elim) hlocks hce hcv hcl (fun t1 ht1 ha1 => ⟨(), trivial, ⟨⟨by omega, hBX.2⟩, by rw [ht1]; exact hG.2.kept (fun a9 g9 => hk a9 g9 (fun f9 => f9))⟩, hS1.F ht1⟩) hS1.2.2 (Nat.le_of_ble_eq_true rfl) (Nat.le_of_ble_eq_true rfl)
  obtain rfl := ht.symm.trans hB
  clear hS
  have hS := hS1
  obtain ⟨i, rfl⟩ := Int.eq_ofNat_of_zero_le hp5.1
  refine lv_aload_n hx hb dX0_set_8 rfl (lv_at hl 0 rfl) ?_
  refine gx_get hx hb hts hown hG 0 (by decide) rfl u55 dX0_set_9 ?_
  refine lv_iload_n hx hb dX0_set_12 rfl (lv_at hl 1 rfl) ?_
  refine gx_row (r := r) hx hb hG (by omega) dX0_set_13 ?_
  refine lv_iload_n hx hb dX0_set_14 rfl (lv_at hl 2 rfl) ?_
  refine gx_ild (r := r) (i := i) hx hb hG (by omega) (by omega) dX0_set_15 ?_
  refine lv_istore (lv' := [(4, .int (iI (M (r) (i)))), (0, .ref (ox ω)), (1, .int (iI (r))), (2, .int (iI (i))), (3, .int (iI (v)))]) hx hb dX0_set_16 hl (by decide) rfl (fun ls hl => ?_)
  refine lv_aload_n hx hb dX0_set_18 rfl (lv_at hl 1 rfl) ?_
  refine gx_get hx hb hts hown hG 0 (by decide) rfl u55 dX0_set_19 ?_
  refine lv_iload_n hx hb dX0_set_22 rfl (lv_at hl 2 rfl) ?_
  refine gx_row (r := r) hx hb hG (by omega) dX0_set_23 ?_
  refine lv_iload_n hx hb dX0_set_24 rfl (lv_at hl 3 rfl) ?_
  refine lv_iload_n hx hb dX0_set_25 rfl (lv_at hl 4 rfl) ?_
  refine lv_aload_n hx hb dX0_set_26 rfl (lv_at hl 1 rfl) ?_
  refine gx_get hx hb hts hown hG 3 (by decide) rfl u58 dX0_set_27 ?_
  refine vp_callSi (va_Run.run (va_runS (As := [.int (iI (v)), .int (iI (q))]) (rest := [.int (iI (i)), .ref (oR ω (r))]) ⟨hx, hb, hml, hown, hts⟩ (c_floorModI l (v) (q) (by omega) (by omega) (by omega) (by omega)) (va_cwS 2 hts (gU (hd := [.methodLink "NoiseRing" 39 yJ_floorModI, .static yJ_floorModI, .initialized "java/lang/Math"]) (List.forall_mem_cons.mpr ⟨u175, List.forall_mem_cons.mpr ⟨u176, List.forall_mem_cons.mpr ⟨u36, fun _ h => by cases h⟩⟩⟩) u177) rfl rfl rfl (by decide +kernel) ⟨Nat.le_of_ble_eq_true rfl, Nat.le_of_ble_eq_true rfl⟩) gn_S rfl rfl hl.1 rfl (lv_room (Nat.le_of_ble_eq_true rfl)) dX0_set_30 ⟨Nat.le_of_ble_eq_true rfl, Nat.le_of_ble_eq_true rfl⟩)) (fun r30 hr30 => ?_)
  subst hr30
  refine gx_ist (r := r) (i := i) hx hb hG hS (by omega) (by omega) dX0_set_33 (fun H1 locs1 hG hS => ?_)
  refine lv_iload hx hb dX0_set_34 (lv_at hl 0 rfl) ?_
  refine W.widen (k := 2) (n := 12) (Nat.le_of_ble_eq_true rfl) (Nat.le_of_ble_eq_true rfl) ?_
  exact vx_ret (W.iret hx hb hrt (fun t ht hW => ⟨⟨_, wk, rfl, ⟨by omega, congrArg iI (rfl)⟩, by have h9 := hG.2; rw [← ht] at h9; exact h9⟩, hS.F ht⟩) hS.2.2 dX0_set_36)
set_option maxHeartbeats 4000000 in
set_option maxRecDepth 100000 in
theorem p_size (l : Launch) (htr : l.stackTraces = false) (ω : WX) (k q z : Int) (M : Nat → Nat → Int) (wk : Nat → Int) (r : Int) (r1 : -2147483648 ≤ r) (r2 : r < 2147483648) (hq1 : 3329 ≤ q) (hq2 : q ≤ 8380417) (hM : ∀ r i, r < 12 → i < 16 → 0 ≤ M r i ∧ M r i < q) : vx_Met l yX0_size wsX0_size ({ frames := 7, cells := 1, slots := 6, locals := 102 }) (va_Pc [.ref (ox ω), .int (iI (r))] (fun U => GX ω k q z M wk U U.heap)) (va_Qi (fun r_ (_ : Nat → Int) => (0 ≤ r ∧ r < 12) ∧ r_ = iI (sMax q (M r.toNat) 16)) (fun w_ t => CX ω k q z M w_ t.heap) (Ax ω)) (vx_X (fun _ : Unit => True) (fun E _ t => (¬ (0 ≤ r ∧ r < 12) ∧ E = nNSE) ∧ CX ω k q z M wk t.heap) (Ax ω)) 1 6 (Ax ω) := by
  refine vx_ofW (cc := cX0_size) (maxL := 2) (ret := (some .int)) (by decide +kernel) rfl ?_
  intro p e s m args below meth c s₁ B hml hnx hv
  obtain ⟨rfl, hG⟩ := hv
  have hx := B.exec
  have hb := B.bytes
  have hrt := B.returns
  have hts : ∀ w ∈ wsU, w.before _ s = true := fun w h => atoms_spec (ws := wsX0_size) B.pre w (List.mem_cons_of_mem _ h)
  have hown : s.vm.findClass "NoiseRing" = some m.cls := findClass_of_methodNamed B.named
  have hlocks := B.notSynchronized
  have hS : va_S (Ax ω) s.heap s.heap [] := va_S.rf
  have hl := lv_entry ([.ref (ox ω), .int (iI (r))]) (n := 2) (Nat.le_of_ble_eq_true rfl)
  rw [lg_entry_eq]
  generalize (lg_sl ([.ref (ox ω), .int (iI (r))]) ++ List.replicate (2 - (lg_sl ([.ref (ox ω), .int (iI (r))])).length) Slot.unset).toArray = ls at hl ⊢
  have hl : lv_has ls 2 [(0, .ref (ox ω)), (1, .int (iI (r)))] := hl
  refine lv_iload_n hx hb dX0_size_0 rfl (lv_at hl 1 rfl) ?_
  refine vx_callv (vx_runS (As := [.int (iI (r))]) (rest := []) ⟨hx, hb, hml, hown, hts⟩ (n_needRegister l htr ω k q z M wk _ (r) (by omega) (by omega)) (va_cwS 1 hts (gU (hd := [.methodLink "NoiseRing" 33 yX0_needRegister, .static yX0_needRegister, .initialized "NoiseRing"]) (List.forall_mem_cons.mpr ⟨u155, List.forall_mem_cons.mpr ⟨u156, List.forall_mem_cons.mpr ⟨u29, fun _ h => by cases h⟩⟩⟩) u157) rfl rfl rfl (by decide +kernel) ⟨Nat.le_of_ble_eq_true rfl, Nat.le_of_ble_eq_true rfl⟩) (gx_Sh hG) rfl rfl hl.1 rfl (lv_room (Nat.le_of_ble_eq_true rfl)) dX0_size_1 ⟨Nat.le_of_ble_eq_true rfl, Nat.le_of_ble_eq_true rfl⟩) hS (fun q9 _ h => h.elim) (fun q9 h => h.elim) (fun q9 _ h => h.elim) (fun E ce q9 u t H1 locs1 ht hvm hpx hBX hz hk hS1 hce hcv hcl => ?_) (fun u t H1 locs1 ht hvm hp1 hB hz hk hS1 => ?_)
  · exact vx_out (E := E) (fun x9 h9 => (hnx x9 h9).elim) hlocks hce hcv hcl (fun t1 ht1 ha1 => ⟨(), trivial, ⟨⟨by omega, hBX.2⟩, by rw [ht1]; exact hG.2.kept (fun a9 g9 => hk a9 g9 (fun f9 => f9))⟩, hS1.F ht1⟩) hS1.2.2 (Nat.le_of_ble_eq_true rfl) (Nat.le_of_ble_eq_true rfl)
  obtain rfl := ht.symm.trans hB
  clear hS
  have hS := hS1
  obtain ⟨r, rfl⟩ := Int.eq_ofNat_of_zero_le hp1.1
  refine lv_aload_n hx hb dX0_size_4 rfl (lv_at hl 0 rfl) ?_
  refine lv_aload_n hx hb dX0_size_5 rfl (lv_at hl 0 rfl) ?_
  refine gx_get hx hb hts hown hG 0 (by decide) rfl u55 dX0_size_6 ?_
  refine lv_iload_n hx hb dX0_size_9 rfl (lv_at hl 1 rfl) ?_
  refine gx_row (r := r) hx hb hG (by omega) dX0_size_10 ?_
  refine vp_callSi (va_Run.run (va_runV (As := [.ref (oR ω (r))]) (rest := []) ⟨hx, hb, hml, hown, hts⟩ (c_greatestSize l ω k q z M wk (r) (by omega) hq1 hq2 hM) (cwV 1 hts (gU (hd := [.methodLink "NoiseRing" 55 yX0_greatestSize, .instanceMethod yX0_greatestSize, .selects "NoiseRing" yX0_greatestSize yX0_greatestSize, .initialized "NoiseRing"]) (List.forall_mem_cons.mpr ⟨u204, List.forall_mem_cons.mpr ⟨u205, List.forall_mem_cons.mpr ⟨u6, List.forall_mem_cons.mpr ⟨u29, fun _ h => by cases h⟩⟩⟩⟩) u206) rfl rfl rfl (by decide +kernel) ⟨Nat.le_of_ble_eq_true rfl, Nat.le_of_ble_eq_true rfl⟩) (gx_V hG) rfl rfl hl.1 rfl (lv_room (Nat.le_of_ble_eq_true rfl)) dX0_size_11 ⟨Nat.le_of_ble_eq_true rfl, Nat.le_of_ble_eq_true rfl⟩)) (fun r11 hr11 => ?_)
  subst hr11
  refine W.widen (k := 1) (n := 6) (Nat.le_of_ble_eq_true rfl) (Nat.le_of_ble_eq_true rfl) ?_
  exact vx_ret (W.iret hx hb hrt (fun t ht hW => ⟨⟨_, wk, rfl, ⟨by omega, congrArg iI (rfl)⟩, by have h9 := hG.2; rw [← ht] at h9; exact h9⟩, hS.F ht⟩) hS.2.2 dX0_size_14)
end
section
/-! A row written place by place. -/
def mixI (f g : Nat → Int) (n : Nat) : Nat → Int := fun i => if i < n then g i else f i
def mixR (M : Nat → Nat → Int) (to : Nat) (g : Nat → Int) (n : Nat) : Nat → Nat → Int := upR M to (mixI (M to) g n)
theorem mixI_0 (f g : Nat → Int) : mixI f g 0 = f := by
  funext i
  simp [mixI]
theorem mixI_s (f g : Nat → Int) (j : Nat) : upI (mixI f g j) j (g j) = mixI f g (j + 1) := by
  funext i
  unfold upI mixI
  by_cases h : i = j
  · subst h
    rw [if_pos rfl, if_pos (by omega)]
  · rw [if_neg h]
    by_cases h2 : i < j
    · rw [if_pos h2, if_pos (by omega)]
    · rw [if_neg h2, if_neg (by omega)]
theorem mixI_at {f g : Nat → Int} {n i : Nat} (h : i < n) : mixI f g n i = g i := if_pos h
theorem mixI_no {f g : Nat → Int} {n i : Nat} (h : ¬ i < n) : mixI f g n i = f i := if_neg h
theorem mixI_mix (f g h : Nat → Int) (n : Nat) : mixI f (mixI h g n) n = mixI f g n := by
  funext i
  unfold mixI
  by_cases hi : i < n
  · rw [if_pos hi, if_pos hi, if_pos hi]
  · rw [if_neg hi, if_neg hi]
theorem mixR_0 (M : Nat → Nat → Int) (to : Nat) (g : Nat → Int) : mixR M to g 0 = M := by
  funext r
  unfold mixR upR
  rw [mixI_0]
  split
  · next h => rw [h]
  · rfl
theorem mixR_to (M : Nat → Nat → Int) (to : Nat) (g : Nat → Int) (n : Nat) : mixR M to g n to = mixI (M to) g n := if_pos rfl
theorem mixR_s (M : Nat → Nat → Int) (to : Nat) (g : Nat → Int) (j : Nat) : upR (mixR M to g j) to (upI (mixR M to g j to) j (g j)) = mixR M to g (j + 1) := by
  rw [mixR_to, mixI_s]
  funext r
  unfold mixR upR
  split <;> rfl
theorem mixR_at (M : Nat → Nat → Int) (to : Nat) (g : Nat → Int) (a j : Nat) : mixR M to g j a j = M a j := by
  unfold mixR upR
  split
  · next h => rw [h, mixI_no (by omega)]
  · rfl
theorem mixR_row {M : Nat → Nat → Int} {to : Nat} {g : Nat → Int} {n i : Nat} (h : i < n) : mixR M to g n to i = g i := by
  rw [mixR_to, mixI_at h]
theorem mixR_mix (M : Nat → Nat → Int) (to : Nat) (f g : Nat → Int) (n : Nat) : mixR M to (mixI f g n) n = mixR M to g n := by
  unfold mixR
  rw [mixI_mix]
theorem mixR_in {M : Nat → Nat → Int} {to : Nat} {g : Nat → Int} {n : Nat} {q : Int} (hM : ∀ r i, r < 12 → i < 16 → 0 ≤ M r i ∧ M r i < q) (hg : ∀ i, i < 16 → 0 ≤ g i ∧ g i < q) : ∀ r i, r < 12 → i < 16 → 0 ≤ mixR M to g n r i ∧ mixR M to g n r i < q := by
  intro r i hr hi
  unfold mixR upR
  split
  · next h =>
    unfold mixI
    split
    · exact hg i hi
    · exact hM to i (by omega) hi
  · exact hM r i hr hi
theorem sCnt_eq {f g : Nat → Int} {n : Nat} (h : ∀ i, i < n → f i = g i) : sCnt f n = sCnt g n := by
  induction n with
  | zero => rfl
  | succ n ih => rw [sCnt, sCnt, ih (fun i hi => h i (by omega)), h n (by omega)]
theorem sMax_eq {q : Int} {f g : Nat → Int} {n : Nat} (h : ∀ i, i < n → f i = g i) : sMax q f n = sMax q g n := by
  induction n with
  | zero => rfl
  | succ n ih => rw [sMax, sMax, ih (fun i hi => h i (by omega)), h n (by omega)]
/-- a quotient by 2 or more -/
theorem dv_half {y a : Int} (hy : 0 ≤ y) (ha : 2 ≤ a) : 0 ≤ y / a ∧ 2 * (y / a) ≤ y := by
  have h1 := Int.ediv_nonneg hy (show 0 ≤ a by omega)
  have h2 : a * (y / a) ≤ y := Int.mul_ediv_self_le (by omega)
  have h3 : 2 * (y / a) ≤ a * (y / a) := Int.mul_le_mul_of_nonneg_right ha h1
  omega
theorem sPart_lt {q x a : Int} (x1 : 0 ≤ x) (x2 : x < q) (a1 : 2 ≤ a) (a2 : a < q) : 0 ≤ sPart q x a ∧ sPart q x a < q := by
  have h1 := sNear_in (x := x) (show 0 < a by omega)
  have h2 := sNear_low x1 (show 0 < a by omega)
  have h3 := dv_half h2 a1
  unfold sPart
  split <;> omega
theorem sMov_lt {q x a : Int} (q1 : 1 < q) (a1 : 0 < a) (a4 : (q - 1) % a = 0) : 0 ≤ sMov q x a ∧ sMov q x a < q := by
  have h1 := sAl_div q1 a1 a4
  have h2 : (q - 1) / a ≤ q - 1 := Int.ediv_le_self _ (by omega)
  have h3 := Int.emod_nonneg (sPart q x a + (if 0 < sRest q x a then 1 else -1)) (show (q - 1) / a ≠ 0 by omega)
  have h4 := Int.emod_lt_of_pos (sPart q x a + (if 0 < sRest q x a then 1 else -1)) (show 0 < (q - 1) / a by omega)
  unfold sMov
  omega
theorem sHint_lt {q a x y : Int} (q1 : 1 < q) : 0 ≤ sHint q a x y ∧ sHint q a x y < q := by
  unfold sHint
  split <;> omega
theorem sAl_of {q a : Int} (h : sAli q a = 1) : 0 < a ∧ a % 2 = 0 ∧ (q - 1) % a = 0 := by
  unfold sAli at h
  split at h
  · assumption
  · omega
theorem sAl_lt {q a : Int} (q1 : 1 < q) (h : 0 < a ∧ a % 2 = 0 ∧ (q - 1) % a = 0) : 2 ≤ a ∧ a < q := by
  have h1 : a ∣ q - 1 := Int.dvd_of_emod_eq_zero h.2.2
  have h2 : a ≤ q - 1 := Int.le_of_dvd (by omega) h1
  omega
/-- most bits of a KIND -/
def kD (k : Int) : Int := if k = 0 then 11 else 22
theorem kD_in {k : Int} {d : Nat} (h : (d : Int) ≤ kD k) : d ≤ 22 ∧ (2 : Int) ^ d < kQ k ∧ 2 * (2 : Int) ^ d < kQ k + kQ k := by
  unfold kD at h
  unfold kQ
  split at h
  · next h0 =>
    rw [if_pos h0]
    have h1 : 2 ^ d ≤ 2 ^ 11 := Nat.pow_le_pow_right (by decide) (by omega)
    have h2 := pw_c d
    omega
  · next h0 =>
    rw [if_neg h0]
    have h1 : 2 ^ d ≤ 2 ^ 22 := Nat.pow_le_pow_right (by decide) (by omega)
    have h2 := pw_c d
    omega
theorem sRound_lt {k op x : Int} {d : Nat} (x1 : 0 ≤ x) (x2 : x < kQ k) (d1 : 1 ≤ d) (d2 : (d : Int) ≤ kD k) : 0 ≤ sRound (kQ k) op x d ∧ sRound (kQ k) op x d < kQ k := by
  have hq := kQ_in (k := k)
  have hd := kD_in d2
  have hp := pw_in hd.1
  have hh := pw_half d1
  unfold sRound
  split
  · have h1 := Int.emod_nonneg ((x * 2 ^ (d + 1) + kQ k) / (2 * kQ k)) (show (2 : Int) ^ d ≠ 0 by omega)
    have h2 := Int.emod_lt_of_pos ((x * 2 ^ (d + 1) + kQ k) / (2 * kQ k)) (show (0 : Int) < 2 ^ d by omega)
    omega
  · split
    · have h1 := Int.emod_nonneg x (show (2 : Int) ^ d ≠ 0 by omega)
      have h2 := Int.emod_lt_of_pos x (show (0 : Int) < 2 ^ d by omega)
      have h3 : 0 ≤ kQ k * (x % 2 ^ d) := Int.mul_nonneg (by omega) h1
      have h4 : kQ k * (x % 2 ^ d) ≤ kQ k * (2 ^ d - 1) := Int.mul_le_mul_of_nonneg_left (by omega) (by omega)
      have h5 : kQ k * (2 ^ d - 1) = kQ k * 2 ^ d - kQ k := by rw [Int.mul_sub, Int.mul_one]
      refine ⟨Int.ediv_nonneg (by omega) (by omega), Int.ediv_lt_of_lt_mul (by omega) (by omega)⟩
    · split
      · exact ⟨Int.emod_nonneg _ (by omega), Int.emod_lt_of_pos _ (by omega)⟩
      · have h1 := sNear_in (x := x) (show (0 : Int) < 2 ^ d by omega)
        have h2 := sNear_low x1 (show (0 : Int) < 2 ^ d by omega)
        have h3 := dv_half h2 (show (2 : Int) ≤ 2 ^ d by omega)
        omega
end
section
/-! Static tables read; the work row copied. -/
theorem tbM_k {k : Int} (k1 : 0 ≤ k) (k2 : k ≤ 1) : tbM k.toNat = kQ k := by
  unfold tbM kQ
  rcases (show k = 0 ∨ k = 1 by omega) with rfl | rfl <;> rfl
theorem tbB_k {k : Int} (k1 : 0 ≤ k) (k2 : k ≤ 1) : tbB k.toNat = kD k := by
  unfold tbB kD
  rcases (show k = 0 ∨ k = 1 by omega) with rfl | rfl <;> rfl
theorem tbR_k {k : Int} (k1 : 0 ≤ k) (k2 : k ≤ 1) : tbR k.toNat = kB k := by
  unfold tbR kB
  rcases (show k = 0 ∨ k = 1 by omega) with rfl | rfl <;> rfl
theorem tbZ_k {k : Int} (k1 : 0 ≤ k) (k2 : k ≤ 1) : tbZ k.toNat = ((if k = 0 then 8 else 16 : Nat) : Int) := by
  unfold tbZ
  rcases (show k = 0 ∨ k = 1 by omega) with rfl | rfl <;> rfl
section GXT
variable {p : Program} {l : Launch} {e : Env} {R : Room} {s : State} {m : MethodId} {args : Array Value} {below : List Frame} {meth : Method} {c : Code} {H : Heap} {locs : List Loc} {cells slots : Nat} {Q : State → Prop}
variable {cc : ByteArray} {pc : Nat} {ls : Array Slot} {rest : List Value} {ω : WX} {k q z : Int} {M : Nat → Nat → Int} {wk : Nat → Int} {H0 : Heap}
theorem gx_gets (hexec : p.tables.exec = Jvm.exec) (hb : c.code = cc) (hts : ∀ w ∈ wsU, w.before args s = true) (hown : s.vm.findClass "NoiseRing" = some m.cls) {i : Nat} {n : String} {f : Nat → Int} (hZ : sx_1 ω i n f s s.heap) (hS : va_S (Ax ω) s.heap H locs) {index : Nat} (hlink : Cond.fieldLink "NoiseRing" index "NoiseRing" n "[I" ∈ wsU) (hdg : decode cc pc = .ok (.getstatic index, 3))
    (kk : W p l e R s m args below meth c H locs cells slots Q (F0 m (pc + 3) ls (.ref (oT ω i) :: rest))) : W p l e R s m args below meth c H locs cells slots Q (F0 m pc ls rest) := va_gets hexec hb hZ.1 hS hown (hts _ hlink) (fun _ h => h) hdg kk
theorem gx_tab (hexec : p.tables.exec = Jvm.exec) (hb : c.code = cc) {i : Nat} {n : String} {f : Nat → Int} (hZ : sx_1 ω i n f s s.heap) (hS : va_S (Ax ω) s.heap H locs) {k : Int} (k1 : 0 ≤ k) (k2 : k ≤ 1) {v : Int} (hv : f k.toNat = v) (hdg : decode cc pc = .ok (.iaload, 1))
    (kk : W p l e R s m args below meth c H locs cells slots Q (F0 m (pc + 1) ls (.int (iI v) :: rest))) : W p l e R s m args below meth c H locs cells slots Q (F0 m pc ls (.int (iI k) :: .ref (oT ω i) :: rest)) := by
  subst hv
  obtain ⟨n, rfl⟩ := Int.eq_ofNat_of_zero_le k1
  have hcl : (iI (n : Int)).toNatClampNeg = n := iI_cl (by omega)
  refine va_ti (v := .int (iI (f n))) hexec hb hZ.2 hS (iI_in (n := 2) (by omega) (by decide)) ?_ hdg kk
  show Value.int (iI (f (iI (n : Int)).toNatClampNeg)) = _
  rw [hcl]
theorem gx_tlen (hexec : p.tables.exec = Jvm.exec) (hb : c.code = cc) {i : Nat} {n : String} {f : Nat → Int} (hZ : sx_1 ω i n f s s.heap) (hS : va_S (Ax ω) s.heap H locs) (hdg : decode cc pc = .ok (.arraylength, 1))
    (kk : W p l e R s m args below meth c H locs cells slots Q (F0 m (pc + 1) ls (.int (iI 2) :: rest))) : W p l e R s m args below meth c H locs cells slots Q (F0 m pc ls (.ref (oT ω i) :: rest)) := va_tlen hexec hb hZ.2 hS (v := iI 2) (by decide) hdg kk
set_option maxRecDepth 100000 in
theorem uCopyL : Cond.methodLink "NoiseRing" 49 arraycopyName ∈ wsU := by decide +kernel
set_option maxRecDepth 100000 in
theorem uCopyN : Cond.native arraycopyName ∈ wsU := by decide +kernel
set_option maxRecDepth 100000 in
theorem uCopyS : Cond.static arraycopyName ∈ wsU := by decide +kernel
set_option maxRecDepth 100000 in
theorem uSysI : Cond.initialized "java/lang/System" ∈ wsU := by decide +kernel
/-- System.arraycopy(work, 0, registers[to], 0, 16) -/
theorem gx_copy (hexec : p.tables.exec = Jvm.exec) (hb : c.code = cc) (hts : ∀ w ∈ wsU, w.before args s = true) (hml : c.maxLocals = ls.size) (hown : s.vm.findClass "NoiseRing" = some m.cls) (hG : GX ω k q z M wk s H) (hS : va_S (Ax ω) H0 H locs) {to : Nat} (hto : to < 12)
    (hframes : 1 ≤ R.frames) (hlocals : (rest.map fun v => v.category).sum + (nativeFrameWords "java/lang/System" "arraycopy" 5 + 11) ≤ R.locals) (hdg : decode cc pc = .ok (.invokestatic 49, 3))
    (kk : ∀ (H1 : Heap) (locs1 : List Loc), GX ω k q z (mixR M to wk 16) wk s H1 → va_S (Ax ω) H0 H1 locs1 → W p l e R s m args below meth c H1 locs1 cells slots Q (F0 m (pc + 3) ls rest)) : W p l e R s m args below meth c H locs cells slots Q (F0 m pc ls (.int (iI 16) :: .int (iI 0) :: .ref (oR ω to) :: .int (iI 0) :: .ref (ow ω) :: rest)) := by
  have hax : Ax ω (oR ω to) := Or.inr (Or.inr (Or.inr ⟨to, hto, rfl⟩))
  have hK := hG.1.1
  have hc0 := hG.2.2.2.1
  have hc1 := hG.2.2.2.2 to hto
  obtain ⟨-, k0, hk0, cm0, hkk0⟩ := (hK.2 0 _ rfl).1 16 (fun j => .int (iI (wk j)))
  obtain ⟨-, k1, hk1, cm1, hkk1⟩ := (hK.2 0 _ rfl).1 16 (fun j => .int (iI (M to j)))
  intro T hT X
  obtain ⟨vm', X', step⟩ := X.arraycopy hexec hown (hts _ uCopyL) (hts _ uCopyN) (hts _ uCopyS) (hts _ uSysI) (src := ow ω) (dst := oR ω to) (cs := vp_cell (oI ω) (16, .inl (fun i => iI (wk i)))) (cd := vp_cell (oI ω) (16, .inl (fun i => iI (M to i)))) (srcPos := iI 0) (destPos := iI 0) (n := iI 16) (by rw [hT]; exact hc0) (by rw [hT]; exact hc1)
    (fun _ h => by cases h) (fun _ h => by cases h) (fun h => by cases h) (fun h => by cases h) hk0 hk1 hkk0 hkk1 (by simp [refKind]) (by decide) (by decide) (by decide)
    (by rw [vp_cell_i, arrV_size]; decide)
    (by rw [vp_cell_i, arrV_size]; decide)
    (fun vm₁ _ i hi => by
      have h16 : (iI 16).toNatClampNeg = 16 := by decide
      rw [h16] at hi
      have e : (vp_cell (oI ω) (16, .inl (fun i => iI (wk i)))).slots.getD ((iI 0).toNatClampNeg + i) .null = .int (iI (wk i)) := by
        rw [vp_cell_i, show (iI 0).toNatClampNeg + i = i by rw [show (iI 0).toNatClampNeg = 0 by decide]; omega, Array.getD_eq_getD_getElem?, arrV_read _ _ (by omega)]
        rfl
      refine ⟨?_, ?_⟩
      · rw [e]; rfl
      · rw [e]; exact trivial)
    (g := F0 m pc ls (.int (iI 16) :: .int (iI 0) :: .ref (oR ω to) :: .int (iI 0) :: .ref (ow ω) :: rest)) rfl (by rw [hml]) (rest := rest) rfl (by rw [hb]; exact hdg) hframes (by show 2 * 0 + _ + _ ≤ _; omega)
  have e1 : copied (vp_cell (oI ω) (16, .inl (fun i => iI (wk i)))) (vp_cell (oI ω) (16, .inl (fun i => iI (M to i)))) (iI 0) (iI 0) (iI 16) = vp_cell (oI ω) (16, .inl (va_cpy (fun i => iI (wk i)) (fun i => iI (M to i)) (iI 0).toNatClampNeg (iI 0).toNatClampNeg (iI 16).toNatClampNeg)) := va_copied (fun z => .int z) (oI ω) (oI ω) (fun i => iI (wk i)) (fun i => iI (M to i)) (show (iI 0).toNatClampNeg + (iI 16).toNatClampNeg ≤ 16 by decide)
  have e2 : va_cpy (fun i => iI (wk i)) (fun i => iI (M to i)) (iI 0).toNatClampNeg (iI 0).toNatClampNeg (iI 16).toNatClampNeg = fun i => iI (mixR M to wk 16 to i) := by
    funext i
    rw [show (iI 0).toNatClampNeg = 0 by decide, show (iI 16).toNatClampNeg = 16 by decide, mixR_to]
    unfold va_cpy mixI
    by_cases h : i < 16
    · rw [if_pos ⟨by omega, by omega⟩, if_pos h]
      simp
    · rw [if_neg (by omega), if_neg h]
  rw [e1, e2] at X' step
  have hl : oR ω to < H.size := (Array.getElem?_eq_some_iff.mp hc1).1
  generalize hH1 : H.setIfInBounds (oR ω to) (vp_cell (oI ω) (16, .inl (fun i => iI (mixR M to wk 16 to i)))) = H1
  have oq : ∀ q : Nat, q ≠ oR ω to → H1[q]? = H[q]? := fun q hq => by rw [← hH1]; simp [Array.getElem?_setIfInBounds, Ne.symm hq]
  have hz1 : H1.size = H.size := by rw [← hH1]; simp
  have hat : H1[oR ω to]? = some (vp_cell (oI ω) (16, .inl (fun i => iI (mixR M to wk 16 to i)))) := by rw [← hH1]; simp [Array.getElem?_setIfInBounds, hl]
  obtain ⟨d1, d2, d3⟩ := hG.1.2.2
  obtain ⟨n1, n2, n3⟩ := d2 to hto
  have hheap : ((T.setVm vm').setCell (oR ω to) (vp_cell (oI ω) (16, .inl (fun i => iI (mixR M to wk 16 to i))))).heap = H1 := by rw [← hH1, ← hT]; rfl
  obtain ⟨t, a1, b1⟩ := kk H1 _ ⟨gx_new hG hax hz1 oq, ob_one ((hG.2.1 0 _ rfl).kept (oq _ (Ne.symm n1))), by rw [oq _ (Ne.symm n2)]; exact hG.2.2.1, by rw [oq _ (Ne.symm n3)]; exact hG.2.2.2.1, fun t ht => by
      by_cases htr : t = to
      · subst htr
        exact hat
      · rw [oq _ (fun h => htr (d3 t to ht hto h)), hG.2.2.2.2 t ht]
        unfold mixR upR
        rw [if_neg htr]⟩ ⟨by rw [hz1]; exact hS.1, fun x g1 g2 => by
      rw [oq x (fun e => g2 (by rw [e]; exact hax))]
      exact hS.2.1 x g1 g2, fun x hx => by
      rcases List.mem_append.mp hx with h | h
      · exact hS.2.2 x h
      · obtain ⟨z9, -, hz9⟩ := List.mem_map.mp h
        rw [← hz9]
        exact hax⟩ _ hheap X'
  exact ⟨t, step t a1, b1⟩
end GXT
end
section
/-! The class's public methods, by program (wip/gen/rw2.py). -/
set_option maxHeartbeats 4000000 in
set_option maxRecDepth 100000 in
theorem p_round (l : Launch) (htr : l.stackTraces = false) (ω : WX) (k q z : Int) (M : Nat → Nat → Int) (wk : Nat → Int) (to op a d : Int) (to1 : -2147483648 ≤ to) (to2 : to < 2147483648) (op1 : -2147483648 ≤ op) (op2 : op < 2147483648) (a1 : -2147483648 ≤ a) (a2 : a < 2147483648) (d1 : -2147483648 ≤ d) (d2 : d < 2147483648) (hq1 : 3329 ≤ q) (hq2 : q ≤ 8380417) (hM : ∀ r i, r < 12 → i < 16 → 0 ≤ M r i ∧ M r i < q) (k1 : 0 ≤ k) (k2 : k ≤ 1) (qk : q = kQ k) : vx_Met l yX0_round wsX0_round ({ frames := 7, cells := 4, slots := 24, locals := 102 }) (va_Pc [.ref (ox ω), .int (iI (to)), .int (iI (op)), .int (iI (a)), .int (iI (d))] (fun U => GX ω k q z M wk U U.heap)) (va_Qi (fun r_ (_ : Nat → Int) => (((0 ≤ to ∧ to < 12) ∧ (0 ≤ a ∧ a < 12)) ∧ (0 ≤ op ∧ op ≤ 3) ∧ 1 ≤ d ∧ d ≤ kD k) ∧ r_ = iI (sCnt (fun i => sRound q op (M a.toNat i) d.toNat) 16)) (fun w_ t => CX ω k q z (mixR M to.toNat (fun i => sRound q op (M a.toNat i) d.toNat) 16) w_ t.heap) (Ax ω)) (vx_X (fun _ : Unit => True) (fun E _ t => ((¬ ((0 ≤ to ∧ to < 12) ∧ (0 ≤ a ∧ a < 12)) ∧ E = nNSE) ∨ (((0 ≤ to ∧ to < 12) ∧ (0 ≤ a ∧ a < 12)) ∧ ¬ ((0 ≤ op ∧ op ≤ 3) ∧ 1 ≤ d ∧ d ≤ kD k) ∧ E = nIAE)) ∧ CX ω k q z M wk t.heap) (Ax ω)) 4 24 (Ax ω) := by
  refine vx_ofW (cc := cX0_round) (maxL := 6) (ret := (some .int)) (by decide +kernel) rfl ?_
  intro p e s m args below meth c s₁ B hml hnx hv
  obtain ⟨rfl, hG⟩ := hv
  have hx := B.exec
  have hb := B.bytes
  have hrt := B.returns
  have hts : ∀ w ∈ wsU, w.before _ s = true := fun w h => atoms_spec (ws := wsX0_round) B.pre w (List.mem_cons_of_mem _ h)
  have hown : s.vm.findClass "NoiseRing" = some m.cls := findClass_of_methodNamed B.named
  have hlocks := B.notSynchronized
  have hS : va_S (Ax ω) s.heap s.heap [] := va_S.rf
  have hl := lv_entry ([.ref (ox ω), .int (iI (to)), .int (iI (op)), .int (iI (a)), .int (iI (d))]) (n := 6) (Nat.le_of_ble_eq_true rfl)
  rw [lg_entry_eq]
  generalize (lg_sl ([.ref (ox ω), .int (iI (to)), .int (iI (op)), .int (iI (a)), .int (iI (d))]) ++ List.replicate (6 - (lg_sl ([.ref (ox ω), .int (iI (to)), .int (iI (op)), .int (iI (a)), .int (iI (d))])).length) Slot.unset).toArray = ls at hl ⊢
  have hl : lv_has ls 6 [(0, .ref (ox ω)), (1, .int (iI (to))), (2, .int (iI (op))), (3, .int (iI (a))), (4, .int (iI (d)))] := hl
  have hB0 := hG.1
  have hkd : kD k ≤ 22 ∧ 11 ≤ kD k := by unfold kD; split <;> omega
  refine lv_iload_n hx hb dX0_round_0 rfl (lv_at hl 1 rfl) ?_
  refine vx_callv (vx_runS (As := [.int (iI (to))]) (rest := []) ⟨hx, hb, hml, hown, hts⟩ (n_needRegister l htr ω k q z M wk _ (to) (by omega) (by omega)) (va_cwS 1 hts (gU (hd := [.methodLink "NoiseRing" 33 yX0_needRegister, .static yX0_needRegister, .initialized "NoiseRing"]) (List.forall_mem_cons.mpr ⟨u155, List.forall_mem_cons.mpr ⟨u156, List.forall_mem_cons.mpr ⟨u29, fun _ h => by cases h⟩⟩⟩) u157) rfl rfl rfl (by decide +kernel) ⟨Nat.le_of_ble_eq_true rfl, Nat.le_of_ble_eq_true rfl⟩) (gx_Sh hG) rfl rfl hl.1 rfl (lv_room (Nat.le_of_ble_eq_true rfl)) dX0_round_1 ⟨Nat.le_of_ble_eq_true rfl, Nat.le_of_ble_eq_true rfl⟩) hS (fun q9 _ h => h.elim) (fun q9 h => h.elim) (fun q9 _ h => h.elim) (fun E ce q9 u t H1 locs1 ht hvm hpx hBX hz hk hS1 hce hcv hcl => ?_) (fun u t H1 locs1 ht hvm hp1 hB hz hk hS1 => ?_)
  · exact vx_out (E := E) (fun x9 h9 => (hnx x9 h9).elim) hlocks hce hcv hcl (fun t1 ht1 ha1 => ⟨(), trivial, ⟨Or.inl ⟨by omega, hBX.2⟩, by rw [ht1]; exact hG.2.kept (fun a9 g9 => hk a9 g9 (fun f9 => f9))⟩, hS1.F ht1⟩) hS1.2.2 (Nat.le_of_ble_eq_true rfl) (Nat.le_of_ble_eq_true rfl)
  obtain rfl := ht.symm.trans hB
  clear hS
  have hS := hS1
  obtain ⟨to, rfl⟩ := Int.eq_ofNat_of_zero_le hp1.1
  refine lv_iload_n hx hb dX0_round_4 rfl (lv_at hl 3 rfl) ?_
  refine vx_callv (vx_runS (As := [.int (iI (a))]) (rest := []) ⟨hx, hb, hml, hown, hts⟩ (n_needRegister l htr ω k q z M wk _ (a) (by omega) (by omega)) (va_cwS 1 hts (gU (hd := [.methodLink "NoiseRing" 33 yX0_needRegister, .static yX0_needRegister, .initialized "NoiseRing"]) (List.forall_mem_cons.mpr ⟨u155, List.forall_mem_cons.mpr ⟨u156, List.forall_mem_cons.mpr ⟨u29, fun _ h => by cases h⟩⟩⟩) u157) rfl rfl rfl (by decide +kernel) ⟨Nat.le_of_ble_eq_true rfl, Nat.le_of_ble_eq_true rfl⟩) (gx_Sh hG) rfl rfl hl.1 rfl (lv_room (Nat.le_of_ble_eq_true rfl)) dX0_round_5 ⟨Nat.le_of_ble_eq_true rfl, Nat.le_of_ble_eq_true rfl⟩) hS (fun q9 _ h => h.elim) (fun q9 h => h.elim) (fun q9 _ h => h.elim) (fun E ce q9 u t H1 locs1 ht hvm hpx hBX hz hk hS1 hce hcv hcl => ?_) (fun u t H1 locs1 ht hvm hp5 hB hz hk hS1 => ?_)
  · exact vx_out (E := E) (fun x9 h9 => (hnx x9 h9).elim) hlocks hce hcv hcl (fun t1 ht1 ha1 => ⟨(), trivial, ⟨Or.inl ⟨by omega, hBX.2⟩, by rw [ht1]; exact hG.2.kept (fun a9 g9 => hk a9 g9 (fun f9 => f9))⟩, hS1.F ht1⟩) hS1.2.2 (Nat.le_of_ble_eq_true rfl) (Nat.le_of_ble_eq_true rfl)
  obtain rfl := ht.symm.trans hB
  clear hS
  have hS := hS1
  obtain ⟨a, rfl⟩ := Int.eq_ofNat_of_zero_le hp5.1
  refine lv_iload_n hx hb dX0_round_8 rfl (lv_at hl 2 rfl) ?_
  refine ix_if_lt (tgt := 21) hx hb (by omega) (by omega) dX0_round_9 (by decide) (fun h9 => ?_) (fun h9 => ?_)
  · skip
    refine ix_iconst hx hb dX0_round_21 ?_
    refine vx_callv (vx_runS (As := [.int (iI (0))]) (rest := []) ⟨hx, hb, hml, hown, hts⟩ (n_needArgument l htr ω k q z M wk _ (0) (by omega) (by omega)) (va_cwS 1 hts (gU (hd := [.methodLink "NoiseRing" 25 yX0_needArgument, .static yX0_needArgument, .initialized "NoiseRing"]) (List.forall_mem_cons.mpr ⟨u90, List.forall_mem_cons.mpr ⟨u91, List.forall_mem_cons.mpr ⟨u29, fun _ h => by cases h⟩⟩⟩) u92) rfl rfl rfl (by decide +kernel) ⟨Nat.le_of_ble_eq_true rfl, Nat.le_of_ble_eq_true rfl⟩) (gx_Sh hG) rfl rfl hl.1 rfl (lv_room (Nat.le_of_ble_eq_true rfl)) dX0_round_22 ⟨Nat.le_of_ble_eq_true rfl, Nat.le_of_ble_eq_true rfl⟩) hS (fun q9 _ h => h.elim) (fun q9 h => h.elim) (fun q9 _ h => h.elim) (fun E ce q9 u t H1 locs1 ht hvm hpx hBX hz hk hS1 hce hcv hcl => ?_) (fun u t H1 locs1 ht hvm hp22 hB hz hk hS1 => ?_)
    · exact vx_out (E := E) (fun x9 h9 => (hnx x9 h9).elim) hlocks hce hcv hcl (fun t1 ht1 ha1 => ⟨(), trivial, ⟨Or.inr ⟨⟨by omega, by omega⟩, by omega, hBX.2⟩, by rw [ht1]; exact hG.2.kept (fun a9 g9 => hk a9 g9 (fun f9 => f9))⟩, hS1.F ht1⟩) hS1.2.2 (Nat.le_of_ble_eq_true rfl) (Nat.le_of_ble_eq_true rfl)
    exact (hp22 rfl).elim
  · skip
    refine lv_iload_n hx hb dX0_round_12 rfl (lv_at hl 2 rfl) ?_
    refine ix_iconst hx hb dX0_round_13 ?_
    refine ix_icmp_gt (tgt := 21) hx hb (by omega) (by omega) (by omega) (by omega) dX0_round_14 (by decide) (fun h14 => ?_) (fun h14 => ?_)
    · skip
      refine ix_iconst hx hb dX0_round_21 ?_
      refine vx_callv (vx_runS (As := [.int (iI (0))]) (rest := []) ⟨hx, hb, hml, hown, hts⟩ (n_needArgument l htr ω k q z M wk _ (0) (by omega) (by omega)) (va_cwS 1 hts (gU (hd := [.methodLink "NoiseRing" 25 yX0_needArgument, .static yX0_needArgument, .initialized "NoiseRing"]) (List.forall_mem_cons.mpr ⟨u90, List.forall_mem_cons.mpr ⟨u91, List.forall_mem_cons.mpr ⟨u29, fun _ h => by cases h⟩⟩⟩) u92) rfl rfl rfl (by decide +kernel) ⟨Nat.le_of_ble_eq_true rfl, Nat.le_of_ble_eq_true rfl⟩) (gx_Sh hG) rfl rfl hl.1 rfl (lv_room (Nat.le_of_ble_eq_true rfl)) dX0_round_22 ⟨Nat.le_of_ble_eq_true rfl, Nat.le_of_ble_eq_true rfl⟩) hS (fun q9 _ h => h.elim) (fun q9 h => h.elim) (fun q9 _ h => h.elim) (fun E ce q9 u t H1 locs1 ht hvm hpx hBX hz hk hS1 hce hcv hcl => ?_) (fun u t H1 locs1 ht hvm hp22 hB hz hk hS1 => ?_)
      · exact vx_out (E := E) (fun x9 h9 => (hnx x9 h9).elim) hlocks hce hcv hcl (fun t1 ht1 ha1 => ⟨(), trivial, ⟨Or.inr ⟨⟨by omega, by omega⟩, by omega, hBX.2⟩, by rw [ht1]; exact hG.2.kept (fun a9 g9 => hk a9 g9 (fun f9 => f9))⟩, hS1.F ht1⟩) hS1.2.2 (Nat.le_of_ble_eq_true rfl) (Nat.le_of_ble_eq_true rfl)
      exact (hp22 rfl).elim
    · skip
      refine ix_iconst hx hb dX0_round_17 ?_
      refine lv_goto (tgt := 22) hx hb dX0_round_18 (by decide) ?_
      refine vx_callv (vx_runS (As := [.int (iI (1))]) (rest := []) ⟨hx, hb, hml, hown, hts⟩ (n_needArgument l htr ω k q z M wk _ (1) (by omega) (by omega)) (va_cwS 1 hts (gU (hd := [.methodLink "NoiseRing" 25 yX0_needArgument, .static yX0_needArgument, .initialized "NoiseRing"]) (List.forall_mem_cons.mpr ⟨u90, List.forall_mem_cons.mpr ⟨u91, List.forall_mem_cons.mpr ⟨u29, fun _ h => by cases h⟩⟩⟩) u92) rfl rfl rfl (by decide +kernel) ⟨Nat.le_of_ble_eq_true rfl, Nat.le_of_ble_eq_true rfl⟩) (gx_Sh hG) rfl rfl hl.1 rfl (lv_room (Nat.le_of_ble_eq_true rfl)) dX0_round_22 ⟨Nat.le_of_ble_eq_true rfl, Nat.le_of_ble_eq_true rfl⟩) hS (fun q9 _ h => h.elim) (fun q9 h => h.elim) (fun q9 _ h => h.elim) (fun E ce q9 u t H1 locs1 ht hvm hpx hBX hz hk hS1 hce hcv hcl => ?_) (fun u t H1 locs1 ht hvm hp22 hB hz hk hS1 => ?_)
      · exact (hBX.1 (by decide)).elim
      obtain rfl := ht.symm.trans hB
      clear hS
      have hS := hS1
      refine lv_iload hx hb dX0_round_25 (lv_at hl 4 rfl) ?_
      refine ix_iconst hx hb dX0_round_27 ?_
      refine ix_icmp_lt (tgt := 48) hx hb (by omega) (by omega) (by omega) (by omega) dX0_round_28 (by decide) (fun h28 => ?_) (fun h28 => ?_)
      · skip
        refine ix_iconst hx hb dX0_round_48 ?_
        refine vx_callv (vx_runS (As := [.int (iI (0))]) (rest := []) ⟨hx, hb, hml, hown, hts⟩ (n_needArgument l htr ω k q z M wk _ (0) (by omega) (by omega)) (va_cwS 1 hts (gU (hd := [.methodLink "NoiseRing" 25 yX0_needArgument, .static yX0_needArgument, .initialized "NoiseRing"]) (List.forall_mem_cons.mpr ⟨u90, List.forall_mem_cons.mpr ⟨u91, List.forall_mem_cons.mpr ⟨u29, fun _ h => by cases h⟩⟩⟩) u92) rfl rfl rfl (by decide +kernel) ⟨Nat.le_of_ble_eq_true rfl, Nat.le_of_ble_eq_true rfl⟩) (gx_Sh hG) rfl rfl hl.1 rfl (lv_room (Nat.le_of_ble_eq_true rfl)) dX0_round_49 ⟨Nat.le_of_ble_eq_true rfl, Nat.le_of_ble_eq_true rfl⟩) hS (fun q9 _ h => h.elim) (fun q9 h => h.elim) (fun q9 _ h => h.elim) (fun E ce q9 u t H1 locs1 ht hvm hpx hBX hz hk hS1 hce hcv hcl => ?_) (fun u t H1 locs1 ht hvm hp49 hB hz hk hS1 => ?_)
        · exact vx_out (E := E) (fun x9 h9 => (hnx x9 h9).elim) hlocks hce hcv hcl (fun t1 ht1 ha1 => ⟨(), trivial, ⟨Or.inr ⟨⟨by omega, by omega⟩, by omega, hBX.2⟩, by rw [ht1]; exact hG.2.kept (fun a9 g9 => hk a9 g9 (fun f9 => f9))⟩, hS1.F ht1⟩) hS1.2.2 (Nat.le_of_ble_eq_true rfl) (Nat.le_of_ble_eq_true rfl)
        exact (hp49 rfl).elim
      · skip
        refine lv_iload hx hb dX0_round_31 (lv_at hl 4 rfl) ?_
        refine gx_gets hx hb hts hown hB0.2.1.1.2.1 hS u223 dX0_round_33 ?_
        refine lv_aload_n hx hb dX0_round_36 rfl (lv_at hl 0 rfl) ?_
        refine gx_get hx hb hts hown hG 2 (by decide) rfl u57 dX0_round_37 ?_
        refine gx_tab hx hb hB0.2.1.1.2.1 hS (by omega) (by omega) (tbB_k (k := k) (by omega) (by omega)) dX0_round_40 ?_
        refine ix_icmp_gt (tgt := 48) hx hb (by omega) (by omega) (by omega) (by omega) dX0_round_41 (by decide) (fun h41 => ?_) (fun h41 => ?_)
        · skip
          refine ix_iconst hx hb dX0_round_48 ?_
          refine vx_callv (vx_runS (As := [.int (iI (0))]) (rest := []) ⟨hx, hb, hml, hown, hts⟩ (n_needArgument l htr ω k q z M wk _ (0) (by omega) (by omega)) (va_cwS 1 hts (gU (hd := [.methodLink "NoiseRing" 25 yX0_needArgument, .static yX0_needArgument, .initialized "NoiseRing"]) (List.forall_mem_cons.mpr ⟨u90, List.forall_mem_cons.mpr ⟨u91, List.forall_mem_cons.mpr ⟨u29, fun _ h => by cases h⟩⟩⟩) u92) rfl rfl rfl (by decide +kernel) ⟨Nat.le_of_ble_eq_true rfl, Nat.le_of_ble_eq_true rfl⟩) (gx_Sh hG) rfl rfl hl.1 rfl (lv_room (Nat.le_of_ble_eq_true rfl)) dX0_round_49 ⟨Nat.le_of_ble_eq_true rfl, Nat.le_of_ble_eq_true rfl⟩) hS (fun q9 _ h => h.elim) (fun q9 h => h.elim) (fun q9 _ h => h.elim) (fun E ce q9 u t H1 locs1 ht hvm hpx hBX hz hk hS1 hce hcv hcl => ?_) (fun u t H1 locs1 ht hvm hp49 hB hz hk hS1 => ?_)
          · exact vx_out (E := E) (fun x9 h9 => (hnx x9 h9).elim) hlocks hce hcv hcl (fun t1 ht1 ha1 => ⟨(), trivial, ⟨Or.inr ⟨⟨by omega, by omega⟩, by omega, hBX.2⟩, by rw [ht1]; exact hG.2.kept (fun a9 g9 => hk a9 g9 (fun f9 => f9))⟩, hS1.F ht1⟩) hS1.2.2 (Nat.le_of_ble_eq_true rfl) (Nat.le_of_ble_eq_true rfl)
          exact (hp49 rfl).elim
        · skip
          refine ix_iconst hx hb dX0_round_44 ?_
          refine lv_goto (tgt := 49) hx hb dX0_round_45 (by decide) ?_
          refine vx_callv (vx_runS (As := [.int (iI (1))]) (rest := []) ⟨hx, hb, hml, hown, hts⟩ (n_needArgument l htr ω k q z M wk _ (1) (by omega) (by omega)) (va_cwS 1 hts (gU (hd := [.methodLink "NoiseRing" 25 yX0_needArgument, .static yX0_needArgument, .initialized "NoiseRing"]) (List.forall_mem_cons.mpr ⟨u90, List.forall_mem_cons.mpr ⟨u91, List.forall_mem_cons.mpr ⟨u29, fun _ h => by cases h⟩⟩⟩) u92) rfl rfl rfl (by decide +kernel) ⟨Nat.le_of_ble_eq_true rfl, Nat.le_of_ble_eq_true rfl⟩) (gx_Sh hG) rfl rfl hl.1 rfl (lv_room (Nat.le_of_ble_eq_true rfl)) dX0_round_49 ⟨Nat.le_of_ble_eq_true rfl, Nat.le_of_ble_eq_true rfl⟩) hS (fun q9 _ h => h.elim) (fun q9 h => h.elim) (fun q9 _ h => h.elim) (fun E ce q9 u t H1 locs1 ht hvm hpx hBX hz hk hS1 hce hcv hcl => ?_) (fun u t H1 locs1 ht hvm hp49 hB hz hk hS1 => ?_)
          · exact (hBX.1 (by decide)).elim
          obtain rfl := ht.symm.trans hB
          clear hS
          have hS := hS1
          obtain ⟨d, rfl⟩ := Int.eq_ofNat_of_zero_le (show 0 ≤ d by omega)
          have hg : ∀ i, i < 16 → 0 ≤ (fun i => sRound q op (M a i) d) i ∧ (fun i => sRound q op (M a i) d) i < q := fun i hi => by
            have h9 := hM a i (by omega) hi
            have h8 := sRound_lt (k := k) (op := op) (x := M a i) (d := d) h9.1 (by omega) (by omega) (by omega)
            rw [← qk] at h8
            exact h8
          refine ix_iconst hx hb dX0_round_52 ?_
          refine lv_istore (lv' := [(5, .int (iI (0))), (0, .ref (ox ω)), (1, .int (iI (to))), (2, .int (iI (op))), (3, .int (iI (a))), (4, .int (iI (d)))]) hx hb dX0_round_53 hl (by decide) rfl (fun ls hl => ?_)
          refine ix_loopH (I := fun j ls H locs => lv_has ls 6 [(5, .int (iI ((j : Nat)))), (0, .ref (ox ω)), (1, .int (iI (to))), (2, .int (iI (op))), (3, .int (iI (a))), (4, .int (iI (d)))] ∧ GX ω k q z (mixR M to (fun i => sRound q op (M a i) d) (j)) (wk) s H ∧ va_S (Ax ω) s.heap H locs) 16 0 (by omega) ⟨lv_sub hl [0, 1, 2, 3, 4, 5] rfl, (by rw [mixR_0]; exact hG), hS⟩ (fun ls H locs hI => ?_) (fun j ls H locs hj hI ih55 => ?_)
          · obtain ⟨hl, hG, hS⟩ := hI
            have hl : lv_has ls 6 [(5, .int (iI ((16 : Nat)))), (0, .ref (ox ω)), (1, .int (iI (to))), (2, .int (iI (op))), (3, .int (iI (a))), (4, .int (iI (d)))] := hl
            have hM2 := mixR_in (to := to) (n := 16) hM hg
            refine lv_iload hx hb dX0_round_55 (lv_at hl 0 rfl) ?_
            refine ix_bipush hx hb (by decide) dX0_round_57 ?_
            refine ix_icmp_ge (tgt := 93) hx hb (by omega) (by omega) (by omega) (by omega) dX0_round_59 (by decide) (fun h59 => ?_) (fun h59 => absurd h59 (by omega))
            refine lv_aload_n hx hb dX0_round_93 rfl (lv_at hl 1 rfl) ?_
            refine gx_get hx hb hts hown hG 0 (by decide) rfl u55 dX0_round_94 ?_
            refine lv_iload_n hx hb dX0_round_97 rfl (lv_at hl 2 rfl) ?_
            refine gx_row (r := to) hx hb hG (by omega) dX0_round_98 ?_
            refine vp_callSi (va_Run.run (va_runS (As := [.ref (oR ω (to))]) (rest := []) ⟨hx, hb, hml, hown, hts⟩ (c_notZero l ω k q z (mixR M to (fun i => sRound q op (M a i) d) (16)) (wk) (to) (by omega) hq1 hq2 hM2) (va_cwS 1 hts (gU (hd := [.methodLink "NoiseRing" 69 yX0_notZero, .static yX0_notZero, .initialized "NoiseRing"]) (List.forall_mem_cons.mpr ⟨u79, List.forall_mem_cons.mpr ⟨u80, List.forall_mem_cons.mpr ⟨u29, fun _ h => by cases h⟩⟩⟩) u81) rfl rfl rfl (by decide +kernel) ⟨Nat.le_of_ble_eq_true rfl, Nat.le_of_ble_eq_true rfl⟩) (gx_S hG) rfl rfl hl.1 rfl (lv_room (Nat.le_of_ble_eq_true rfl)) dX0_round_99 ⟨Nat.le_of_ble_eq_true rfl, Nat.le_of_ble_eq_true rfl⟩)) (fun r99 hr99 => ?_)
            subst hr99
            refine W.widen (k := 4) (n := 24) (Nat.le_of_ble_eq_true rfl) (Nat.le_of_ble_eq_true rfl) ?_
            exact vx_ret (W.iret hx hb hrt (fun t ht hW => ⟨⟨_, wk, rfl, ⟨by omega, congrArg iI (sCnt_eq (fun i hi => mixR_row hi))⟩, by have h9 := hG.2; rw [← ht] at h9; exact h9⟩, hS.F ht⟩) hS.2.2 dX0_round_102)
          · obtain ⟨hl, hG, hS⟩ := hI
            have hl : lv_has ls 6 [(5, .int (iI ((j : Nat)))), (0, .ref (ox ω)), (1, .int (iI (to))), (2, .int (iI (op))), (3, .int (iI (a))), (4, .int (iI (d)))] := hl
            have hm := hM a j (by omega) hj
            refine lv_iload hx hb dX0_round_55 (lv_at hl 0 rfl) ?_
            refine ix_bipush hx hb (by decide) dX0_round_57 ?_
            refine ix_icmp_ge (tgt := 93) hx hb (by omega) (by omega) (by omega) (by omega) dX0_round_59 (by decide) (fun h59 => absurd h59 (by omega)) (fun h59 => ?_)
            refine lv_aload_n hx hb dX0_round_62 rfl (lv_at hl 1 rfl) ?_
            refine gx_get hx hb hts hown hG 0 (by decide) rfl u55 dX0_round_63 ?_
            refine lv_iload_n hx hb dX0_round_66 rfl (lv_at hl 2 rfl) ?_
            refine gx_row (r := to) hx hb hG (by omega) dX0_round_67 ?_
            refine lv_iload hx hb dX0_round_68 (lv_at hl 0 rfl) ?_
            refine lv_aload_n hx hb dX0_round_70 rfl (lv_at hl 1 rfl) ?_
            refine lv_iload_n hx hb dX0_round_71 rfl (lv_at hl 3 rfl) ?_
            refine lv_aload_n hx hb dX0_round_72 rfl (lv_at hl 1 rfl) ?_
            refine gx_get hx hb hts hown hG 0 (by decide) rfl u55 dX0_round_73 ?_
            refine lv_iload_n hx hb dX0_round_76 rfl (lv_at hl 4 rfl) ?_
            refine gx_row (r := a) hx hb hG (by omega) dX0_round_77 ?_
            refine lv_iload hx hb dX0_round_78 (lv_at hl 0 rfl) ?_
            refine gx_ild (r := a) (i := j) hx hb hG (by omega) (by omega) dX0_round_80 ?_
            refine wx_i (congrArg iI (mixR_at M to (fun i => sRound q op (M a i) d) (a) j)) ?_
            refine lv_iload hx hb dX0_round_81 (lv_at hl 5 rfl) ?_
            refine vp_callSi (va_Run.run (va_runV (As := [.int (iI (op)), .int (iI (M (a) (j))), .int (iI (d))]) (rest := [.int (iI ((j : Nat))), .ref (oR ω (to))]) ⟨hx, hb, hml, hown, hts⟩ (c_rounded l ω k q z (mixR M to (fun i => sRound q op (M a i) d) (j)) (wk) (op) (M (a) (j)) (d) hq1 hq2 (by omega) (by omega) (by omega) (by omega) (by omega) (by omega)) (cwV 3 hts (gU (hd := [.methodLink "NoiseRing" 65 yX0_rounded, .instanceMethod yX0_rounded, .selects "NoiseRing" yX0_rounded yX0_rounded, .initialized "NoiseRing"]) (List.forall_mem_cons.mpr ⟨u224, List.forall_mem_cons.mpr ⟨u225, List.forall_mem_cons.mpr ⟨u8, List.forall_mem_cons.mpr ⟨u29, fun _ h => by cases h⟩⟩⟩⟩) u226) rfl rfl rfl (by decide +kernel) ⟨Nat.le_of_ble_eq_true rfl, Nat.le_of_ble_eq_true rfl⟩) (gx_V hG) rfl rfl hl.1 rfl (lv_room (Nat.le_of_ble_eq_true rfl)) dX0_round_83 ⟨Nat.le_of_ble_eq_true rfl, Nat.le_of_ble_eq_true rfl⟩)) (fun r83 hr83 => ?_)
            subst hr83
            refine gx_ist (r := to) (i := j) hx hb hG hS (by omega) (by omega) dX0_round_86 (fun H1 locs1 hG hS => ?_)
            refine lv_iinc (k := 0) (v := iI ((j : Nat) + 1)) (lv' := [(5, .int (iI ((j : Nat) + 1))), (0, .ref (ox ω)), (1, .int (iI (to))), (2, .int (iI (op))), (3, .int (iI (a))), (4, .int (iI (d)))]) hx hb dX0_round_87 hl rfl (iI_add _ _) (by decide) rfl (fun ls hl => ?_)
            refine lv_goto (tgt := 55) hx hb dX0_round_90 (by decide) ?_
            exact ih55 ls _ _ ⟨lv_sub hl [0, 1, 2, 3, 4, 5] rfl, (by rw [← mixR_s]; exact hG), hS⟩
set_option maxHeartbeats 4000000 in
set_option maxRecDepth 100000 in
theorem p_part (l : Launch) (htr : l.stackTraces = false) (ω : WX) (k q z : Int) (M : Nat → Nat → Int) (wk : Nat → Int) (to a al hi : Int) (to1 : -2147483648 ≤ to) (to2 : to < 2147483648) (a1 : -2147483648 ≤ a) (a2 : a < 2147483648) (al1 : -2147483648 ≤ al) (al2 : al < 2147483648) (hi1 : -2147483648 ≤ hi) (hi2 : hi < 2147483648) (hq1 : 3329 ≤ q) (hq2 : q ≤ 8380417) (hM : ∀ r i, r < 12 → i < 16 → 0 ≤ M r i ∧ M r i < q) : vx_Met l yX0_part wsX0_part ({ frames := 7, cells := 3, slots := 18, locals := 102 }) (va_Pc [.ref (ox ω), .int (iI (to)), .int (iI (a)), .int (iI (al)), .int (iI (hi))] (fun U => GX ω k q z M wk U U.heap)) (va_Qi (fun r_ (_ : Nat → Int) => (((0 ≤ to ∧ to < 12) ∧ (0 ≤ a ∧ a < 12)) ∧ sAli q al = 1) ∧ r_ = iI (sCnt (fun i => if hi = 0 then sRest q (M a.toNat i) al % q else sPart q (M a.toNat i) al) 16)) (fun w_ t => CX ω k q z (mixR M to.toNat (fun i => if hi = 0 then sRest q (M a.toNat i) al % q else sPart q (M a.toNat i) al) 16) w_ t.heap) (Ax ω)) (vx_X (fun _ : Unit => True) (fun E _ t => ((¬ ((0 ≤ to ∧ to < 12) ∧ (0 ≤ a ∧ a < 12)) ∧ E = nNSE) ∨ (((0 ≤ to ∧ to < 12) ∧ (0 ≤ a ∧ a < 12)) ∧ ¬ (sAli q al = 1) ∧ E = nIAE)) ∧ CX ω k q z M wk t.heap) (Ax ω)) 3 18 (Ax ω) := by
  refine vx_ofW (cc := cX0_part) (maxL := 7) (ret := (some .int)) (by decide +kernel) rfl ?_
  intro p e s m args below meth c s₁ B hml hnx hv
  obtain ⟨rfl, hG⟩ := hv
  have hx := B.exec
  have hb := B.bytes
  have hrt := B.returns
  have hts : ∀ w ∈ wsU, w.before _ s = true := fun w h => atoms_spec (ws := wsX0_part) B.pre w (List.mem_cons_of_mem _ h)
  have hown : s.vm.findClass "NoiseRing" = some m.cls := findClass_of_methodNamed B.named
  have hlocks := B.notSynchronized
  have hS : va_S (Ax ω) s.heap s.heap [] := va_S.rf
  have hl := lv_entry ([.ref (ox ω), .int (iI (to)), .int (iI (a)), .int (iI (al)), .int (iI (hi))]) (n := 7) (Nat.le_of_ble_eq_true rfl)
  rw [lg_entry_eq]
  generalize (lg_sl ([.ref (ox ω), .int (iI (to)), .int (iI (a)), .int (iI (al)), .int (iI (hi))]) ++ List.replicate (7 - (lg_sl ([.ref (ox ω), .int (iI (to)), .int (iI (a)), .int (iI (al)), .int (iI (hi))])).length) Slot.unset).toArray = ls at hl ⊢
  have hl : lv_has ls 7 [(0, .ref (ox ω)), (1, .int (iI (to))), (2, .int (iI (a))), (3, .int (iI (al))), (4, .int (iI (hi)))] := hl
  have hB0 := hG.1
  refine lv_iload_n hx hb dX0_part_0 rfl (lv_at hl 1 rfl) ?_
  refine vx_callv (vx_runS (As := [.int (iI (to))]) (rest := []) ⟨hx, hb, hml, hown, hts⟩ (n_needRegister l htr ω k q z M wk _ (to) (by omega) (by omega)) (va_cwS 1 hts (gU (hd := [.methodLink "NoiseRing" 33 yX0_needRegister, .static yX0_needRegister, .initialized "NoiseRing"]) (List.forall_mem_cons.mpr ⟨u155, List.forall_mem_cons.mpr ⟨u156, List.forall_mem_cons.mpr ⟨u29, fun _ h => by cases h⟩⟩⟩) u157) rfl rfl rfl (by decide +kernel) ⟨Nat.le_of_ble_eq_true rfl, Nat.le_of_ble_eq_true rfl⟩) (gx_Sh hG) rfl rfl hl.1 rfl (lv_room (Nat.le_of_ble_eq_true rfl)) dX0_part_1 ⟨Nat.le_of_ble_eq_true rfl, Nat.le_of_ble_eq_true rfl⟩) hS (fun q9 _ h => h.elim) (fun q9 h => h.elim) (fun q9 _ h => h.elim) (fun E ce q9 u t H1 locs1 ht hvm hpx hBX hz hk hS1 hce hcv hcl => ?_) (fun u t H1 locs1 ht hvm hp1 hB hz hk hS1 => ?_)
  · exact vx_out (E := E) (fun x9 h9 => (hnx x9 h9).elim) hlocks hce hcv hcl (fun t1 ht1 ha1 => ⟨(), trivial, ⟨Or.inl ⟨by omega, hBX.2⟩, by rw [ht1]; exact hG.2.kept (fun a9 g9 => hk a9 g9 (fun f9 => f9))⟩, hS1.F ht1⟩) hS1.2.2 (Nat.le_of_ble_eq_true rfl) (Nat.le_of_ble_eq_true rfl)
  obtain rfl := ht.symm.trans hB
  clear hS
  have hS := hS1
  obtain ⟨to, rfl⟩ := Int.eq_ofNat_of_zero_le hp1.1
  refine lv_iload_n hx hb dX0_part_4 rfl (lv_at hl 2 rfl) ?_
  refine vx_callv (vx_runS (As := [.int (iI (a))]) (rest := []) ⟨hx, hb, hml, hown, hts⟩ (n_needRegister l htr ω k q z M wk _ (a) (by omega) (by omega)) (va_cwS 1 hts (gU (hd := [.methodLink "NoiseRing" 33 yX0_needRegister, .static yX0_needRegister, .initialized "NoiseRing"]) (List.forall_mem_cons.mpr ⟨u155, List.forall_mem_cons.mpr ⟨u156, List.forall_mem_cons.mpr ⟨u29, fun _ h => by cases h⟩⟩⟩) u157) rfl rfl rfl (by decide +kernel) ⟨Nat.le_of_ble_eq_true rfl, Nat.le_of_ble_eq_true rfl⟩) (gx_Sh hG) rfl rfl hl.1 rfl (lv_room (Nat.le_of_ble_eq_true rfl)) dX0_part_5 ⟨Nat.le_of_ble_eq_true rfl, Nat.le_of_ble_eq_true rfl⟩) hS (fun q9 _ h => h.elim) (fun q9 h => h.elim) (fun q9 _ h => h.elim) (fun E ce q9 u t H1 locs1 ht hvm hpx hBX hz hk hS1 hce hcv hcl => ?_) (fun u t H1 locs1 ht hvm hp5 hB hz hk hS1 => ?_)
  · exact vx_out (E := E) (fun x9 h9 => (hnx x9 h9).elim) hlocks hce hcv hcl (fun t1 ht1 ha1 => ⟨(), trivial, ⟨Or.inl ⟨by omega, hBX.2⟩, by rw [ht1]; exact hG.2.kept (fun a9 g9 => hk a9 g9 (fun f9 => f9))⟩, hS1.F ht1⟩) hS1.2.2 (Nat.le_of_ble_eq_true rfl) (Nat.le_of_ble_eq_true rfl)
  obtain rfl := ht.symm.trans hB
  clear hS
  have hS := hS1
  obtain ⟨a, rfl⟩ := Int.eq_ofNat_of_zero_le hp5.1
  refine lv_aload_n hx hb dX0_part_8 rfl (lv_at hl 0 rfl) ?_
  refine lv_iload_n hx hb dX0_part_9 rfl (lv_at hl 3 rfl) ?_
  refine vp_callSi (va_Run.run (va_runV (As := [.int (iI (al))]) (rest := []) ⟨hx, hb, hml, hown, hts⟩ (c_isAlpha l ω k q z M wk (al) hq1 hq2 (by omega) (by omega)) (cwV 1 hts (gU (hd := [.methodLink "NoiseRing" 72 yX0_isAlpha, .instanceMethod yX0_isAlpha, .selects "NoiseRing" yX0_isAlpha yX0_isAlpha, .initialized "NoiseRing"]) (List.forall_mem_cons.mpr ⟨u247, List.forall_mem_cons.mpr ⟨u248, List.forall_mem_cons.mpr ⟨u11, List.forall_mem_cons.mpr ⟨u29, fun _ h => by cases h⟩⟩⟩⟩) u249) rfl rfl rfl (by decide +kernel) ⟨Nat.le_of_ble_eq_true rfl, Nat.le_of_ble_eq_true rfl⟩) (gx_V hG) rfl rfl hl.1 rfl (lv_room (Nat.le_of_ble_eq_true rfl)) dX0_part_10 ⟨Nat.le_of_ble_eq_true rfl, Nat.le_of_ble_eq_true rfl⟩)) (fun r10 hr10 => ?_)
  subst hr10
  have hai : sAli q al = 0 ∨ sAli q al = 1 := by unfold sAli; split <;> omega
  refine vx_callv (vx_runS (As := [.int (iI ((sAli q (al))))]) (rest := []) ⟨hx, hb, hml, hown, hts⟩ (n_needArgument l htr ω k q z M wk _ ((sAli q (al))) (by omega) (by omega)) (va_cwS 1 hts (gU (hd := [.methodLink "NoiseRing" 25 yX0_needArgument, .static yX0_needArgument, .initialized "NoiseRing"]) (List.forall_mem_cons.mpr ⟨u90, List.forall_mem_cons.mpr ⟨u91, List.forall_mem_cons.mpr ⟨u29, fun _ h => by cases h⟩⟩⟩) u92) rfl rfl rfl (by decide +kernel) ⟨Nat.le_of_ble_eq_true rfl, Nat.le_of_ble_eq_true rfl⟩) (gx_Sh hG) rfl rfl hl.1 rfl (lv_room (Nat.le_of_ble_eq_true rfl)) dX0_part_13 ⟨Nat.le_of_ble_eq_true rfl, Nat.le_of_ble_eq_true rfl⟩) hS (fun q9 _ h => h.elim) (fun q9 h => h.elim) (fun q9 _ h => h.elim) (fun E ce q9 u t H1 locs1 ht hvm hpx hBX hz hk hS1 hce hcv hcl => ?_) (fun u t H1 locs1 ht hvm hp13 hB hz hk hS1 => ?_)
  · exact vx_out (E := E) (fun x9 h9 => (hnx x9 h9).elim) hlocks hce hcv hcl (fun t1 ht1 ha1 => ⟨(), trivial, ⟨Or.inr ⟨⟨by omega, by omega⟩, by omega, hBX.2⟩, by rw [ht1]; exact hG.2.kept (fun a9 g9 => hk a9 g9 (fun f9 => f9))⟩, hS1.F ht1⟩) hS1.2.2 (Nat.le_of_ble_eq_true rfl) (Nat.le_of_ble_eq_true rfl)
  obtain rfl := ht.symm.trans hB
  clear hS
  have hS := hS1
  have hal := sAl_of (q := q) (a := al) (by omega)
  have hal2 := sAl_lt (q := q) (by omega) hal
  have hg : ∀ i, i < 16 → 0 ≤ (fun i => if hi = 0 then sRest q (M a i) al % q else sPart q (M a i) al) i ∧ (fun i => if hi = 0 then sRest q (M a i) al % q else sPart q (M a i) al) i < q := fun i hi9 => by
    have h9 := hM a i (by omega) hi9
    have h8 := sPart_lt (q := q) (x := M a i) (a := al) h9.1 h9.2 hal2.1 hal2.2
    have h7 := Int.emod_nonneg (sRest q (M a i) al) (show q ≠ 0 by omega)
    have h6 := Int.emod_lt_of_pos (sRest q (M a i) al) (show 0 < q by omega)
    show 0 ≤ (if hi = 0 then _ else _) ∧ (if hi = 0 then _ else _) < q
    split <;> omega
  refine ix_iconst hx hb dX0_part_16 ?_
  refine lv_istore (lv' := [(5, .int (iI (0))), (0, .ref (ox ω)), (1, .int (iI (to))), (2, .int (iI (a))), (3, .int (iI (al))), (4, .int (iI (hi)))]) hx hb dX0_part_17 hl (by decide) rfl (fun ls hl => ?_)
  refine ix_loopH (I := fun j ls H locs => lv_has ls 7 [(5, .int (iI ((j : Nat)))), (0, .ref (ox ω)), (1, .int (iI (to))), (2, .int (iI (a))), (3, .int (iI (al))), (4, .int (iI (hi)))] ∧ GX ω k q z (mixR M to (fun i => if hi = 0 then sRest q (M a i) al % q else sPart q (M a i) al) (j)) (wk) s H ∧ va_S (Ax ω) s.heap H locs) 16 0 (by omega) ⟨lv_sub hl [0, 1, 2, 3, 4, 5] rfl, (by rw [mixR_0]; exact hG), hS⟩ (fun ls H locs hI => ?_) (fun j ls H locs hj hI ih19 => ?_)
  · obtain ⟨hl, hG, hS⟩ := hI
    have hl : lv_has ls 7 [(5, .int (iI ((16 : Nat)))), (0, .ref (ox ω)), (1, .int (iI (to))), (2, .int (iI (a))), (3, .int (iI (al))), (4, .int (iI (hi)))] := hl
    have hM2 := mixR_in (to := to) (n := 16) hM hg
    refine lv_iload hx hb dX0_part_19 (lv_at hl 0 rfl) ?_
    refine ix_bipush hx hb (by decide) dX0_part_21 ?_
    refine ix_icmp_ge (tgt := 81) hx hb (by omega) (by omega) (by omega) (by omega) dX0_part_23 (by decide) (fun h23 => ?_) (fun h23 => absurd h23 (by omega))
    refine lv_aload_n hx hb dX0_part_81 rfl (lv_at hl 1 rfl) ?_
    refine gx_get hx hb hts hown hG 0 (by decide) rfl u55 dX0_part_82 ?_
    refine lv_iload_n hx hb dX0_part_85 rfl (lv_at hl 2 rfl) ?_
    refine gx_row (r := to) hx hb hG (by omega) dX0_part_86 ?_
    refine vp_callSi (va_Run.run (va_runS (As := [.ref (oR ω (to))]) (rest := []) ⟨hx, hb, hml, hown, hts⟩ (c_notZero l ω k q z (mixR M to (fun i => if hi = 0 then sRest q (M a i) al % q else sPart q (M a i) al) (16)) (wk) (to) (by omega) hq1 hq2 hM2) (va_cwS 1 hts (gU (hd := [.methodLink "NoiseRing" 69 yX0_notZero, .static yX0_notZero, .initialized "NoiseRing"]) (List.forall_mem_cons.mpr ⟨u79, List.forall_mem_cons.mpr ⟨u80, List.forall_mem_cons.mpr ⟨u29, fun _ h => by cases h⟩⟩⟩) u81) rfl rfl rfl (by decide +kernel) ⟨Nat.le_of_ble_eq_true rfl, Nat.le_of_ble_eq_true rfl⟩) (gx_S hG) rfl rfl hl.1 rfl (lv_room (Nat.le_of_ble_eq_true rfl)) dX0_part_87 ⟨Nat.le_of_ble_eq_true rfl, Nat.le_of_ble_eq_true rfl⟩)) (fun r87 hr87 => ?_)
    subst hr87
    refine W.widen (k := 3) (n := 18) (Nat.le_of_ble_eq_true rfl) (Nat.le_of_ble_eq_true rfl) ?_
    exact vx_ret (W.iret hx hb hrt (fun t ht hW => ⟨⟨_, wk, rfl, ⟨by omega, congrArg iI (sCnt_eq (fun i hi9 => mixR_row hi9))⟩, by have h9 := hG.2; rw [← ht] at h9; exact h9⟩, hS.F ht⟩) hS.2.2 dX0_part_90)
  · obtain ⟨hl, hG, hS⟩ := hI
    have hl : lv_has ls 7 [(5, .int (iI ((j : Nat)))), (0, .ref (ox ω)), (1, .int (iI (to))), (2, .int (iI (a))), (3, .int (iI (al))), (4, .int (iI (hi)))] := hl
    have hm := hM a j (by omega) hj
    have hn := sNear_in (x := M a j) (show 0 < al by omega)
    have hrr : -2147483648 ≤ sRest q (M (a) (j)) (al) ∧ sRest q (M (a) (j)) (al) < 2147483648 := by
      unfold sRest
      split <;> omega
    refine lv_iload hx hb dX0_part_19 (lv_at hl 0 rfl) ?_
    refine ix_bipush hx hb (by decide) dX0_part_21 ?_
    refine ix_icmp_ge (tgt := 81) hx hb (by omega) (by omega) (by omega) (by omega) dX0_part_23 (by decide) (fun h23 => absurd h23 (by omega)) (fun h23 => ?_)
    refine lv_aload_n hx hb dX0_part_26 rfl (lv_at hl 1 rfl) ?_
    refine gx_get hx hb hts hown hG 0 (by decide) rfl u55 dX0_part_27 ?_
    refine lv_iload_n hx hb dX0_part_30 rfl (lv_at hl 3 rfl) ?_
    refine gx_row (r := a) hx hb hG (by omega) dX0_part_31 ?_
    refine lv_iload hx hb dX0_part_32 (lv_at hl 0 rfl) ?_
    refine gx_ild (r := a) (i := j) hx hb hG (by omega) (by omega) dX0_part_34 ?_
    refine wx_i (congrArg iI (mixR_at M to (fun i => if hi = 0 then sRest q (M a i) al % q else sPart q (M a i) al) (a) j)) ?_
    refine lv_istore (lv' := [(6, .int (iI (M (a) (j)))), (5, .int (iI ((j : Nat)))), (0, .ref (ox ω)), (1, .int (iI (to))), (2, .int (iI (a))), (3, .int (iI (al))), (4, .int (iI (hi)))]) hx hb dX0_part_35 hl (by decide) rfl (fun ls hl => ?_)
    refine lv_aload_n hx hb dX0_part_37 rfl (lv_at hl 2 rfl) ?_
    refine gx_get hx hb hts hown hG 0 (by decide) rfl u55 dX0_part_38 ?_
    refine lv_iload_n hx hb dX0_part_41 rfl (lv_at hl 3 rfl) ?_
    refine gx_row (r := to) hx hb hG (by omega) dX0_part_42 ?_
    refine lv_iload hx hb dX0_part_43 (lv_at hl 1 rfl) ?_
    refine lv_iload hx hb dX0_part_45 (lv_at hl 6 rfl) ?_
    refine ix_if_eq (tgt := 60) hx hb (by omega) (by omega) dX0_part_47 (by decide) (fun h47 => ?_) (fun h47 => ?_)
    · skip
      refine lv_aload_n hx hb dX0_part_60 rfl (lv_at hl 2 rfl) ?_
      refine lv_iload hx hb dX0_part_61 (lv_at hl 0 rfl) ?_
      refine lv_iload_n hx hb dX0_part_63 rfl (lv_at hl 5 rfl) ?_
      refine vp_callSi (va_Run.run (va_runV (As := [.int (iI (M (a) (j))), .int (iI (al))]) (rest := [.int (iI ((j : Nat))), .ref (oR ω (to))]) ⟨hx, hb, hml, hown, hts⟩ (c_restOf l ω k q z (mixR M to (fun i => if hi = 0 then sRest q (M a i) al % q else sPart q (M a i) al) (j)) (wk) (M (a) (j)) (al) hq1 hq2 (by omega) (by omega) (by omega) (by omega) hal.2.1) (cwV 2 hts (gU (hd := [.methodLink "NoiseRing" 79 yX0_restOf, .instanceMethod yX0_restOf, .selects "NoiseRing" yX0_restOf yX0_restOf, .initialized "NoiseRing"]) (List.forall_mem_cons.mpr ⟨u256, List.forall_mem_cons.mpr ⟨u257, List.forall_mem_cons.mpr ⟨u13, List.forall_mem_cons.mpr ⟨u29, fun _ h => by cases h⟩⟩⟩⟩) u258) rfl rfl rfl (by decide +kernel) ⟨Nat.le_of_ble_eq_true rfl, Nat.le_of_ble_eq_true rfl⟩) (gx_V hG) rfl rfl hl.1 rfl (lv_room (Nat.le_of_ble_eq_true rfl)) dX0_part_64 ⟨Nat.le_of_ble_eq_true rfl, Nat.le_of_ble_eq_true rfl⟩)) (fun r64 hr64 => ?_)
      subst hr64
      refine lv_aload_n hx hb dX0_part_67 rfl (lv_at hl 2 rfl) ?_
      refine gx_get hx hb hts hown hG 3 (by decide) rfl u58 dX0_part_68 ?_
      refine vp_callSi (va_Run.run (va_runS (As := [.int (iI ((sRest q (M (a) (j)) (al)))), .int (iI (q))]) (rest := [.int (iI ((j : Nat))), .ref (oR ω (to))]) ⟨hx, hb, hml, hown, hts⟩ (c_floorModI l ((sRest q (M (a) (j)) (al))) (q) (by omega) (by omega) (by omega) (by omega)) (va_cwS 2 hts (gU (hd := [.methodLink "NoiseRing" 39 yJ_floorModI, .static yJ_floorModI, .initialized "java/lang/Math"]) (List.forall_mem_cons.mpr ⟨u175, List.forall_mem_cons.mpr ⟨u176, List.forall_mem_cons.mpr ⟨u36, fun _ h => by cases h⟩⟩⟩) u177) rfl rfl rfl (by decide +kernel) ⟨Nat.le_of_ble_eq_true rfl, Nat.le_of_ble_eq_true rfl⟩) gn_S rfl rfl hl.1 rfl (lv_room (Nat.le_of_ble_eq_true rfl)) dX0_part_71 ⟨Nat.le_of_ble_eq_true rfl, Nat.le_of_ble_eq_true rfl⟩)) (fun r71 hr71 => ?_)
      subst hr71
      refine wx_i (congrArg iI (show ((sRest q (M (a) (j)) (al)) % q) = (fun i => if hi = 0 then sRest q (M a i) al % q else sPart q (M a i) al) j from ?_)) ?_
      · show _ = if hi = 0 then sRest q (M a j) al % q else sPart q (M a j) al
        first | rw [if_pos (by omega)] | rw [if_neg (by omega)]
      refine gx_ist (r := to) (i := j) hx hb hG hS (by omega) (by omega) dX0_part_74 (fun H1 locs1 hG hS => ?_)
      refine lv_iinc (k := 1) (v := iI ((j : Nat) + 1)) (lv' := [(5, .int (iI ((j : Nat) + 1))), (6, .int (iI (M (a) (j)))), (0, .ref (ox ω)), (1, .int (iI (to))), (2, .int (iI (a))), (3, .int (iI (al))), (4, .int (iI (hi)))]) hx hb dX0_part_75 hl rfl (iI_add _ _) (by decide) rfl (fun ls hl => ?_)
      refine lv_goto (tgt := 19) hx hb dX0_part_78 (by decide) ?_
      exact ih19 ls _ _ ⟨lv_sub hl [0, 2, 3, 4, 5, 6] rfl, (by rw [← mixR_s]; exact hG), hS⟩
    · skip
      refine lv_aload_n hx hb dX0_part_50 rfl (lv_at hl 2 rfl) ?_
      refine lv_iload hx hb dX0_part_51 (lv_at hl 0 rfl) ?_
      refine lv_iload_n hx hb dX0_part_53 rfl (lv_at hl 5 rfl) ?_
      refine vp_callSi (va_Run.run (va_runV (As := [.int (iI (M (a) (j))), .int (iI (al))]) (rest := [.int (iI ((j : Nat))), .ref (oR ω (to))]) ⟨hx, hb, hml, hown, hts⟩ (c_partOf l ω k q z (mixR M to (fun i => if hi = 0 then sRest q (M a i) al % q else sPart q (M a i) al) (j)) (wk) (M (a) (j)) (al) hq1 hq2 (by omega) (by omega) (by omega) (by omega) hal.2.1) (cwV 2 hts (gU (hd := [.methodLink "NoiseRing" 76 yX0_partOf, .instanceMethod yX0_partOf, .selects "NoiseRing" yX0_partOf yX0_partOf, .initialized "NoiseRing"]) (List.forall_mem_cons.mpr ⟨u250, List.forall_mem_cons.mpr ⟨u251, List.forall_mem_cons.mpr ⟨u12, List.forall_mem_cons.mpr ⟨u29, fun _ h => by cases h⟩⟩⟩⟩) u252) rfl rfl rfl (by decide +kernel) ⟨Nat.le_of_ble_eq_true rfl, Nat.le_of_ble_eq_true rfl⟩) (gx_V hG) rfl rfl hl.1 rfl (lv_room (Nat.le_of_ble_eq_true rfl)) dX0_part_54 ⟨Nat.le_of_ble_eq_true rfl, Nat.le_of_ble_eq_true rfl⟩)) (fun r54 hr54 => ?_)
      subst hr54
      refine lv_goto (tgt := 74) hx hb dX0_part_57 (by decide) ?_
      refine wx_i (congrArg iI (show (sPart q (M (a) (j)) (al)) = (fun i => if hi = 0 then sRest q (M a i) al % q else sPart q (M a i) al) j from ?_)) ?_
      · show _ = if hi = 0 then sRest q (M a j) al % q else sPart q (M a j) al
        first | rw [if_pos (by omega)] | rw [if_neg (by omega)]
      refine gx_ist (r := to) (i := j) hx hb hG hS (by omega) (by omega) dX0_part_74 (fun H1 locs1 hG hS => ?_)
      refine lv_iinc (k := 1) (v := iI ((j : Nat) + 1)) (lv' := [(5, .int (iI ((j : Nat) + 1))), (6, .int (iI (M (a) (j)))), (0, .ref (ox ω)), (1, .int (iI (to))), (2, .int (iI (a))), (3, .int (iI (al))), (4, .int (iI (hi)))]) hx hb dX0_part_75 hl rfl (iI_add _ _) (by decide) rfl (fun ls hl => ?_)
      refine lv_goto (tgt := 19) hx hb dX0_part_78 (by decide) ?_
      exact ih19 ls _ _ ⟨lv_sub hl [0, 2, 3, 4, 5, 6] rfl, (by rw [← mixR_s]; exact hG), hS⟩
set_option maxHeartbeats 4000000 in
set_option maxRecDepth 100000 in
theorem p_hint (l : Launch) (htr : l.stackTraces = false) (ω : WX) (k q z : Int) (M : Nat → Nat → Int) (wk : Nat → Int) (to a b al : Int) (to1 : -2147483648 ≤ to) (to2 : to < 2147483648) (a1 : -2147483648 ≤ a) (a2 : a < 2147483648) (b1 : -2147483648 ≤ b) (b2 : b < 2147483648) (al1 : -2147483648 ≤ al) (al2 : al < 2147483648) (hq1 : 3329 ≤ q) (hq2 : q ≤ 8380417) (hM : ∀ r i, r < 12 → i < 16 → 0 ≤ M r i ∧ M r i < q) : vx_Met l yX0_hint wsX0_hint ({ frames := 7, cells := 4, slots := 24, locals := 102 }) (va_Pc [.ref (ox ω), .int (iI (to)), .int (iI (a)), .int (iI (b)), .int (iI (al))] (fun U => GX ω k q z M wk U U.heap)) (va_Qi (fun r_ (_ : Nat → Int) => (((0 ≤ to ∧ to < 12) ∧ (0 ≤ a ∧ a < 12) ∧ (0 ≤ b ∧ b < 12)) ∧ sAli q al = 1) ∧ r_ = iI (sCnt (fun i => sHint q al (M a.toNat i) (M b.toNat i)) 16)) (fun w_ t => CX ω k q z (mixR M to.toNat (fun i => sHint q al (M a.toNat i) (M b.toNat i)) 16) w_ t.heap) (Ax ω)) (vx_X (fun _ : Unit => True) (fun E _ t => ((¬ ((0 ≤ to ∧ to < 12) ∧ (0 ≤ a ∧ a < 12) ∧ (0 ≤ b ∧ b < 12)) ∧ E = nNSE) ∨ (((0 ≤ to ∧ to < 12) ∧ (0 ≤ a ∧ a < 12) ∧ (0 ≤ b ∧ b < 12)) ∧ ¬ (sAli q al = 1) ∧ E = nIAE)) ∧ CX ω k q z M wk t.heap) (Ax ω)) 4 24 (Ax ω) := by
  refine vx_ofW (cc := cX0_hint) (maxL := 8) (ret := (some .int)) (by decide +kernel) rfl ?_
  intro p e s m args below meth c s₁ B hml hnx hv
  obtain ⟨rfl, hG⟩ := hv
  have hx := B.exec
  have hb := B.bytes
  have hrt := B.returns
  have hts : ∀ w ∈ wsU, w.before _ s = true := fun w h => atoms_spec (ws := wsX0_hint) B.pre w (List.mem_cons_of_mem _ h)
  have hown : s.vm.findClass "NoiseRing" = some m.cls := findClass_of_methodNamed B.named
  have hlocks := B.notSynchronized
  have hS : va_S (Ax ω) s.heap s.heap [] := va_S.rf
  have hl := lv_entry ([.ref (ox ω), .int (iI (to)), .int (iI (a)), .int (iI (b)), .int (iI (al))]) (n := 8) (Nat.le_of_ble_eq_true rfl)
  rw [lg_entry_eq]
  generalize (lg_sl ([.ref (ox ω), .int (iI (to)), .int (iI (a)), .int (iI (b)), .int (iI (al))]) ++ List.replicate (8 - (lg_sl ([.ref (ox ω), .int (iI (to)), .int (iI (a)), .int (iI (b)), .int (iI (al))])).length) Slot.unset).toArray = ls at hl ⊢
  have hl : lv_has ls 8 [(0, .ref (ox ω)), (1, .int (iI (to))), (2, .int (iI (a))), (3, .int (iI (b))), (4, .int (iI (al)))] := hl
  have hB0 := hG.1
  refine lv_iload_n hx hb dX0_hint_0 rfl (lv_at hl 1 rfl) ?_
  refine vx_callv (vx_runS (As := [.int (iI (to))]) (rest := []) ⟨hx, hb, hml, hown, hts⟩ (n_needRegister l htr ω k q z M wk _ (to) (by omega) (by omega)) (va_cwS 1 hts (gU (hd := [.methodLink "NoiseRing" 33 yX0_needRegister, .static yX0_needRegister, .initialized "NoiseRing"]) (List.forall_mem_cons.mpr ⟨u155, List.forall_mem_cons.mpr ⟨u156, List.forall_mem_cons.mpr ⟨u29, fun _ h => by cases h⟩⟩⟩) u157) rfl rfl rfl (by decide +kernel) ⟨Nat.le_of_ble_eq_true rfl, Nat.le_of_ble_eq_true rfl⟩) (gx_Sh hG) rfl rfl hl.1 rfl (lv_room (Nat.le_of_ble_eq_true rfl)) dX0_hint_1 ⟨Nat.le_of_ble_eq_true rfl, Nat.le_of_ble_eq_true rfl⟩) hS (fun q9 _ h => h.elim) (fun q9 h => h.elim) (fun q9 _ h => h.elim) (fun E ce q9 u t H1 locs1 ht hvm hpx hBX hz hk hS1 hce hcv hcl => ?_) (fun u t H1 locs1 ht hvm hp1 hB hz hk hS1 => ?_)
  · exact vx_out (E := E) (fun x9 h9 => (hnx x9 h9).elim) hlocks hce hcv hcl (fun t1 ht1 ha1 => ⟨(), trivial, ⟨Or.inl ⟨by omega, hBX.2⟩, by rw [ht1]; exact hG.2.kept (fun a9 g9 => hk a9 g9 (fun f9 => f9))⟩, hS1.F ht1⟩) hS1.2.2 (Nat.le_of_ble_eq_true rfl) (Nat.le_of_ble_eq_true rfl)
  obtain rfl := ht.symm.trans hB
  clear hS
  have hS := hS1
  obtain ⟨to, rfl⟩ := Int.eq_ofNat_of_zero_le hp1.1
  refine lv_iload_n hx hb dX0_hint_4 rfl (lv_at hl 2 rfl) ?_
  refine vx_callv (vx_runS (As := [.int (iI (a))]) (rest := []) ⟨hx, hb, hml, hown, hts⟩ (n_needRegister l htr ω k q z M wk _ (a) (by omega) (by omega)) (va_cwS 1 hts (gU (hd := [.methodLink "NoiseRing" 33 yX0_needRegister, .static yX0_needRegister, .initialized "NoiseRing"]) (List.forall_mem_cons.mpr ⟨u155, List.forall_mem_cons.mpr ⟨u156, List.forall_mem_cons.mpr ⟨u29, fun _ h => by cases h⟩⟩⟩) u157) rfl rfl rfl (by decide +kernel) ⟨Nat.le_of_ble_eq_true rfl, Nat.le_of_ble_eq_true rfl⟩) (gx_Sh hG) rfl rfl hl.1 rfl (lv_room (Nat.le_of_ble_eq_true rfl)) dX0_hint_5 ⟨Nat.le_of_ble_eq_true rfl, Nat.le_of_ble_eq_true rfl⟩) hS (fun q9 _ h => h.elim) (fun q9 h => h.elim) (fun q9 _ h => h.elim) (fun E ce q9 u t H1 locs1 ht hvm hpx hBX hz hk hS1 hce hcv hcl => ?_) (fun u t H1 locs1 ht hvm hp5 hB hz hk hS1 => ?_)
  · exact vx_out (E := E) (fun x9 h9 => (hnx x9 h9).elim) hlocks hce hcv hcl (fun t1 ht1 ha1 => ⟨(), trivial, ⟨Or.inl ⟨by omega, hBX.2⟩, by rw [ht1]; exact hG.2.kept (fun a9 g9 => hk a9 g9 (fun f9 => f9))⟩, hS1.F ht1⟩) hS1.2.2 (Nat.le_of_ble_eq_true rfl) (Nat.le_of_ble_eq_true rfl)
  obtain rfl := ht.symm.trans hB
  clear hS
  have hS := hS1
  obtain ⟨a, rfl⟩ := Int.eq_ofNat_of_zero_le hp5.1
  refine lv_iload_n hx hb dX0_hint_8 rfl (lv_at hl 3 rfl) ?_
  refine vx_callv (vx_runS (As := [.int (iI (b))]) (rest := []) ⟨hx, hb, hml, hown, hts⟩ (n_needRegister l htr ω k q z M wk _ (b) (by omega) (by omega)) (va_cwS 1 hts (gU (hd := [.methodLink "NoiseRing" 33 yX0_needRegister, .static yX0_needRegister, .initialized "NoiseRing"]) (List.forall_mem_cons.mpr ⟨u155, List.forall_mem_cons.mpr ⟨u156, List.forall_mem_cons.mpr ⟨u29, fun _ h => by cases h⟩⟩⟩) u157) rfl rfl rfl (by decide +kernel) ⟨Nat.le_of_ble_eq_true rfl, Nat.le_of_ble_eq_true rfl⟩) (gx_Sh hG) rfl rfl hl.1 rfl (lv_room (Nat.le_of_ble_eq_true rfl)) dX0_hint_9 ⟨Nat.le_of_ble_eq_true rfl, Nat.le_of_ble_eq_true rfl⟩) hS (fun q9 _ h => h.elim) (fun q9 h => h.elim) (fun q9 _ h => h.elim) (fun E ce q9 u t H1 locs1 ht hvm hpx hBX hz hk hS1 hce hcv hcl => ?_) (fun u t H1 locs1 ht hvm hp9 hB hz hk hS1 => ?_)
  · exact vx_out (E := E) (fun x9 h9 => (hnx x9 h9).elim) hlocks hce hcv hcl (fun t1 ht1 ha1 => ⟨(), trivial, ⟨Or.inl ⟨by omega, hBX.2⟩, by rw [ht1]; exact hG.2.kept (fun a9 g9 => hk a9 g9 (fun f9 => f9))⟩, hS1.F ht1⟩) hS1.2.2 (Nat.le_of_ble_eq_true rfl) (Nat.le_of_ble_eq_true rfl)
  obtain rfl := ht.symm.trans hB
  clear hS
  have hS := hS1
  obtain ⟨b, rfl⟩ := Int.eq_ofNat_of_zero_le hp9.1
  refine lv_aload_n hx hb dX0_hint_12 rfl (lv_at hl 0 rfl) ?_
  refine lv_iload hx hb dX0_hint_13 (lv_at hl 4 rfl) ?_
  refine vp_callSi (va_Run.run (va_runV (As := [.int (iI (al))]) (rest := []) ⟨hx, hb, hml, hown, hts⟩ (c_isAlpha l ω k q z M wk (al) hq1 hq2 (by omega) (by omega)) (cwV 1 hts (gU (hd := [.methodLink "NoiseRing" 72 yX0_isAlpha, .instanceMethod yX0_isAlpha, .selects "NoiseRing" yX0_isAlpha yX0_isAlpha, .initialized "NoiseRing"]) (List.forall_mem_cons.mpr ⟨u247, List.forall_mem_cons.mpr ⟨u248, List.forall_mem_cons.mpr ⟨u11, List.forall_mem_cons.mpr ⟨u29, fun _ h => by cases h⟩⟩⟩⟩) u249) rfl rfl rfl (by decide +kernel) ⟨Nat.le_of_ble_eq_true rfl, Nat.le_of_ble_eq_true rfl⟩) (gx_V hG) rfl rfl hl.1 rfl (lv_room (Nat.le_of_ble_eq_true rfl)) dX0_hint_15 ⟨Nat.le_of_ble_eq_true rfl, Nat.le_of_ble_eq_true rfl⟩)) (fun r15 hr15 => ?_)
  subst hr15
  have hai : sAli q al = 0 ∨ sAli q al = 1 := by unfold sAli; split <;> omega
  refine vx_callv (vx_runS (As := [.int (iI ((sAli q (al))))]) (rest := []) ⟨hx, hb, hml, hown, hts⟩ (n_needArgument l htr ω k q z M wk _ ((sAli q (al))) (by omega) (by omega)) (va_cwS 1 hts (gU (hd := [.methodLink "NoiseRing" 25 yX0_needArgument, .static yX0_needArgument, .initialized "NoiseRing"]) (List.forall_mem_cons.mpr ⟨u90, List.forall_mem_cons.mpr ⟨u91, List.forall_mem_cons.mpr ⟨u29, fun _ h => by cases h⟩⟩⟩) u92) rfl rfl rfl (by decide +kernel) ⟨Nat.le_of_ble_eq_true rfl, Nat.le_of_ble_eq_true rfl⟩) (gx_Sh hG) rfl rfl hl.1 rfl (lv_room (Nat.le_of_ble_eq_true rfl)) dX0_hint_18 ⟨Nat.le_of_ble_eq_true rfl, Nat.le_of_ble_eq_true rfl⟩) hS (fun q9 _ h => h.elim) (fun q9 h => h.elim) (fun q9 _ h => h.elim) (fun E ce q9 u t H1 locs1 ht hvm hpx hBX hz hk hS1 hce hcv hcl => ?_) (fun u t H1 locs1 ht hvm hp18 hB hz hk hS1 => ?_)
  · exact vx_out (E := E) (fun x9 h9 => (hnx x9 h9).elim) hlocks hce hcv hcl (fun t1 ht1 ha1 => ⟨(), trivial, ⟨Or.inr ⟨⟨by omega, by omega, by omega⟩, by omega, hBX.2⟩, by rw [ht1]; exact hG.2.kept (fun a9 g9 => hk a9 g9 (fun f9 => f9))⟩, hS1.F ht1⟩) hS1.2.2 (Nat.le_of_ble_eq_true rfl) (Nat.le_of_ble_eq_true rfl)
  obtain rfl := ht.symm.trans hB
  clear hS
  have hS := hS1
  have hal := sAl_of (q := q) (a := al) (by omega)
  have hal2 := sAl_lt (q := q) (by omega) hal
  have hg : ∀ i, i < 16 → 0 ≤ (fun i => sHint q al (M a i) (M b i)) i ∧ (fun i => sHint q al (M a i) (M b i)) i < q := fun i hi9 => sHint_lt (by omega)
  refine ix_iconst hx hb dX0_hint_21 ?_
  refine lv_istore (lv' := [(5, .int (iI (0))), (0, .ref (ox ω)), (1, .int (iI (to))), (2, .int (iI (a))), (3, .int (iI (b))), (4, .int (iI (al)))]) hx hb dX0_hint_22 hl (by decide) rfl (fun ls hl => ?_)
  refine ix_loopH (I := fun j ls H locs => lv_has ls 8 [(5, .int (iI ((j : Nat)))), (0, .ref (ox ω)), (1, .int (iI (to))), (2, .int (iI (a))), (3, .int (iI (b))), (4, .int (iI (al)))] ∧ GX ω k q z (mixR M to (fun i => sHint q al (M a i) (M b i)) (j)) (wk) s H ∧ va_S (Ax ω) s.heap H locs) 16 0 (by omega) ⟨lv_sub hl [0, 1, 2, 3, 4, 5] rfl, (by rw [mixR_0]; exact hG), hS⟩ (fun ls H locs hI => ?_) (fun j ls H locs hj hI ih24 => ?_)
  · obtain ⟨hl, hG, hS⟩ := hI
    have hl : lv_has ls 8 [(5, .int (iI ((16 : Nat)))), (0, .ref (ox ω)), (1, .int (iI (to))), (2, .int (iI (a))), (3, .int (iI (b))), (4, .int (iI (al)))] := hl
    have hM2 := mixR_in (to := to) (n := 16) hM hg
    refine lv_iload hx hb dX0_hint_24 (lv_at hl 0 rfl) ?_
    refine ix_bipush hx hb (by decide) dX0_hint_26 ?_
    refine ix_icmp_ge (tgt := 100) hx hb (by omega) (by omega) (by omega) (by omega) dX0_hint_28 (by decide) (fun h28 => ?_) (fun h28 => absurd h28 (by omega))
    refine lv_aload_n hx hb dX0_hint_100 rfl (lv_at hl 1 rfl) ?_
    refine gx_get hx hb hts hown hG 0 (by decide) rfl u55 dX0_hint_101 ?_
    refine lv_iload_n hx hb dX0_hint_104 rfl (lv_at hl 2 rfl) ?_
    refine gx_row (r := to) hx hb hG (by omega) dX0_hint_105 ?_
    refine vp_callSi (va_Run.run (va_runS (As := [.ref (oR ω (to))]) (rest := []) ⟨hx, hb, hml, hown, hts⟩ (c_notZero l ω k q z (mixR M to (fun i => sHint q al (M a i) (M b i)) (16)) (wk) (to) (by omega) hq1 hq2 hM2) (va_cwS 1 hts (gU (hd := [.methodLink "NoiseRing" 69 yX0_notZero, .static yX0_notZero, .initialized "NoiseRing"]) (List.forall_mem_cons.mpr ⟨u79, List.forall_mem_cons.mpr ⟨u80, List.forall_mem_cons.mpr ⟨u29, fun _ h => by cases h⟩⟩⟩) u81) rfl rfl rfl (by decide +kernel) ⟨Nat.le_of_ble_eq_true rfl, Nat.le_of_ble_eq_true rfl⟩) (gx_S hG) rfl rfl hl.1 rfl (lv_room (Nat.le_of_ble_eq_true rfl)) dX0_hint_106 ⟨Nat.le_of_ble_eq_true rfl, Nat.le_of_ble_eq_true rfl⟩)) (fun r106 hr106 => ?_)
    subst hr106
    refine W.widen (k := 4) (n := 24) (Nat.le_of_ble_eq_true rfl) (Nat.le_of_ble_eq_true rfl) ?_
    exact vx_ret (W.iret hx hb hrt (fun t ht hW => ⟨⟨_, wk, rfl, ⟨by omega, congrArg iI (sCnt_eq (fun i hi9 => mixR_row hi9))⟩, by have h9 := hG.2; rw [← ht] at h9; exact h9⟩, hS.F ht⟩) hS.2.2 dX0_hint_109)
  · obtain ⟨hl, hG, hS⟩ := hI
    have hl : lv_has ls 8 [(5, .int (iI ((j : Nat)))), (0, .ref (ox ω)), (1, .int (iI (to))), (2, .int (iI (a))), (3, .int (iI (b))), (4, .int (iI (al)))] := hl
    have hm := hM a j (by omega) hj
    have hmb := hM b j (by omega) hj
    have ho1 := Int.emod_nonneg (M a j + M b j) (show q ≠ 0 by omega)
    have ho2 := Int.emod_lt_of_pos (M a j + M b j) (show 0 < q by omega)
    have hp1 := sPart_lt (q := q) (x := M a j) (a := al) hm.1 hm.2 hal2.1 hal2.2
    have hp2 := sPart_lt (q := q) (x := (M a j + M b j) % q) (a := al) ho1 ho2 hal2.1 hal2.2
    refine lv_iload hx hb dX0_hint_24 (lv_at hl 0 rfl) ?_
    refine ix_bipush hx hb (by decide) dX0_hint_26 ?_
    refine ix_icmp_ge (tgt := 100) hx hb (by omega) (by omega) (by omega) (by omega) dX0_hint_28 (by decide) (fun h28 => absurd h28 (by omega)) (fun h28 => ?_)
    refine lv_aload_n hx hb dX0_hint_31 rfl (lv_at hl 1 rfl) ?_
    refine gx_get hx hb hts hown hG 0 (by decide) rfl u55 dX0_hint_32 ?_
    refine lv_iload_n hx hb dX0_hint_35 rfl (lv_at hl 3 rfl) ?_
    refine gx_row (r := a) hx hb hG (by omega) dX0_hint_36 ?_
    refine lv_iload hx hb dX0_hint_37 (lv_at hl 0 rfl) ?_
    refine gx_ild (r := a) (i := j) hx hb hG (by omega) (by omega) dX0_hint_39 ?_
    refine wx_i (congrArg iI (mixR_at M to (fun i => sHint q al (M a i) (M b i)) (a) j)) ?_
    refine lv_istore (lv' := [(6, .int (iI (M (a) (j)))), (5, .int (iI ((j : Nat)))), (0, .ref (ox ω)), (1, .int (iI (to))), (2, .int (iI (a))), (3, .int (iI (b))), (4, .int (iI (al)))]) hx hb dX0_hint_40 hl (by decide) rfl (fun ls hl => ?_)
    refine lv_iload hx hb dX0_hint_42 (lv_at hl 0 rfl) ?_
    refine lv_aload_n hx hb dX0_hint_44 rfl (lv_at hl 2 rfl) ?_
    refine gx_get hx hb hts hown hG 0 (by decide) rfl u55 dX0_hint_45 ?_
    refine lv_iload_n hx hb dX0_hint_48 rfl (lv_at hl 5 rfl) ?_
    refine gx_row (r := b) hx hb hG (by omega) dX0_hint_49 ?_
    refine lv_iload hx hb dX0_hint_50 (lv_at hl 1 rfl) ?_
    refine gx_ild (r := b) (i := j) hx hb hG (by omega) (by omega) dX0_hint_52 ?_
    refine wx_i (congrArg iI (mixR_at M to (fun i => sHint q al (M a i) (M b i)) (b) j)) ?_
    refine ix_iadd hx hb dX0_hint_53 ?_
    refine lv_aload_n hx hb dX0_hint_54 rfl (lv_at hl 2 rfl) ?_
    refine gx_get hx hb hts hown hG 3 (by decide) rfl u58 dX0_hint_55 ?_
    refine ix_irem hx hb (by omega) (by omega) (by omega) (by omega) dX0_hint_58 ?_
    refine lv_istore (lv' := [(7, .int (iI (((M (a) (j) + M (b) (j)) % q)))), (6, .int (iI (M (a) (j)))), (5, .int (iI ((j : Nat)))), (0, .ref (ox ω)), (1, .int (iI (to))), (2, .int (iI (a))), (3, .int (iI (b))), (4, .int (iI (al)))]) hx hb dX0_hint_59 hl (by decide) rfl (fun ls hl => ?_)
    refine lv_aload_n hx hb dX0_hint_61 rfl (lv_at hl 3 rfl) ?_
    refine gx_get hx hb hts hown hG 0 (by decide) rfl u55 dX0_hint_62 ?_
    refine lv_iload_n hx hb dX0_hint_65 rfl (lv_at hl 4 rfl) ?_
    refine gx_row (r := to) hx hb hG (by omega) dX0_hint_66 ?_
    refine lv_iload hx hb dX0_hint_67 (lv_at hl 2 rfl) ?_
    refine lv_aload_n hx hb dX0_hint_69 rfl (lv_at hl 3 rfl) ?_
    refine lv_iload hx hb dX0_hint_70 (lv_at hl 1 rfl) ?_
    refine lv_iload hx hb dX0_hint_72 (lv_at hl 7 rfl) ?_
    refine vp_callSi (va_Run.run (va_runV (As := [.int (iI (M (a) (j))), .int (iI (al))]) (rest := [.int (iI ((j : Nat))), .ref (oR ω (to))]) ⟨hx, hb, hml, hown, hts⟩ (c_partOf l ω k q z (mixR M to (fun i => sHint q al (M a i) (M b i)) (j)) (wk) (M (a) (j)) (al) hq1 hq2 (by omega) (by omega) (by omega) (by omega) hal.2.1) (cwV 2 hts (gU (hd := [.methodLink "NoiseRing" 76 yX0_partOf, .instanceMethod yX0_partOf, .selects "NoiseRing" yX0_partOf yX0_partOf, .initialized "NoiseRing"]) (List.forall_mem_cons.mpr ⟨u250, List.forall_mem_cons.mpr ⟨u251, List.forall_mem_cons.mpr ⟨u12, List.forall_mem_cons.mpr ⟨u29, fun _ h => by cases h⟩⟩⟩⟩) u252) rfl rfl rfl (by decide +kernel) ⟨Nat.le_of_ble_eq_true rfl, Nat.le_of_ble_eq_true rfl⟩) (gx_V hG) rfl rfl hl.1 rfl (lv_room (Nat.le_of_ble_eq_true rfl)) dX0_hint_74 ⟨Nat.le_of_ble_eq_true rfl, Nat.le_of_ble_eq_true rfl⟩)) (fun r74 hr74 => ?_)
    subst hr74
    refine lv_aload_n hx hb dX0_hint_77 rfl (lv_at hl 3 rfl) ?_
    refine lv_iload hx hb dX0_hint_78 (lv_at hl 0 rfl) ?_
    refine lv_iload hx hb dX0_hint_80 (lv_at hl 7 rfl) ?_
    refine vp_callSi (va_Run.run (va_runV (As := [.int (iI (((M (a) (j) + M (b) (j)) % q))), .int (iI (al))]) (rest := [.int (iI ((sPart q (M (a) (j)) (al)))), .int (iI ((j : Nat))), .ref (oR ω (to))]) ⟨hx, hb, hml, hown, hts⟩ (c_partOf l ω k q z (mixR M to (fun i => sHint q al (M a i) (M b i)) (j)) (wk) (((M (a) (j) + M (b) (j)) % q)) (al) hq1 hq2 (by omega) (by omega) (by omega) (by omega) hal.2.1) (cwV 2 hts (gU (hd := [.methodLink "NoiseRing" 76 yX0_partOf, .instanceMethod yX0_partOf, .selects "NoiseRing" yX0_partOf yX0_partOf, .initialized "NoiseRing"]) (List.forall_mem_cons.mpr ⟨u250, List.forall_mem_cons.mpr ⟨u251, List.forall_mem_cons.mpr ⟨u12, List.forall_mem_cons.mpr ⟨u29, fun _ h => by cases h⟩⟩⟩⟩) u252) rfl rfl rfl (by decide +kernel) ⟨Nat.le_of_ble_eq_true rfl, Nat.le_of_ble_eq_true rfl⟩) (gx_V hG) rfl rfl hl.1 rfl (lv_room (Nat.le_of_ble_eq_true rfl)) dX0_hint_82 ⟨Nat.le_of_ble_eq_true rfl, Nat.le_of_ble_eq_true rfl⟩)) (fun r82 hr82 => ?_)
    subst hr82
    refine ix_icmp_eq (tgt := 92) hx hb (by omega) (by omega) (by omega) (by omega) dX0_hint_85 (by decide) (fun h85 => ?_) (fun h85 => ?_)
    · skip
      refine ix_iconst hx hb dX0_hint_92 ?_
      refine wx_i (congrArg iI (show 0 = (fun i => sHint q al (M a i) (M b i)) j from ?_)) ?_
      · show _ = sHint q al (M a j) (M b j)
        unfold sHint
        first | rw [if_pos h85] | rw [if_neg h85]
      refine gx_ist (r := to) (i := j) hx hb hG hS (by omega) (by omega) dX0_hint_93 (fun H1 locs1 hG hS => ?_)
      refine lv_iinc (k := 2) (v := iI ((j : Nat) + 1)) (lv' := [(5, .int (iI ((j : Nat) + 1))), (7, .int (iI (((M (a) (j) + M (b) (j)) % q)))), (6, .int (iI (M (a) (j)))), (0, .ref (ox ω)), (1, .int (iI (to))), (2, .int (iI (a))), (3, .int (iI (b))), (4, .int (iI (al)))]) hx hb dX0_hint_94 hl rfl (iI_add _ _) (by decide) rfl (fun ls hl => ?_)
      refine lv_goto (tgt := 24) hx hb dX0_hint_97 (by decide) ?_
      exact ih24 ls _ _ ⟨lv_sub hl [0, 3, 4, 5, 6, 7] rfl, (by rw [← mixR_s]; exact hG), hS⟩
    · skip
      refine ix_iconst hx hb dX0_hint_88 ?_
      refine lv_goto (tgt := 93) hx hb dX0_hint_89 (by decide) ?_
      refine wx_i (congrArg iI (show 1 = (fun i => sHint q al (M a i) (M b i)) j from ?_)) ?_
      · show _ = sHint q al (M a j) (M b j)
        unfold sHint
        first | rw [if_pos h85] | rw [if_neg h85]
      refine gx_ist (r := to) (i := j) hx hb hG hS (by omega) (by omega) dX0_hint_93 (fun H1 locs1 hG hS => ?_)
      refine lv_iinc (k := 2) (v := iI ((j : Nat) + 1)) (lv' := [(5, .int (iI ((j : Nat) + 1))), (7, .int (iI (((M (a) (j) + M (b) (j)) % q)))), (6, .int (iI (M (a) (j)))), (0, .ref (ox ω)), (1, .int (iI (to))), (2, .int (iI (a))), (3, .int (iI (b))), (4, .int (iI (al)))]) hx hb dX0_hint_94 hl rfl (iI_add _ _) (by decide) rfl (fun ls hl => ?_)
      refine lv_goto (tgt := 24) hx hb dX0_hint_97 (by decide) ?_
      exact ih24 ls _ _ ⟨lv_sub hl [0, 3, 4, 5, 6, 7] rfl, (by rw [← mixR_s]; exact hG), hS⟩
end
section
/-! The class's public methods, by program (wip/gen/rw2.py). -/
set_option maxHeartbeats 4000000 in
set_option maxRecDepth 100000 in
theorem p_use (l : Launch) (htr : l.stackTraces = false) (ω : WX) (k q z : Int) (M : Nat → Nat → Int) (wk : Nat → Int) (to a b al : Int) (to1 : -2147483648 ≤ to) (to2 : to < 2147483648) (a1 : -2147483648 ≤ a) (a2 : a < 2147483648) (b1 : -2147483648 ≤ b) (b2 : b < 2147483648) (al1 : -2147483648 ≤ al) (al2 : al < 2147483648) (hq1 : 3329 ≤ q) (hq2 : q ≤ 8380417) (hM : ∀ r i, r < 12 → i < 16 → 0 ≤ M r i ∧ M r i < q) : vx_Met l yX0_use wsX0_use ({ frames := 7, cells := 4, slots := 24, locals := 102 }) (va_Pc [.ref (ox ω), .int (iI (to)), .int (iI (a)), .int (iI (b)), .int (iI (al))] (fun U => GX ω k q z M wk U U.heap)) (va_Qi (fun r_ (_ : Nat → Int) => (((0 ≤ to ∧ to < 12) ∧ (0 ≤ a ∧ a < 12) ∧ (0 ≤ b ∧ b < 12)) ∧ sAli q al = 1) ∧ r_ = iI (sChg q al (M a.toNat) (M b.toNat) 16)) (fun w_ t => CX ω k q z (mixR M to.toNat (fun i => sUse q al (M a.toNat i) (M b.toNat i)) 16) w_ t.heap) (Ax ω)) (vx_X (fun _ : Unit => True) (fun E _ t => ((¬ ((0 ≤ to ∧ to < 12) ∧ (0 ≤ a ∧ a < 12) ∧ (0 ≤ b ∧ b < 12)) ∧ E = nNSE) ∨ (((0 ≤ to ∧ to < 12) ∧ (0 ≤ a ∧ a < 12) ∧ (0 ≤ b ∧ b < 12)) ∧ ¬ (sAli q al = 1) ∧ E = nIAE)) ∧ CX ω k q z M wk t.heap) (Ax ω)) 4 24 (Ax ω) := by
  refine vx_ofW (cc := cX0_use) (maxL := 10) (ret := (some .int)) (by decide +kernel) rfl ?_
  intro p e s m args below meth c s₁ B hml hnx hv
  obtain ⟨rfl, hG⟩ := hv
  have hx := B.exec
  have hb := B.bytes
  have hrt := B.returns
  have hts : ∀ w ∈ wsU, w.before _ s = true := fun w h => atoms_spec (ws := wsX0_use) B.pre w (List.mem_cons_of_mem _ h)
  have hown : s.vm.findClass "NoiseRing" = some m.cls := findClass_of_methodNamed B.named
  have hlocks := B.notSynchronized
  have hS : va_S (Ax ω) s.heap s.heap [] := va_S.rf
  have hl := lv_entry ([.ref (ox ω), .int (iI (to)), .int (iI (a)), .int (iI (b)), .int (iI (al))]) (n := 10) (Nat.le_of_ble_eq_true rfl)
  rw [lg_entry_eq]
  generalize (lg_sl ([.ref (ox ω), .int (iI (to)), .int (iI (a)), .int (iI (b)), .int (iI (al))]) ++ List.replicate (10 - (lg_sl ([.ref (ox ω), .int (iI (to)), .int (iI (a)), .int (iI (b)), .int (iI (al))])).length) Slot.unset).toArray = ls at hl ⊢
  have hl : lv_has ls 10 [(0, .ref (ox ω)), (1, .int (iI (to))), (2, .int (iI (a))), (3, .int (iI (b))), (4, .int (iI (al)))] := hl
  have hB0 := hG.1
  refine lv_iload_n hx hb dX0_use_0 rfl (lv_at hl 1 rfl) ?_
  refine vx_callv (vx_runS (As := [.int (iI (to))]) (rest := []) ⟨hx, hb, hml, hown, hts⟩ (n_needRegister l htr ω k q z M wk _ (to) (by omega) (by omega)) (va_cwS 1 hts (gU (hd := [.methodLink "NoiseRing" 33 yX0_needRegister, .static yX0_needRegister, .initialized "NoiseRing"]) (List.forall_mem_cons.mpr ⟨u155, List.forall_mem_cons.mpr ⟨u156, List.forall_mem_cons.mpr ⟨u29, fun _ h => by cases h⟩⟩⟩) u157) rfl rfl rfl (by decide +kernel) ⟨Nat.le_of_ble_eq_true rfl, Nat.le_of_ble_eq_true rfl⟩) (gx_Sh hG) rfl rfl hl.1 rfl (lv_room (Nat.le_of_ble_eq_true rfl)) dX0_use_1 ⟨Nat.le_of_ble_eq_true rfl, Nat.le_of_ble_eq_true rfl⟩) hS (fun q9 _ h => h.elim) (fun q9 h => h.elim) (fun q9 _ h => h.elim) (fun E ce q9 u t H1 locs1 ht hvm hpx hBX hz hk hS1 hce hcv hcl => ?_) (fun u t H1 locs1 ht hvm hp1 hB hz hk hS1 => ?_)
  · exact vx_out (E := E) (fun x9 h9 => (hnx x9 h9).elim) hlocks hce hcv hcl (fun t1 ht1 ha1 => ⟨(), trivial, ⟨Or.inl ⟨by omega, hBX.2⟩, by rw [ht1]; exact hG.2.kept (fun a9 g9 => hk a9 g9 (fun f9 => f9))⟩, hS1.F ht1⟩) hS1.2.2 (Nat.le_of_ble_eq_true rfl) (Nat.le_of_ble_eq_true rfl)
  obtain rfl := ht.symm.trans hB
  clear hS
  have hS := hS1
  obtain ⟨to, rfl⟩ := Int.eq_ofNat_of_zero_le hp1.1
  refine lv_iload_n hx hb dX0_use_4 rfl (lv_at hl 2 rfl) ?_
  refine vx_callv (vx_runS (As := [.int (iI (a))]) (rest := []) ⟨hx, hb, hml, hown, hts⟩ (n_needRegister l htr ω k q z M wk _ (a) (by omega) (by omega)) (va_cwS 1 hts (gU (hd := [.methodLink "NoiseRing" 33 yX0_needRegister, .static yX0_needRegister, .initialized "NoiseRing"]) (List.forall_mem_cons.mpr ⟨u155, List.forall_mem_cons.mpr ⟨u156, List.forall_mem_cons.mpr ⟨u29, fun _ h => by cases h⟩⟩⟩) u157) rfl rfl rfl (by decide +kernel) ⟨Nat.le_of_ble_eq_true rfl, Nat.le_of_ble_eq_true rfl⟩) (gx_Sh hG) rfl rfl hl.1 rfl (lv_room (Nat.le_of_ble_eq_true rfl)) dX0_use_5 ⟨Nat.le_of_ble_eq_true rfl, Nat.le_of_ble_eq_true rfl⟩) hS (fun q9 _ h => h.elim) (fun q9 h => h.elim) (fun q9 _ h => h.elim) (fun E ce q9 u t H1 locs1 ht hvm hpx hBX hz hk hS1 hce hcv hcl => ?_) (fun u t H1 locs1 ht hvm hp5 hB hz hk hS1 => ?_)
  · exact vx_out (E := E) (fun x9 h9 => (hnx x9 h9).elim) hlocks hce hcv hcl (fun t1 ht1 ha1 => ⟨(), trivial, ⟨Or.inl ⟨by omega, hBX.2⟩, by rw [ht1]; exact hG.2.kept (fun a9 g9 => hk a9 g9 (fun f9 => f9))⟩, hS1.F ht1⟩) hS1.2.2 (Nat.le_of_ble_eq_true rfl) (Nat.le_of_ble_eq_true rfl)
  obtain rfl := ht.symm.trans hB
  clear hS
  have hS := hS1
  obtain ⟨a, rfl⟩ := Int.eq_ofNat_of_zero_le hp5.1
  refine lv_iload_n hx hb dX0_use_8 rfl (lv_at hl 3 rfl) ?_
  refine vx_callv (vx_runS (As := [.int (iI (b))]) (rest := []) ⟨hx, hb, hml, hown, hts⟩ (n_needRegister l htr ω k q z M wk _ (b) (by omega) (by omega)) (va_cwS 1 hts (gU (hd := [.methodLink "NoiseRing" 33 yX0_needRegister, .static yX0_needRegister, .initialized "NoiseRing"]) (List.forall_mem_cons.mpr ⟨u155, List.forall_mem_cons.mpr ⟨u156, List.forall_mem_cons.mpr ⟨u29, fun _ h => by cases h⟩⟩⟩) u157) rfl rfl rfl (by decide +kernel) ⟨Nat.le_of_ble_eq_true rfl, Nat.le_of_ble_eq_true rfl⟩) (gx_Sh hG) rfl rfl hl.1 rfl (lv_room (Nat.le_of_ble_eq_true rfl)) dX0_use_9 ⟨Nat.le_of_ble_eq_true rfl, Nat.le_of_ble_eq_true rfl⟩) hS (fun q9 _ h => h.elim) (fun q9 h => h.elim) (fun q9 _ h => h.elim) (fun E ce q9 u t H1 locs1 ht hvm hpx hBX hz hk hS1 hce hcv hcl => ?_) (fun u t H1 locs1 ht hvm hp9 hB hz hk hS1 => ?_)
  · exact vx_out (E := E) (fun x9 h9 => (hnx x9 h9).elim) hlocks hce hcv hcl (fun t1 ht1 ha1 => ⟨(), trivial, ⟨Or.inl ⟨by omega, hBX.2⟩, by rw [ht1]; exact hG.2.kept (fun a9 g9 => hk a9 g9 (fun f9 => f9))⟩, hS1.F ht1⟩) hS1.2.2 (Nat.le_of_ble_eq_true rfl) (Nat.le_of_ble_eq_true rfl)
  obtain rfl := ht.symm.trans hB
  clear hS
  have hS := hS1
  obtain ⟨b, rfl⟩ := Int.eq_ofNat_of_zero_le hp9.1
  refine lv_aload_n hx hb dX0_use_12 rfl (lv_at hl 0 rfl) ?_
  refine lv_iload hx hb dX0_use_13 (lv_at hl 4 rfl) ?_
  refine vp_callSi (va_Run.run (va_runV (As := [.int (iI (al))]) (rest := []) ⟨hx, hb, hml, hown, hts⟩ (c_isAlpha l ω k q z M wk (al) hq1 hq2 (by omega) (by omega)) (cwV 1 hts (gU (hd := [.methodLink "NoiseRing" 72 yX0_isAlpha, .instanceMethod yX0_isAlpha, .selects "NoiseRing" yX0_isAlpha yX0_isAlpha, .initialized "NoiseRing"]) (List.forall_mem_cons.mpr ⟨u247, List.forall_mem_cons.mpr ⟨u248, List.forall_mem_cons.mpr ⟨u11, List.forall_mem_cons.mpr ⟨u29, fun _ h => by cases h⟩⟩⟩⟩) u249) rfl rfl rfl (by decide +kernel) ⟨Nat.le_of_ble_eq_true rfl, Nat.le_of_ble_eq_true rfl⟩) (gx_V hG) rfl rfl hl.1 rfl (lv_room (Nat.le_of_ble_eq_true rfl)) dX0_use_15 ⟨Nat.le_of_ble_eq_true rfl, Nat.le_of_ble_eq_true rfl⟩)) (fun r15 hr15 => ?_)
  subst hr15
  have hai : sAli q al = 0 ∨ sAli q al = 1 := by unfold sAli; split <;> omega
  refine vx_callv (vx_runS (As := [.int (iI ((sAli q (al))))]) (rest := []) ⟨hx, hb, hml, hown, hts⟩ (n_needArgument l htr ω k q z M wk _ ((sAli q (al))) (by omega) (by omega)) (va_cwS 1 hts (gU (hd := [.methodLink "NoiseRing" 25 yX0_needArgument, .static yX0_needArgument, .initialized "NoiseRing"]) (List.forall_mem_cons.mpr ⟨u90, List.forall_mem_cons.mpr ⟨u91, List.forall_mem_cons.mpr ⟨u29, fun _ h => by cases h⟩⟩⟩) u92) rfl rfl rfl (by decide +kernel) ⟨Nat.le_of_ble_eq_true rfl, Nat.le_of_ble_eq_true rfl⟩) (gx_Sh hG) rfl rfl hl.1 rfl (lv_room (Nat.le_of_ble_eq_true rfl)) dX0_use_18 ⟨Nat.le_of_ble_eq_true rfl, Nat.le_of_ble_eq_true rfl⟩) hS (fun q9 _ h => h.elim) (fun q9 h => h.elim) (fun q9 _ h => h.elim) (fun E ce q9 u t H1 locs1 ht hvm hpx hBX hz hk hS1 hce hcv hcl => ?_) (fun u t H1 locs1 ht hvm hp18 hB hz hk hS1 => ?_)
  · exact vx_out (E := E) (fun x9 h9 => (hnx x9 h9).elim) hlocks hce hcv hcl (fun t1 ht1 ha1 => ⟨(), trivial, ⟨Or.inr ⟨⟨by omega, by omega, by omega⟩, by omega, hBX.2⟩, by rw [ht1]; exact hG.2.kept (fun a9 g9 => hk a9 g9 (fun f9 => f9))⟩, hS1.F ht1⟩) hS1.2.2 (Nat.le_of_ble_eq_true rfl) (Nat.le_of_ble_eq_true rfl)
  obtain rfl := ht.symm.trans hB
  clear hS
  have hS := hS1
  have hal := sAl_of (q := q) (a := al) (by omega)
  have hal2 := sAl_lt (q := q) (by omega) hal
  refine ix_iconst hx hb dX0_use_21 ?_
  refine lv_istore (lv' := [(5, .int (iI (0))), (0, .ref (ox ω)), (1, .int (iI (to))), (2, .int (iI (a))), (3, .int (iI (b))), (4, .int (iI (al)))]) hx hb dX0_use_22 hl (by decide) rfl (fun ls hl => ?_)
  refine ix_iconst hx hb dX0_use_24 ?_
  refine lv_istore (lv' := [(6, .int (iI (0))), (5, .int (iI (0))), (0, .ref (ox ω)), (1, .int (iI (to))), (2, .int (iI (a))), (3, .int (iI (b))), (4, .int (iI (al)))]) hx hb dX0_use_25 hl (by decide) rfl (fun ls hl => ?_)
  refine ix_loopH (I := fun j ls H locs => lv_has ls 10 [(6, .int (iI ((j : Nat)))), (5, .int (iI (sChg q al (M a) (M b) (j)))), (0, .ref (ox ω)), (1, .int (iI (to))), (2, .int (iI (a))), (3, .int (iI (b))), (4, .int (iI (al)))] ∧ GX ω k q z (mixR M to (fun i => sUse q al (M a i) (M b i)) (j)) (wk) s H ∧ va_S (Ax ω) s.heap H locs) 16 0 (by omega) ⟨lv_sub hl [0, 1, 2, 3, 4, 5, 6] rfl, (by rw [mixR_0]; exact hG), hS⟩ (fun ls H locs hI => ?_) (fun j ls H locs hj hI ih27 => ?_)
  · obtain ⟨hl, hG, hS⟩ := hI
    have hl : lv_has ls 10 [(6, .int (iI ((16 : Nat)))), (5, .int (iI (sChg q al (M a) (M b) (16)))), (0, .ref (ox ω)), (1, .int (iI (to))), (2, .int (iI (a))), (3, .int (iI (b))), (4, .int (iI (al)))] := hl
    refine lv_iload hx hb dX0_use_27 (lv_at hl 0 rfl) ?_
    refine ix_bipush hx hb (by decide) dX0_use_29 ?_
    refine ix_icmp_ge (tgt := 109) hx hb (by omega) (by omega) (by omega) (by omega) dX0_use_31 (by decide) (fun h31 => ?_) (fun h31 => absurd h31 (by omega))
    refine lv_iload hx hb dX0_use_109 (lv_at hl 1 rfl) ?_
    refine W.widen (k := 4) (n := 24) (Nat.le_of_ble_eq_true rfl) (Nat.le_of_ble_eq_true rfl) ?_
    exact vx_ret (W.iret hx hb hrt (fun t ht hW => ⟨⟨_, wk, rfl, ⟨by omega, congrArg iI (rfl)⟩, by have h9 := hG.2; rw [← ht] at h9; exact h9⟩, hS.F ht⟩) hS.2.2 dX0_use_111)
  · obtain ⟨hl, hG, hS⟩ := hI
    have hl : lv_has ls 10 [(6, .int (iI ((j : Nat)))), (5, .int (iI (sChg q al (M a) (M b) (j)))), (0, .ref (ox ω)), (1, .int (iI (to))), (2, .int (iI (a))), (3, .int (iI (b))), (4, .int (iI (al)))] := hl
    have hm := hM a j (by omega) hj
    have hmb := hM b j (by omega) hj
    have hp1 := sPart_lt (q := q) (x := M a j) (a := al) hm.1 hm.2 hal2.1 hal2.2
    have hv1 := sMov_lt (q := q) (x := M a j) (a := al) (by omega) (by omega) hal.2.2
    have hch := sChg_in q al (M a) (M b) j
    refine lv_iload hx hb dX0_use_27 (lv_at hl 0 rfl) ?_
    refine ix_bipush hx hb (by decide) dX0_use_29 ?_
    refine ix_icmp_ge (tgt := 109) hx hb (by omega) (by omega) (by omega) (by omega) dX0_use_31 (by decide) (fun h31 => absurd h31 (by omega)) (fun h31 => ?_)
    refine lv_aload_n hx hb dX0_use_34 rfl (lv_at hl 2 rfl) ?_
    refine gx_get hx hb hts hown hG 0 (by decide) rfl u55 dX0_use_35 ?_
    refine lv_iload_n hx hb dX0_use_38 rfl (lv_at hl 4 rfl) ?_
    refine gx_row (r := a) hx hb hG (by omega) dX0_use_39 ?_
    refine lv_iload hx hb dX0_use_40 (lv_at hl 0 rfl) ?_
    refine gx_ild (r := a) (i := j) hx hb hG (by omega) (by omega) dX0_use_42 ?_
    refine wx_i (congrArg iI (mixR_at M to (fun i => sUse q al (M a i) (M b i)) (a) j)) ?_
    refine lv_istore (lv' := [(7, .int (iI (M (a) (j)))), (6, .int (iI ((j : Nat)))), (5, .int (iI (sChg q al (M a) (M b) (j)))), (0, .ref (ox ω)), (1, .int (iI (to))), (2, .int (iI (a))), (3, .int (iI (b))), (4, .int (iI (al)))]) hx hb dX0_use_43 hl (by decide) rfl (fun ls hl => ?_)
    refine lv_aload_n hx hb dX0_use_45 rfl (lv_at hl 3 rfl) ?_
    refine lv_iload hx hb dX0_use_46 (lv_at hl 0 rfl) ?_
    refine lv_iload hx hb dX0_use_48 (lv_at hl 7 rfl) ?_
    refine vp_callSi (va_Run.run (va_runV (As := [.int (iI (M (a) (j))), .int (iI (al))]) (rest := []) ⟨hx, hb, hml, hown, hts⟩ (c_partOf l ω k q z (mixR M to (fun i => sUse q al (M a i) (M b i)) (j)) (wk) (M (a) (j)) (al) hq1 hq2 (by omega) (by omega) (by omega) (by omega) hal.2.1) (cwV 2 hts (gU (hd := [.methodLink "NoiseRing" 76 yX0_partOf, .instanceMethod yX0_partOf, .selects "NoiseRing" yX0_partOf yX0_partOf, .initialized "NoiseRing"]) (List.forall_mem_cons.mpr ⟨u250, List.forall_mem_cons.mpr ⟨u251, List.forall_mem_cons.mpr ⟨u12, List.forall_mem_cons.mpr ⟨u29, fun _ h => by cases h⟩⟩⟩⟩) u252) rfl rfl rfl (by decide +kernel) ⟨Nat.le_of_ble_eq_true rfl, Nat.le_of_ble_eq_true rfl⟩) (gx_V hG) rfl rfl hl.1 rfl (lv_room (Nat.le_of_ble_eq_true rfl)) dX0_use_50 ⟨Nat.le_of_ble_eq_true rfl, Nat.le_of_ble_eq_true rfl⟩)) (fun r50 hr50 => ?_)
    subst hr50
    refine lv_istore (lv' := [(8, .int (iI ((sPart q (M (a) (j)) (al))))), (7, .int (iI (M (a) (j)))), (6, .int (iI ((j : Nat)))), (5, .int (iI (sChg q al (M a) (M b) (j)))), (0, .ref (ox ω)), (1, .int (iI (to))), (2, .int (iI (a))), (3, .int (iI (b))), (4, .int (iI (al)))]) hx hb dX0_use_53 hl (by decide) rfl (fun ls hl => ?_)
    refine lv_aload_n hx hb dX0_use_55 rfl (lv_at hl 4 rfl) ?_
    refine gx_get hx hb hts hown hG 0 (by decide) rfl u55 dX0_use_56 ?_
    refine lv_iload_n hx hb dX0_use_59 rfl (lv_at hl 7 rfl) ?_
    refine gx_row (r := b) hx hb hG (by omega) dX0_use_60 ?_
    refine lv_iload hx hb dX0_use_61 (lv_at hl 2 rfl) ?_
    refine gx_ild (r := b) (i := j) hx hb hG (by omega) (by omega) dX0_use_63 ?_
    refine wx_i (congrArg iI (mixR_at M to (fun i => sUse q al (M a i) (M b i)) (b) j)) ?_
    refine ix_if_eq (tgt := 78) hx hb (by omega) (by omega) dX0_use_64 (by decide) (fun h64 => ?_) (fun h64 => ?_)
    · skip
      refine lv_iload hx hb dX0_use_78 (lv_at hl 0 rfl) ?_
      refine wx_i (congrArg iI (show (sPart q (M (a) (j)) (al)) = sUse q al (M a j) (M b j) from ?_)) ?_
      · unfold sUse
        first | rw [if_pos h64] | rw [if_neg h64]
      have hu : 0 ≤ sUse q al (M a j) (M b j) ∧ sUse q al (M a j) (M b j) < q := by unfold sUse; split <;> omega
      refine lv_istore (lv' := [(9, .int (iI (sUse q al (M a j) (M b j)))), (8, .int (iI ((sPart q (M (a) (j)) (al))))), (7, .int (iI (M (a) (j)))), (6, .int (iI ((j : Nat)))), (5, .int (iI (sChg q al (M a) (M b) (j)))), (0, .ref (ox ω)), (1, .int (iI (to))), (2, .int (iI (a))), (3, .int (iI (b))), (4, .int (iI (al)))]) hx hb dX0_use_80 hl (by decide) rfl (fun ls hl => ?_)
      refine lv_iload hx hb dX0_use_82 (lv_at hl 0 rfl) ?_
      refine lv_iload hx hb dX0_use_84 (lv_at hl 1 rfl) ?_
      refine ix_icmp_eq (tgt := 92) hx hb (by omega) (by omega) (by omega) (by omega) dX0_use_86 (by decide) (fun h86 => ?_) (fun h86 => ?_)
      · have hs : sChg q al (M a) (M b) (j + 1) = sChg q al (M a) (M b) j := by rw [sChg, if_pos h86]; omega
        rw [← hs] at hl
        refine lv_aload_n hx hb dX0_use_92 rfl (lv_at hl 5 rfl) ?_
        refine gx_get hx hb hts hown hG 0 (by decide) rfl u55 dX0_use_93 ?_
        refine lv_iload_n hx hb dX0_use_96 rfl (lv_at hl 6 rfl) ?_
        refine gx_row (r := to) hx hb hG (by omega) dX0_use_97 ?_
        refine lv_iload hx hb dX0_use_98 (lv_at hl 3 rfl) ?_
        refine lv_iload hx hb dX0_use_100 (lv_at hl 0 rfl) ?_
        refine gx_ist (r := to) (i := j) hx hb hG hS (by omega) (by omega) dX0_use_102 (fun H1 locs1 hG hS => ?_)
        refine lv_iinc (k := 3) (v := iI ((j : Nat) + 1)) (lv' := [(6, .int (iI ((j : Nat) + 1))), (9, .int (iI (sUse q al (M a j) (M b j)))), (8, .int (iI ((sPart q (M (a) (j)) (al))))), (7, .int (iI (M (a) (j)))), (5, .int (iI (sChg q al (M a) (M b) (j + 1)))), (0, .ref (ox ω)), (1, .int (iI (to))), (2, .int (iI (a))), (3, .int (iI (b))), (4, .int (iI (al)))]) hx hb dX0_use_103 hl rfl (iI_add _ _) (by decide) rfl (fun ls hl => ?_)
        refine lv_goto (tgt := 27) hx hb dX0_use_106 (by decide) ?_
        exact ih27 ls _ _ ⟨lv_sub hl [0, 4, 5, 6, 7, 8, 9] rfl, (by rw [← mixR_s]; exact hG), hS⟩
      · have hs : sChg q al (M a) (M b) (j + 1) = sChg q al (M a) (M b) j + 1 := by rw [sChg, if_neg h86]
        refine lv_iinc (k := 4) (v := iI (sChg q al (M a) (M b) (j + 1))) (lv' := [(5, .int (iI (sChg q al (M a) (M b) (j + 1)))), (9, .int (iI (sUse q al (M a j) (M b j)))), (8, .int (iI ((sPart q (M (a) (j)) (al))))), (7, .int (iI (M (a) (j)))), (6, .int (iI ((j : Nat)))), (0, .ref (ox ω)), (1, .int (iI (to))), (2, .int (iI (a))), (3, .int (iI (b))), (4, .int (iI (al)))]) hx hb dX0_use_89 hl rfl ((iI_add _ _).trans (congrArg iI hs.symm)) (by decide) rfl (fun ls hl => ?_)
        refine lv_aload_n hx hb dX0_use_92 rfl (lv_at hl 5 rfl) ?_
        refine gx_get hx hb hts hown hG 0 (by decide) rfl u55 dX0_use_93 ?_
        refine lv_iload_n hx hb dX0_use_96 rfl (lv_at hl 6 rfl) ?_
        refine gx_row (r := to) hx hb hG (by omega) dX0_use_97 ?_
        refine lv_iload hx hb dX0_use_98 (lv_at hl 4 rfl) ?_
        refine lv_iload hx hb dX0_use_100 (lv_at hl 1 rfl) ?_
        refine gx_ist (r := to) (i := j) hx hb hG hS (by omega) (by omega) dX0_use_102 (fun H1 locs1 hG hS => ?_)
        refine lv_iinc (k := 4) (v := iI ((j : Nat) + 1)) (lv' := [(6, .int (iI ((j : Nat) + 1))), (5, .int (iI (sChg q al (M a) (M b) (j + 1)))), (9, .int (iI (sUse q al (M a j) (M b j)))), (8, .int (iI ((sPart q (M (a) (j)) (al))))), (7, .int (iI (M (a) (j)))), (0, .ref (ox ω)), (1, .int (iI (to))), (2, .int (iI (a))), (3, .int (iI (b))), (4, .int (iI (al)))]) hx hb dX0_use_103 hl rfl (iI_add _ _) (by decide) rfl (fun ls hl => ?_)
        refine lv_goto (tgt := 27) hx hb dX0_use_106 (by decide) ?_
        exact ih27 ls _ _ ⟨lv_sub hl [0, 1, 5, 6, 7, 8, 9] rfl, (by rw [← mixR_s]; exact hG), hS⟩
    · skip
      refine lv_aload_n hx hb dX0_use_67 rfl (lv_at hl 4 rfl) ?_
      refine lv_iload hx hb dX0_use_68 (lv_at hl 1 rfl) ?_
      refine lv_iload hx hb dX0_use_70 (lv_at hl 8 rfl) ?_
      refine vp_callSi (va_Run.run (va_runV (As := [.int (iI (M (a) (j))), .int (iI (al))]) (rest := []) ⟨hx, hb, hml, hown, hts⟩ (c_movedPart l ω k q z (mixR M to (fun i => sUse q al (M a i) (M b i)) (j)) (wk) (M (a) (j)) (al) hq1 hq2 (by omega) (by omega) (by omega) (by omega) hal.2.1 hal.2.2) (cwV 2 hts (gU (hd := [.methodLink "NoiseRing" 82 yX0_movedPart, .instanceMethod yX0_movedPart, .selects "NoiseRing" yX0_movedPart yX0_movedPart, .initialized "NoiseRing"]) (List.forall_mem_cons.mpr ⟨u273, List.forall_mem_cons.mpr ⟨u274, List.forall_mem_cons.mpr ⟨u14, List.forall_mem_cons.mpr ⟨u29, fun _ h => by cases h⟩⟩⟩⟩) u275) rfl rfl rfl (by decide +kernel) ⟨Nat.le_of_ble_eq_true rfl, Nat.le_of_ble_eq_true rfl⟩) (gx_V hG) rfl rfl hl.1 rfl (lv_room (Nat.le_of_ble_eq_true rfl)) dX0_use_72 ⟨Nat.le_of_ble_eq_true rfl, Nat.le_of_ble_eq_true rfl⟩)) (fun r72 hr72 => ?_)
      subst hr72
      refine lv_goto (tgt := 80) hx hb dX0_use_75 (by decide) ?_
      refine wx_i (congrArg iI (show (sMov q (M (a) (j)) (al)) = sUse q al (M a j) (M b j) from ?_)) ?_
      · unfold sUse
        first | rw [if_pos h64] | rw [if_neg h64]
      have hu : 0 ≤ sUse q al (M a j) (M b j) ∧ sUse q al (M a j) (M b j) < q := by unfold sUse; split <;> omega
      refine lv_istore (lv' := [(9, .int (iI (sUse q al (M a j) (M b j)))), (8, .int (iI ((sPart q (M (a) (j)) (al))))), (7, .int (iI (M (a) (j)))), (6, .int (iI ((j : Nat)))), (5, .int (iI (sChg q al (M a) (M b) (j)))), (0, .ref (ox ω)), (1, .int (iI (to))), (2, .int (iI (a))), (3, .int (iI (b))), (4, .int (iI (al)))]) hx hb dX0_use_80 hl (by decide) rfl (fun ls hl => ?_)
      refine lv_iload hx hb dX0_use_82 (lv_at hl 0 rfl) ?_
      refine lv_iload hx hb dX0_use_84 (lv_at hl 1 rfl) ?_
      refine ix_icmp_eq (tgt := 92) hx hb (by omega) (by omega) (by omega) (by omega) dX0_use_86 (by decide) (fun h86 => ?_) (fun h86 => ?_)
      · have hs : sChg q al (M a) (M b) (j + 1) = sChg q al (M a) (M b) j := by rw [sChg, if_pos h86]; omega
        rw [← hs] at hl
        refine lv_aload_n hx hb dX0_use_92 rfl (lv_at hl 5 rfl) ?_
        refine gx_get hx hb hts hown hG 0 (by decide) rfl u55 dX0_use_93 ?_
        refine lv_iload_n hx hb dX0_use_96 rfl (lv_at hl 6 rfl) ?_
        refine gx_row (r := to) hx hb hG (by omega) dX0_use_97 ?_
        refine lv_iload hx hb dX0_use_98 (lv_at hl 3 rfl) ?_
        refine lv_iload hx hb dX0_use_100 (lv_at hl 0 rfl) ?_
        refine gx_ist (r := to) (i := j) hx hb hG hS (by omega) (by omega) dX0_use_102 (fun H1 locs1 hG hS => ?_)
        refine lv_iinc (k := 3) (v := iI ((j : Nat) + 1)) (lv' := [(6, .int (iI ((j : Nat) + 1))), (9, .int (iI (sUse q al (M a j) (M b j)))), (8, .int (iI ((sPart q (M (a) (j)) (al))))), (7, .int (iI (M (a) (j)))), (5, .int (iI (sChg q al (M a) (M b) (j + 1)))), (0, .ref (ox ω)), (1, .int (iI (to))), (2, .int (iI (a))), (3, .int (iI (b))), (4, .int (iI (al)))]) hx hb dX0_use_103 hl rfl (iI_add _ _) (by decide) rfl (fun ls hl => ?_)
        refine lv_goto (tgt := 27) hx hb dX0_use_106 (by decide) ?_
        exact ih27 ls _ _ ⟨lv_sub hl [0, 4, 5, 6, 7, 8, 9] rfl, (by rw [← mixR_s]; exact hG), hS⟩
      · have hs : sChg q al (M a) (M b) (j + 1) = sChg q al (M a) (M b) j + 1 := by rw [sChg, if_neg h86]
        refine lv_iinc (k := 4) (v := iI (sChg q al (M a) (M b) (j + 1))) (lv' := [(5, .int (iI (sChg q al (M a) (M b) (j + 1)))), (9, .int (iI (sUse q al (M a j) (M b j)))), (8, .int (iI ((sPart q (M (a) (j)) (al))))), (7, .int (iI (M (a) (j)))), (6, .int (iI ((j : Nat)))), (0, .ref (ox ω)), (1, .int (iI (to))), (2, .int (iI (a))), (3, .int (iI (b))), (4, .int (iI (al)))]) hx hb dX0_use_89 hl rfl ((iI_add _ _).trans (congrArg iI hs.symm)) (by decide) rfl (fun ls hl => ?_)
        refine lv_aload_n hx hb dX0_use_92 rfl (lv_at hl 5 rfl) ?_
        refine gx_get hx hb hts hown hG 0 (by decide) rfl u55 dX0_use_93 ?_
        refine lv_iload_n hx hb dX0_use_96 rfl (lv_at hl 6 rfl) ?_
        refine gx_row (r := to) hx hb hG (by omega) dX0_use_97 ?_
        refine lv_iload hx hb dX0_use_98 (lv_at hl 4 rfl) ?_
        refine lv_iload hx hb dX0_use_100 (lv_at hl 1 rfl) ?_
        refine gx_ist (r := to) (i := j) hx hb hG hS (by omega) (by omega) dX0_use_102 (fun H1 locs1 hG hS => ?_)
        refine lv_iinc (k := 4) (v := iI ((j : Nat) + 1)) (lv' := [(6, .int (iI ((j : Nat) + 1))), (5, .int (iI (sChg q al (M a) (M b) (j + 1)))), (9, .int (iI (sUse q al (M a j) (M b j)))), (8, .int (iI ((sPart q (M (a) (j)) (al))))), (7, .int (iI (M (a) (j)))), (0, .ref (ox ω)), (1, .int (iI (to))), (2, .int (iI (a))), (3, .int (iI (b))), (4, .int (iI (al)))]) hx hb dX0_use_103 hl rfl (iI_add _ _) (by decide) rfl (fun ls hl => ?_)
        refine lv_goto (tgt := 27) hx hb dX0_use_106 (by decide) ?_
        exact ih27 ls _ _ ⟨lv_sub hl [0, 1, 5, 6, 7, 8, 9] rfl, (by rw [← mixR_s]; exact hG), hS⟩
set_option maxHeartbeats 4000000 in
set_option maxRecDepth 100000 in
theorem p_noise (l : Launch) (htr : l.stackTraces = false) (ω : WX) (k q z : Int) (M : Nat → Nat → Int) (wk : Nat → Int) (to eta : Int) (low high : Int64) (to1 : -2147483648 ≤ to) (to2 : to < 2147483648) (eta1 : -2147483648 ≤ eta) (eta2 : eta < 2147483648) (hq1 : 3329 ≤ q) (hq2 : q ≤ 8380417) (hM : ∀ r i, r < 12 → i < 16 → 0 ≤ M r i ∧ M r i < q) : vx_Met l yX0_noise wsX0_noise ({ frames := 7, cells := 2, slots := 12, locals := 102 }) (va_Pc [.ref (ox ω), .int (iI (to)), .int (iI (eta)), .long (low), .long (high)] (fun U => GX ω k q z M wk U U.heap)) (va_Qi (fun r_ (_ : Nat → Int) => (((0 ≤ to ∧ to < 12)) ∧ 1 ≤ eta ∧ eta ≤ 3) ∧ r_ = iI (sCnt (fun i => sNoise q low high eta.toNat i) 16)) (fun w_ t => CX ω k q z (mixR M to.toNat (fun i => sNoise q low high eta.toNat i) 16) w_ t.heap) (Ax ω)) (vx_X (fun _ : Unit => True) (fun E _ t => ((¬ ((0 ≤ to ∧ to < 12)) ∧ E = nNSE) ∨ (((0 ≤ to ∧ to < 12)) ∧ ¬ (1 ≤ eta ∧ eta ≤ 3) ∧ E = nIAE)) ∧ CX ω k q z M wk t.heap) (Ax ω)) 2 12 (Ax ω) := by
  refine vx_ofW (cc := cX0_noise) (maxL := 11) (ret := (some .int)) (by decide +kernel) rfl ?_
  intro p e s m args below meth c s₁ B hml hnx hv
  obtain ⟨rfl, hG⟩ := hv
  have hx := B.exec
  have hb := B.bytes
  have hrt := B.returns
  have hts : ∀ w ∈ wsU, w.before _ s = true := fun w h => atoms_spec (ws := wsX0_noise) B.pre w (List.mem_cons_of_mem _ h)
  have hown : s.vm.findClass "NoiseRing" = some m.cls := findClass_of_methodNamed B.named
  have hlocks := B.notSynchronized
  have hS : va_S (Ax ω) s.heap s.heap [] := va_S.rf
  have hl := lv_entry ([.ref (ox ω), .int (iI (to)), .int (iI (eta)), .long (low), .long (high)]) (n := 11) (Nat.le_of_ble_eq_true rfl)
  rw [lg_entry_eq]
  generalize (lg_sl ([.ref (ox ω), .int (iI (to)), .int (iI (eta)), .long (low), .long (high)]) ++ List.replicate (11 - (lg_sl ([.ref (ox ω), .int (iI (to)), .int (iI (eta)), .long (low), .long (high)])).length) Slot.unset).toArray = ls at hl ⊢
  have hl : lv_has ls 11 [(0, .ref (ox ω)), (1, .int (iI (to))), (2, .int (iI (eta))), (3, .long (low)), (5, .long (high))] := hl
  have hB0 := hG.1
  refine lv_iload_n hx hb dX0_noise_0 rfl (lv_at hl 1 rfl) ?_
  refine vx_callv (vx_runS (As := [.int (iI (to))]) (rest := []) ⟨hx, hb, hml, hown, hts⟩ (n_needRegister l htr ω k q z M wk _ (to) (by omega) (by omega)) (va_cwS 1 hts (gU (hd := [.methodLink "NoiseRing" 33 yX0_needRegister, .static yX0_needRegister, .initialized "NoiseRing"]) (List.forall_mem_cons.mpr ⟨u155, List.forall_mem_cons.mpr ⟨u156, List.forall_mem_cons.mpr ⟨u29, fun _ h => by cases h⟩⟩⟩) u157) rfl rfl rfl (by decide +kernel) ⟨Nat.le_of_ble_eq_true rfl, Nat.le_of_ble_eq_true rfl⟩) (gx_Sh hG) rfl rfl hl.1 rfl (lv_room (Nat.le_of_ble_eq_true rfl)) dX0_noise_1 ⟨Nat.le_of_ble_eq_true rfl, Nat.le_of_ble_eq_true rfl⟩) hS (fun q9 _ h => h.elim) (fun q9 h => h.elim) (fun q9 _ h => h.elim) (fun E ce q9 u t H1 locs1 ht hvm hpx hBX hz hk hS1 hce hcv hcl => ?_) (fun u t H1 locs1 ht hvm hp1 hB hz hk hS1 => ?_)
  · exact vx_out (E := E) (fun x9 h9 => (hnx x9 h9).elim) hlocks hce hcv hcl (fun t1 ht1 ha1 => ⟨(), trivial, ⟨Or.inl ⟨by omega, hBX.2⟩, by rw [ht1]; exact hG.2.kept (fun a9 g9 => hk a9 g9 (fun f9 => f9))⟩, hS1.F ht1⟩) hS1.2.2 (Nat.le_of_ble_eq_true rfl) (Nat.le_of_ble_eq_true rfl)
  obtain rfl := ht.symm.trans hB
  clear hS
  have hS := hS1
  obtain ⟨to, rfl⟩ := Int.eq_ofNat_of_zero_le hp1.1
  refine lv_iload_n hx hb dX0_noise_4 rfl (lv_at hl 2 rfl) ?_
  refine ix_iconst hx hb dX0_noise_5 ?_
  refine ix_icmp_lt (tgt := 18) hx hb (by omega) (by omega) (by omega) (by omega) dX0_noise_6 (by decide) (fun h6 => ?_) (fun h6 => ?_)
  · skip
    refine ix_iconst hx hb dX0_noise_18 ?_
    refine vx_callv (vx_runS (As := [.int (iI (0))]) (rest := []) ⟨hx, hb, hml, hown, hts⟩ (n_needArgument l htr ω k q z M wk _ (0) (by omega) (by omega)) (va_cwS 1 hts (gU (hd := [.methodLink "NoiseRing" 25 yX0_needArgument, .static yX0_needArgument, .initialized "NoiseRing"]) (List.forall_mem_cons.mpr ⟨u90, List.forall_mem_cons.mpr ⟨u91, List.forall_mem_cons.mpr ⟨u29, fun _ h => by cases h⟩⟩⟩) u92) rfl rfl rfl (by decide +kernel) ⟨Nat.le_of_ble_eq_true rfl, Nat.le_of_ble_eq_true rfl⟩) (gx_Sh hG) rfl rfl hl.1 rfl (lv_room (Nat.le_of_ble_eq_true rfl)) dX0_noise_19 ⟨Nat.le_of_ble_eq_true rfl, Nat.le_of_ble_eq_true rfl⟩) hS (fun q9 _ h => h.elim) (fun q9 h => h.elim) (fun q9 _ h => h.elim) (fun E ce q9 u t H1 locs1 ht hvm hpx hBX hz hk hS1 hce hcv hcl => ?_) (fun u t H1 locs1 ht hvm hp19 hB hz hk hS1 => ?_)
    · exact vx_out (E := E) (fun x9 h9 => (hnx x9 h9).elim) hlocks hce hcv hcl (fun t1 ht1 ha1 => ⟨(), trivial, ⟨Or.inr ⟨by omega, by omega, hBX.2⟩, by rw [ht1]; exact hG.2.kept (fun a9 g9 => hk a9 g9 (fun f9 => f9))⟩, hS1.F ht1⟩) hS1.2.2 (Nat.le_of_ble_eq_true rfl) (Nat.le_of_ble_eq_true rfl)
    exact (hp19 rfl).elim
  · skip
    refine lv_iload_n hx hb dX0_noise_9 rfl (lv_at hl 2 rfl) ?_
    refine ix_iconst hx hb dX0_noise_10 ?_
    refine ix_icmp_gt (tgt := 18) hx hb (by omega) (by omega) (by omega) (by omega) dX0_noise_11 (by decide) (fun h11 => ?_) (fun h11 => ?_)
    · skip
      refine ix_iconst hx hb dX0_noise_18 ?_
      refine vx_callv (vx_runS (As := [.int (iI (0))]) (rest := []) ⟨hx, hb, hml, hown, hts⟩ (n_needArgument l htr ω k q z M wk _ (0) (by omega) (by omega)) (va_cwS 1 hts (gU (hd := [.methodLink "NoiseRing" 25 yX0_needArgument, .static yX0_needArgument, .initialized "NoiseRing"]) (List.forall_mem_cons.mpr ⟨u90, List.forall_mem_cons.mpr ⟨u91, List.forall_mem_cons.mpr ⟨u29, fun _ h => by cases h⟩⟩⟩) u92) rfl rfl rfl (by decide +kernel) ⟨Nat.le_of_ble_eq_true rfl, Nat.le_of_ble_eq_true rfl⟩) (gx_Sh hG) rfl rfl hl.1 rfl (lv_room (Nat.le_of_ble_eq_true rfl)) dX0_noise_19 ⟨Nat.le_of_ble_eq_true rfl, Nat.le_of_ble_eq_true rfl⟩) hS (fun q9 _ h => h.elim) (fun q9 h => h.elim) (fun q9 _ h => h.elim) (fun E ce q9 u t H1 locs1 ht hvm hpx hBX hz hk hS1 hce hcv hcl => ?_) (fun u t H1 locs1 ht hvm hp19 hB hz hk hS1 => ?_)
      · exact vx_out (E := E) (fun x9 h9 => (hnx x9 h9).elim) hlocks hce hcv hcl (fun t1 ht1 ha1 => ⟨(), trivial, ⟨Or.inr ⟨by omega, by omega, hBX.2⟩, by rw [ht1]; exact hG.2.kept (fun a9 g9 => hk a9 g9 (fun f9 => f9))⟩, hS1.F ht1⟩) hS1.2.2 (Nat.le_of_ble_eq_true rfl) (Nat.le_of_ble_eq_true rfl)
      exact (hp19 rfl).elim
    · skip
      refine ix_iconst hx hb dX0_noise_14 ?_
      refine lv_goto (tgt := 19) hx hb dX0_noise_15 (by decide) ?_
      refine vx_callv (vx_runS (As := [.int (iI (1))]) (rest := []) ⟨hx, hb, hml, hown, hts⟩ (n_needArgument l htr ω k q z M wk _ (1) (by omega) (by omega)) (va_cwS 1 hts (gU (hd := [.methodLink "NoiseRing" 25 yX0_needArgument, .static yX0_needArgument, .initialized "NoiseRing"]) (List.forall_mem_cons.mpr ⟨u90, List.forall_mem_cons.mpr ⟨u91, List.forall_mem_cons.mpr ⟨u29, fun _ h => by cases h⟩⟩⟩) u92) rfl rfl rfl (by decide +kernel) ⟨Nat.le_of_ble_eq_true rfl, Nat.le_of_ble_eq_true rfl⟩) (gx_Sh hG) rfl rfl hl.1 rfl (lv_room (Nat.le_of_ble_eq_true rfl)) dX0_noise_19 ⟨Nat.le_of_ble_eq_true rfl, Nat.le_of_ble_eq_true rfl⟩) hS (fun q9 _ h => h.elim) (fun q9 h => h.elim) (fun q9 _ h => h.elim) (fun E ce q9 u t H1 locs1 ht hvm hpx hBX hz hk hS1 hce hcv hcl => ?_) (fun u t H1 locs1 ht hvm hp19 hB hz hk hS1 => ?_)
      · exact (hBX.1 (by decide)).elim
      obtain rfl := ht.symm.trans hB
      clear hS
      have hS := hS1
      obtain ⟨eta, rfl⟩ := Int.eq_ofNat_of_zero_le (show 0 ≤ eta by omega)
      have hg : ∀ i, i < 16 → 0 ≤ (fun i => sNoise q low high eta i) i ∧ (fun i => sNoise q low high eta i) i < q := fun i hi9 => ⟨Int.emod_nonneg _ (by omega), Int.emod_lt_of_pos _ (by omega)⟩
      refine ix_iconst hx hb dX0_noise_22 ?_
      refine lv_istore (lv' := [(7, .int (iI (0))), (0, .ref (ox ω)), (1, .int (iI (to))), (2, .int (iI (eta))), (3, .long (low)), (5, .long (high))]) hx hb dX0_noise_23 hl (by decide) rfl (fun ls hl => ?_)
      refine ix_loopH (I := fun j ls H locs => lv_has ls 11 [(7, .int (iI ((j : Nat)))), (0, .ref (ox ω)), (1, .int (iI (to))), (2, .int (iI (eta))), (3, .long (low)), (5, .long (high))] ∧ GX ω k q z (mixR M to (fun i => sNoise q low high eta i) (j)) (wk) s H ∧ va_S (Ax ω) s.heap H locs) 16 0 (by omega) ⟨lv_sub hl [0, 1, 2, 3, 4, 5] rfl, (by rw [mixR_0]; exact hG), hS⟩ (fun ls H locs hI => ?_) (fun j ls H locs hj hI ih25 => ?_)
      · obtain ⟨hl, hG, hS⟩ := hI
        have hl : lv_has ls 11 [(7, .int (iI ((16 : Nat)))), (0, .ref (ox ω)), (1, .int (iI (to))), (2, .int (iI (eta))), (3, .long (low)), (5, .long (high))] := hl
        have hM2 := mixR_in (to := to) (n := 16) hM hg
        refine lv_iload hx hb dX0_noise_25 (lv_at hl 0 rfl) ?_
        refine ix_bipush hx hb (by decide) dX0_noise_27 ?_
        refine ix_icmp_ge (tgt := 91) hx hb (by omega) (by omega) (by omega) (by omega) dX0_noise_29 (by decide) (fun h29 => ?_) (fun h29 => absurd h29 (by omega))
        refine lv_aload_n hx hb dX0_noise_91 rfl (lv_at hl 1 rfl) ?_
        refine gx_get hx hb hts hown hG 0 (by decide) rfl u55 dX0_noise_92 ?_
        refine lv_iload_n hx hb dX0_noise_95 rfl (lv_at hl 2 rfl) ?_
        refine gx_row (r := to) hx hb hG (by omega) dX0_noise_96 ?_
        refine vp_callSi (va_Run.run (va_runS (As := [.ref (oR ω (to))]) (rest := []) ⟨hx, hb, hml, hown, hts⟩ (c_notZero l ω k q z (mixR M to (fun i => sNoise q low high eta i) (16)) (wk) (to) (by omega) hq1 hq2 hM2) (va_cwS 1 hts (gU (hd := [.methodLink "NoiseRing" 69 yX0_notZero, .static yX0_notZero, .initialized "NoiseRing"]) (List.forall_mem_cons.mpr ⟨u79, List.forall_mem_cons.mpr ⟨u80, List.forall_mem_cons.mpr ⟨u29, fun _ h => by cases h⟩⟩⟩) u81) rfl rfl rfl (by decide +kernel) ⟨Nat.le_of_ble_eq_true rfl, Nat.le_of_ble_eq_true rfl⟩) (gx_S hG) rfl rfl hl.1 rfl (lv_room (Nat.le_of_ble_eq_true rfl)) dX0_noise_97 ⟨Nat.le_of_ble_eq_true rfl, Nat.le_of_ble_eq_true rfl⟩)) (fun r97 hr97 => ?_)
        subst hr97
        refine W.widen (k := 2) (n := 12) (Nat.le_of_ble_eq_true rfl) (Nat.le_of_ble_eq_true rfl) ?_
        exact vx_ret (W.iret hx hb hrt (fun t ht hW => ⟨⟨_, wk, rfl, ⟨by omega, congrArg iI (sCnt_eq (fun i hi9 => mixR_row hi9))⟩, by have h9 := hG.2; rw [← ht] at h9; exact h9⟩, hS.F ht⟩) hS.2.2 dX0_noise_100)
      · obtain ⟨hl, hG, hS⟩ := hI
        have hl : lv_has ls 11 [(7, .int (iI ((j : Nat)))), (0, .ref (ox ω)), (1, .int (iI (to))), (2, .int (iI (eta))), (3, .long (low)), (5, .long (high))] := hl
        have he : 2 * eta * j + eta + eta ≤ 96 := by
          rcases (show eta = 1 ∨ eta = 2 ∨ eta = 3 by omega) with rfl | rfl | rfl <;> omega
        have ho1 := sOnes_in low high (2 * eta * j) eta
        have ho2 := sOnes_in low high (2 * eta * j + eta) eta
        refine lv_iload hx hb dX0_noise_25 (lv_at hl 0 rfl) ?_
        refine ix_bipush hx hb (by decide) dX0_noise_27 ?_
        refine ix_icmp_ge (tgt := 91) hx hb (by omega) (by omega) (by omega) (by omega) dX0_noise_29 (by decide) (fun h29 => absurd h29 (by omega)) (fun h29 => ?_)
        refine ix_iconst hx hb dX0_noise_32 ?_
        refine lv_iload_n hx hb dX0_noise_33 rfl (lv_at hl 3 rfl) ?_
        refine ix_imul hx hb dX0_noise_34 ?_
        refine lv_iload hx hb dX0_noise_35 (lv_at hl 0 rfl) ?_
        refine ix_imul hx hb dX0_noise_37 ?_
        refine wx_i (congrArg iI (show (2 * (eta : Int)) * ((j : Nat) : Int) = ((2 * eta * j : Nat) : Int) by rw [Int.natCast_mul, Int.natCast_mul]; rfl)) ?_
        refine lv_istore (lv' := [(8, .int (iI ((2 * eta * j : Nat)))), (7, .int (iI ((j : Nat)))), (0, .ref (ox ω)), (1, .int (iI (to))), (2, .int (iI (eta))), (3, .long (low)), (5, .long (high))]) hx hb dX0_noise_38 hl (by decide) rfl (fun ls hl => ?_)
        refine lv_iload hx hb dX0_noise_40 (lv_at hl 0 rfl) ?_
        refine lv_iload_n hx hb dX0_noise_42 rfl (lv_at hl 4 rfl) ?_
        refine lv_lload_n hx hb dX0_noise_43 rfl (lv_at hl 5 rfl) ?_
        refine lv_lload hx hb dX0_noise_44 (lv_at hl 6 rfl) ?_
        refine vp_callSi (va_Run.run (va_runS (As := [.int (iI ((2 * eta * j : Nat))), .int (iI (eta)), .long (low), .long (high)]) (rest := []) ⟨hx, hb, hml, hown, hts⟩ (c_ones l (2 * eta * j) (eta) low high (by omega)) (va_cwS 4 hts (gU (hd := [.methodLink "NoiseRing" 89 yX0_ones, .static yX0_ones, .initialized "NoiseRing"]) (List.forall_mem_cons.mpr ⟨u297, List.forall_mem_cons.mpr ⟨u298, List.forall_mem_cons.mpr ⟨u29, fun _ h => by cases h⟩⟩⟩) u299) rfl rfl rfl (by decide +kernel) ⟨Nat.le_of_ble_eq_true rfl, Nat.le_of_ble_eq_true rfl⟩) gn_S rfl rfl hl.1 rfl (lv_room (Nat.le_of_ble_eq_true rfl)) dX0_noise_46 ⟨Nat.le_of_ble_eq_true rfl, Nat.le_of_ble_eq_true rfl⟩)) (fun r46 hr46 => ?_)
        subst hr46
        refine lv_istore (lv' := [(9, .int (iI ((sOnes low high ((2 * eta * j : Nat)) (eta))))), (8, .int (iI ((2 * eta * j : Nat)))), (7, .int (iI ((j : Nat)))), (0, .ref (ox ω)), (1, .int (iI (to))), (2, .int (iI (eta))), (3, .long (low)), (5, .long (high))]) hx hb dX0_noise_49 hl (by decide) rfl (fun ls hl => ?_)
        refine lv_iload hx hb dX0_noise_51 (lv_at hl 1 rfl) ?_
        refine lv_iload_n hx hb dX0_noise_53 rfl (lv_at hl 5 rfl) ?_
        refine ix_iadd hx hb dX0_noise_54 ?_
        refine wx_i (congrArg iI (show ((2 * eta * j : Nat) : Int) + (eta : Int) = ((2 * eta * j + eta : Nat) : Int) by omega)) ?_
        refine lv_iload_n hx hb dX0_noise_55 rfl (lv_at hl 5 rfl) ?_
        refine lv_lload_n hx hb dX0_noise_56 rfl (lv_at hl 6 rfl) ?_
        refine lv_lload hx hb dX0_noise_57 (lv_at hl 7 rfl) ?_
        refine vp_callSi (va_Run.run (va_runS (As := [.int (iI ((2 * eta * j + eta : Nat))), .int (iI (eta)), .long (low), .long (high)]) (rest := []) ⟨hx, hb, hml, hown, hts⟩ (c_ones l (2 * eta * j + eta) (eta) low high (by omega)) (va_cwS 4 hts (gU (hd := [.methodLink "NoiseRing" 89 yX0_ones, .static yX0_ones, .initialized "NoiseRing"]) (List.forall_mem_cons.mpr ⟨u297, List.forall_mem_cons.mpr ⟨u298, List.forall_mem_cons.mpr ⟨u29, fun _ h => by cases h⟩⟩⟩) u299) rfl rfl rfl (by decide +kernel) ⟨Nat.le_of_ble_eq_true rfl, Nat.le_of_ble_eq_true rfl⟩) gn_S rfl rfl hl.1 rfl (lv_room (Nat.le_of_ble_eq_true rfl)) dX0_noise_59 ⟨Nat.le_of_ble_eq_true rfl, Nat.le_of_ble_eq_true rfl⟩)) (fun r59 hr59 => ?_)
        subst hr59
        refine lv_istore (lv' := [(10, .int (iI ((sOnes low high ((2 * eta * j + eta : Nat)) (eta))))), (9, .int (iI ((sOnes low high ((2 * eta * j : Nat)) (eta))))), (8, .int (iI ((2 * eta * j : Nat)))), (7, .int (iI ((j : Nat)))), (0, .ref (ox ω)), (1, .int (iI (to))), (2, .int (iI (eta))), (3, .long (low)), (5, .long (high))]) hx hb dX0_noise_62 hl (by decide) rfl (fun ls hl => ?_)
        refine lv_aload_n hx hb dX0_noise_64 rfl (lv_at hl 4 rfl) ?_
        refine gx_get hx hb hts hown hG 0 (by decide) rfl u55 dX0_noise_65 ?_
        refine lv_iload_n hx hb dX0_noise_68 rfl (lv_at hl 5 rfl) ?_
        refine gx_row (r := to) hx hb hG (by omega) dX0_noise_69 ?_
        refine lv_iload hx hb dX0_noise_70 (lv_at hl 3 rfl) ?_
        refine lv_iload hx hb dX0_noise_72 (lv_at hl 1 rfl) ?_
        refine lv_iload hx hb dX0_noise_74 (lv_at hl 0 rfl) ?_
        refine ix_isub hx hb dX0_noise_76 ?_
        refine lv_aload_n hx hb dX0_noise_77 rfl (lv_at hl 4 rfl) ?_
        refine gx_get hx hb hts hown hG 3 (by decide) rfl u58 dX0_noise_78 ?_
        refine vp_callSi (va_Run.run (va_runS (As := [.int (iI (((sOnes low high ((2 * eta * j : Nat)) (eta)) - (sOnes low high ((2 * eta * j + eta : Nat)) (eta))))), .int (iI (q))]) (rest := [.int (iI ((j : Nat))), .ref (oR ω (to))]) ⟨hx, hb, hml, hown, hts⟩ (c_floorModI l (((sOnes low high ((2 * eta * j : Nat)) (eta)) - (sOnes low high ((2 * eta * j + eta : Nat)) (eta)))) (q) (by omega) (by omega) (by omega) (by omega)) (va_cwS 2 hts (gU (hd := [.methodLink "NoiseRing" 39 yJ_floorModI, .static yJ_floorModI, .initialized "java/lang/Math"]) (List.forall_mem_cons.mpr ⟨u175, List.forall_mem_cons.mpr ⟨u176, List.forall_mem_cons.mpr ⟨u36, fun _ h => by cases h⟩⟩⟩) u177) rfl rfl rfl (by decide +kernel) ⟨Nat.le_of_ble_eq_true rfl, Nat.le_of_ble_eq_true rfl⟩) gn_S rfl rfl hl.1 rfl (lv_room (Nat.le_of_ble_eq_true rfl)) dX0_noise_81 ⟨Nat.le_of_ble_eq_true rfl, Nat.le_of_ble_eq_true rfl⟩)) (fun r81 hr81 => ?_)
        subst hr81
        refine gx_ist (r := to) (i := j) hx hb hG hS (by omega) (by omega) dX0_noise_84 (fun H1 locs1 hG hS => ?_)
        refine lv_iinc (k := 3) (v := iI ((j : Nat) + 1)) (lv' := [(7, .int (iI ((j : Nat) + 1))), (10, .int (iI ((sOnes low high ((2 * eta * j + eta : Nat)) (eta))))), (9, .int (iI ((sOnes low high ((2 * eta * j : Nat)) (eta))))), (8, .int (iI ((2 * eta * j : Nat)))), (0, .ref (ox ω)), (1, .int (iI (to))), (2, .int (iI (eta))), (3, .long (low)), (5, .long (high))]) hx hb dX0_noise_85 hl rfl (iI_add _ _) (by decide) rfl (fun ls hl => ?_)
        refine lv_goto (tgt := 25) hx hb dX0_noise_88 (by decide) ?_
        exact ih25 ls _ _ ⟨lv_sub hl [0, 4, 5, 6, 7, 8] rfl, (by rw [← mixR_s]; exact hG), hS⟩
set_option maxHeartbeats 4000000 in
set_option maxRecDepth 100000 in
theorem p_join (l : Launch) (htr : l.stackTraces = false) (ω : WX) (k q z : Int) (M : Nat → Nat → Int) (wk : Nat → Int) (to op a b : Int) (to1 : -2147483648 ≤ to) (to2 : to < 2147483648) (op1 : -2147483648 ≤ op) (op2 : op < 2147483648) (a1 : -2147483648 ≤ a) (a2 : a < 2147483648) (b1 : -2147483648 ≤ b) (b2 : b < 2147483648) (hq1 : 3329 ≤ q) (hq2 : q ≤ 8380417) (hM : ∀ r i, r < 12 → i < 16 → 0 ≤ M r i ∧ M r i < q) : vx_Met l yX0_join wsX0_join ({ frames := 7, cells := 4, slots := 24, locals := 102 }) (va_Pc [.ref (ox ω), .int (iI (to)), .int (iI (op)), .int (iI (a)), .int (iI (b))] (fun U => GX ω k q z M wk U U.heap)) (va_Qi (fun r_ (_ : Nat → Int) => (((0 ≤ to ∧ to < 12) ∧ (0 ≤ a ∧ a < 12) ∧ (0 ≤ b ∧ b < 12)) ∧ 0 ≤ op ∧ op ≤ 2) ∧ r_ = iI (sMax q (fun i => sJoin q op (M a.toNat) (M b.toNat) i) 16)) (fun w_ t => CX ω k q z (mixR M to.toNat (fun i => sJoin q op (M a.toNat) (M b.toNat) i) 16) w_ t.heap) (Ax ω)) (vx_X (fun _ : Unit => True) (fun E _ t => ((¬ ((0 ≤ to ∧ to < 12) ∧ (0 ≤ a ∧ a < 12) ∧ (0 ≤ b ∧ b < 12)) ∧ E = nNSE) ∨ (((0 ≤ to ∧ to < 12) ∧ (0 ≤ a ∧ a < 12) ∧ (0 ≤ b ∧ b < 12)) ∧ ¬ (0 ≤ op ∧ op ≤ 2) ∧ E = nIAE)) ∧ CX ω k q z M wk t.heap) (Ax ω)) 4 24 (Ax ω) := by
  refine vx_ofW (cc := cX0_join) (maxL := 6) (ret := (some .int)) (by decide +kernel) rfl ?_
  intro p e s m args below meth c s₁ B hml hnx hv
  obtain ⟨rfl, hG⟩ := hv
  have hx := B.exec
  have hb := B.bytes
  have hrt := B.returns
  have hts : ∀ w ∈ wsU, w.before _ s = true := fun w h => atoms_spec (ws := wsX0_join) B.pre w (List.mem_cons_of_mem _ h)
  have hown : s.vm.findClass "NoiseRing" = some m.cls := findClass_of_methodNamed B.named
  have hlocks := B.notSynchronized
  have hS : va_S (Ax ω) s.heap s.heap [] := va_S.rf
  have hl := lv_entry ([.ref (ox ω), .int (iI (to)), .int (iI (op)), .int (iI (a)), .int (iI (b))]) (n := 6) (Nat.le_of_ble_eq_true rfl)
  rw [lg_entry_eq]
  generalize (lg_sl ([.ref (ox ω), .int (iI (to)), .int (iI (op)), .int (iI (a)), .int (iI (b))]) ++ List.replicate (6 - (lg_sl ([.ref (ox ω), .int (iI (to)), .int (iI (op)), .int (iI (a)), .int (iI (b))])).length) Slot.unset).toArray = ls at hl ⊢
  have hl : lv_has ls 6 [(0, .ref (ox ω)), (1, .int (iI (to))), (2, .int (iI (op))), (3, .int (iI (a))), (4, .int (iI (b)))] := hl
  have hB0 := hG.1
  refine lv_iload_n hx hb dX0_join_0 rfl (lv_at hl 1 rfl) ?_
  refine vx_callv (vx_runS (As := [.int (iI (to))]) (rest := []) ⟨hx, hb, hml, hown, hts⟩ (n_needRegister l htr ω k q z M wk _ (to) (by omega) (by omega)) (va_cwS 1 hts (gU (hd := [.methodLink "NoiseRing" 33 yX0_needRegister, .static yX0_needRegister, .initialized "NoiseRing"]) (List.forall_mem_cons.mpr ⟨u155, List.forall_mem_cons.mpr ⟨u156, List.forall_mem_cons.mpr ⟨u29, fun _ h => by cases h⟩⟩⟩) u157) rfl rfl rfl (by decide +kernel) ⟨Nat.le_of_ble_eq_true rfl, Nat.le_of_ble_eq_true rfl⟩) (gx_Sh hG) rfl rfl hl.1 rfl (lv_room (Nat.le_of_ble_eq_true rfl)) dX0_join_1 ⟨Nat.le_of_ble_eq_true rfl, Nat.le_of_ble_eq_true rfl⟩) hS (fun q9 _ h => h.elim) (fun q9 h => h.elim) (fun q9 _ h => h.elim) (fun E ce q9 u t H1 locs1 ht hvm hpx hBX hz hk hS1 hce hcv hcl => ?_) (fun u t H1 locs1 ht hvm hp1 hB hz hk hS1 => ?_)
  · exact vx_out (E := E) (fun x9 h9 => (hnx x9 h9).elim) hlocks hce hcv hcl (fun t1 ht1 ha1 => ⟨(), trivial, ⟨Or.inl ⟨by omega, hBX.2⟩, by rw [ht1]; exact hG.2.kept (fun a9 g9 => hk a9 g9 (fun f9 => f9))⟩, hS1.F ht1⟩) hS1.2.2 (Nat.le_of_ble_eq_true rfl) (Nat.le_of_ble_eq_true rfl)
  obtain rfl := ht.symm.trans hB
  clear hS
  have hS := hS1
  obtain ⟨to, rfl⟩ := Int.eq_ofNat_of_zero_le hp1.1
  refine lv_iload_n hx hb dX0_join_4 rfl (lv_at hl 3 rfl) ?_
  refine vx_callv (vx_runS (As := [.int (iI (a))]) (rest := []) ⟨hx, hb, hml, hown, hts⟩ (n_needRegister l htr ω k q z M wk _ (a) (by omega) (by omega)) (va_cwS 1 hts (gU (hd := [.methodLink "NoiseRing" 33 yX0_needRegister, .static yX0_needRegister, .initialized "NoiseRing"]) (List.forall_mem_cons.mpr ⟨u155, List.forall_mem_cons.mpr ⟨u156, List.forall_mem_cons.mpr ⟨u29, fun _ h => by cases h⟩⟩⟩) u157) rfl rfl rfl (by decide +kernel) ⟨Nat.le_of_ble_eq_true rfl, Nat.le_of_ble_eq_true rfl⟩) (gx_Sh hG) rfl rfl hl.1 rfl (lv_room (Nat.le_of_ble_eq_true rfl)) dX0_join_5 ⟨Nat.le_of_ble_eq_true rfl, Nat.le_of_ble_eq_true rfl⟩) hS (fun q9 _ h => h.elim) (fun q9 h => h.elim) (fun q9 _ h => h.elim) (fun E ce q9 u t H1 locs1 ht hvm hpx hBX hz hk hS1 hce hcv hcl => ?_) (fun u t H1 locs1 ht hvm hp5 hB hz hk hS1 => ?_)
  · exact vx_out (E := E) (fun x9 h9 => (hnx x9 h9).elim) hlocks hce hcv hcl (fun t1 ht1 ha1 => ⟨(), trivial, ⟨Or.inl ⟨by omega, hBX.2⟩, by rw [ht1]; exact hG.2.kept (fun a9 g9 => hk a9 g9 (fun f9 => f9))⟩, hS1.F ht1⟩) hS1.2.2 (Nat.le_of_ble_eq_true rfl) (Nat.le_of_ble_eq_true rfl)
  obtain rfl := ht.symm.trans hB
  clear hS
  have hS := hS1
  obtain ⟨a, rfl⟩ := Int.eq_ofNat_of_zero_le hp5.1
  refine lv_iload hx hb dX0_join_8 (lv_at hl 4 rfl) ?_
  refine vx_callv (vx_runS (As := [.int (iI (b))]) (rest := []) ⟨hx, hb, hml, hown, hts⟩ (n_needRegister l htr ω k q z M wk _ (b) (by omega) (by omega)) (va_cwS 1 hts (gU (hd := [.methodLink "NoiseRing" 33 yX0_needRegister, .static yX0_needRegister, .initialized "NoiseRing"]) (List.forall_mem_cons.mpr ⟨u155, List.forall_mem_cons.mpr ⟨u156, List.forall_mem_cons.mpr ⟨u29, fun _ h => by cases h⟩⟩⟩) u157) rfl rfl rfl (by decide +kernel) ⟨Nat.le_of_ble_eq_true rfl, Nat.le_of_ble_eq_true rfl⟩) (gx_Sh hG) rfl rfl hl.1 rfl (lv_room (Nat.le_of_ble_eq_true rfl)) dX0_join_10 ⟨Nat.le_of_ble_eq_true rfl, Nat.le_of_ble_eq_true rfl⟩) hS (fun q9 _ h => h.elim) (fun q9 h => h.elim) (fun q9 _ h => h.elim) (fun E ce q9 u t H1 locs1 ht hvm hpx hBX hz hk hS1 hce hcv hcl => ?_) (fun u t H1 locs1 ht hvm hp10 hB hz hk hS1 => ?_)
  · exact vx_out (E := E) (fun x9 h9 => (hnx x9 h9).elim) hlocks hce hcv hcl (fun t1 ht1 ha1 => ⟨(), trivial, ⟨Or.inl ⟨by omega, hBX.2⟩, by rw [ht1]; exact hG.2.kept (fun a9 g9 => hk a9 g9 (fun f9 => f9))⟩, hS1.F ht1⟩) hS1.2.2 (Nat.le_of_ble_eq_true rfl) (Nat.le_of_ble_eq_true rfl)
  obtain rfl := ht.symm.trans hB
  clear hS
  have hS := hS1
  obtain ⟨b, rfl⟩ := Int.eq_ofNat_of_zero_le hp10.1
  refine lv_iload_n hx hb dX0_join_13 rfl (lv_at hl 2 rfl) ?_
  refine ix_if_lt (tgt := 26) hx hb (by omega) (by omega) dX0_join_14 (by decide) (fun h14 => ?_) (fun h14 => ?_)
  · skip
    refine ix_iconst hx hb dX0_join_26 ?_
    refine vx_callv (vx_runS (As := [.int (iI (0))]) (rest := []) ⟨hx, hb, hml, hown, hts⟩ (n_needArgument l htr ω k q z M wk _ (0) (by omega) (by omega)) (va_cwS 1 hts (gU (hd := [.methodLink "NoiseRing" 25 yX0_needArgument, .static yX0_needArgument, .initialized "NoiseRing"]) (List.forall_mem_cons.mpr ⟨u90, List.forall_mem_cons.mpr ⟨u91, List.forall_mem_cons.mpr ⟨u29, fun _ h => by cases h⟩⟩⟩) u92) rfl rfl rfl (by decide +kernel) ⟨Nat.le_of_ble_eq_true rfl, Nat.le_of_ble_eq_true rfl⟩) (gx_Sh hG) rfl rfl hl.1 rfl (lv_room (Nat.le_of_ble_eq_true rfl)) dX0_join_27 ⟨Nat.le_of_ble_eq_true rfl, Nat.le_of_ble_eq_true rfl⟩) hS (fun q9 _ h => h.elim) (fun q9 h => h.elim) (fun q9 _ h => h.elim) (fun E ce q9 u t H1 locs1 ht hvm hpx hBX hz hk hS1 hce hcv hcl => ?_) (fun u t H1 locs1 ht hvm hp27 hB hz hk hS1 => ?_)
    · exact vx_out (E := E) (fun x9 h9 => (hnx x9 h9).elim) hlocks hce hcv hcl (fun t1 ht1 ha1 => ⟨(), trivial, ⟨Or.inr ⟨⟨by omega, by omega, by omega⟩, by omega, hBX.2⟩, by rw [ht1]; exact hG.2.kept (fun a9 g9 => hk a9 g9 (fun f9 => f9))⟩, hS1.F ht1⟩) hS1.2.2 (Nat.le_of_ble_eq_true rfl) (Nat.le_of_ble_eq_true rfl)
    exact (hp27 rfl).elim
  · skip
    refine lv_iload_n hx hb dX0_join_17 rfl (lv_at hl 2 rfl) ?_
    refine ix_iconst hx hb dX0_join_18 ?_
    refine ix_icmp_gt (tgt := 26) hx hb (by omega) (by omega) (by omega) (by omega) dX0_join_19 (by decide) (fun h19 => ?_) (fun h19 => ?_)
    · skip
      refine ix_iconst hx hb dX0_join_26 ?_
      refine vx_callv (vx_runS (As := [.int (iI (0))]) (rest := []) ⟨hx, hb, hml, hown, hts⟩ (n_needArgument l htr ω k q z M wk _ (0) (by omega) (by omega)) (va_cwS 1 hts (gU (hd := [.methodLink "NoiseRing" 25 yX0_needArgument, .static yX0_needArgument, .initialized "NoiseRing"]) (List.forall_mem_cons.mpr ⟨u90, List.forall_mem_cons.mpr ⟨u91, List.forall_mem_cons.mpr ⟨u29, fun _ h => by cases h⟩⟩⟩) u92) rfl rfl rfl (by decide +kernel) ⟨Nat.le_of_ble_eq_true rfl, Nat.le_of_ble_eq_true rfl⟩) (gx_Sh hG) rfl rfl hl.1 rfl (lv_room (Nat.le_of_ble_eq_true rfl)) dX0_join_27 ⟨Nat.le_of_ble_eq_true rfl, Nat.le_of_ble_eq_true rfl⟩) hS (fun q9 _ h => h.elim) (fun q9 h => h.elim) (fun q9 _ h => h.elim) (fun E ce q9 u t H1 locs1 ht hvm hpx hBX hz hk hS1 hce hcv hcl => ?_) (fun u t H1 locs1 ht hvm hp27 hB hz hk hS1 => ?_)
      · exact vx_out (E := E) (fun x9 h9 => (hnx x9 h9).elim) hlocks hce hcv hcl (fun t1 ht1 ha1 => ⟨(), trivial, ⟨Or.inr ⟨⟨by omega, by omega, by omega⟩, by omega, hBX.2⟩, by rw [ht1]; exact hG.2.kept (fun a9 g9 => hk a9 g9 (fun f9 => f9))⟩, hS1.F ht1⟩) hS1.2.2 (Nat.le_of_ble_eq_true rfl) (Nat.le_of_ble_eq_true rfl)
      exact (hp27 rfl).elim
    · skip
      refine ix_iconst hx hb dX0_join_22 ?_
      refine lv_goto (tgt := 27) hx hb dX0_join_23 (by decide) ?_
      refine vx_callv (vx_runS (As := [.int (iI (1))]) (rest := []) ⟨hx, hb, hml, hown, hts⟩ (n_needArgument l htr ω k q z M wk _ (1) (by omega) (by omega)) (va_cwS 1 hts (gU (hd := [.methodLink "NoiseRing" 25 yX0_needArgument, .static yX0_needArgument, .initialized "NoiseRing"]) (List.forall_mem_cons.mpr ⟨u90, List.forall_mem_cons.mpr ⟨u91, List.forall_mem_cons.mpr ⟨u29, fun _ h => by cases h⟩⟩⟩) u92) rfl rfl rfl (by decide +kernel) ⟨Nat.le_of_ble_eq_true rfl, Nat.le_of_ble_eq_true rfl⟩) (gx_Sh hG) rfl rfl hl.1 rfl (lv_room (Nat.le_of_ble_eq_true rfl)) dX0_join_27 ⟨Nat.le_of_ble_eq_true rfl, Nat.le_of_ble_eq_true rfl⟩) hS (fun q9 _ h => h.elim) (fun q9 h => h.elim) (fun q9 _ h => h.elim) (fun E ce q9 u t H1 locs1 ht hvm hpx hBX hz hk hS1 hce hcv hcl => ?_) (fun u t H1 locs1 ht hvm hp27 hB hz hk hS1 => ?_)
      · exact (hBX.1 (by decide)).elim
      obtain rfl := ht.symm.trans hB
      clear hS
      have hS := hS1
      have hg : ∀ i, i < 16 → 0 ≤ (fun i => sJoin q op (M a) (M b) i) i ∧ (fun i => sJoin q op (M a) (M b) i) i < q := fun i hi9 => by
        show 0 ≤ sJoin q op (M a) (M b) i ∧ sJoin q op (M a) (M b) i < q
        unfold sJoin
        split
        · exact ⟨Int.emod_nonneg _ (by omega), Int.emod_lt_of_pos _ (by omega)⟩
        · split
          · exact ⟨Int.emod_nonneg _ (by omega), Int.emod_lt_of_pos _ (by omega)⟩
          · exact ⟨Int.emod_nonneg _ (by omega), Int.emod_lt_of_pos _ (by omega)⟩
      refine ix_iconst hx hb dX0_join_30 ?_
      refine lv_istore (lv' := [(5, .int (iI (0))), (0, .ref (ox ω)), (1, .int (iI (to))), (2, .int (iI (op))), (3, .int (iI (a))), (4, .int (iI (b)))]) hx hb dX0_join_31 hl (by decide) rfl (fun ls hl => ?_)
      refine ix_loopH (I := fun j ls H locs => lv_has ls 6 [(5, .int (iI ((j : Nat)))), (0, .ref (ox ω)), (1, .int (iI (to))), (2, .int (iI (op))), (3, .int (iI (a))), (4, .int (iI (b)))] ∧ GX ω k q z (M) (mixI wk (fun i => sJoin q op (M a) (M b) i) (j)) s H ∧ va_S (Ax ω) s.heap H locs) 16 0 (by omega) ⟨lv_sub hl [0, 1, 2, 3, 4, 5] rfl, (by rw [mixI_0]; exact hG), hS⟩ (fun ls H locs hI => ?_) (fun j ls H locs hj hI ih33 => ?_)
      · obtain ⟨hl, hG, hS⟩ := hI
        have hl : lv_has ls 6 [(5, .int (iI ((16 : Nat)))), (0, .ref (ox ω)), (1, .int (iI (to))), (2, .int (iI (op))), (3, .int (iI (a))), (4, .int (iI (b)))] := hl
        have hM2 := hM
        refine lv_iload hx hb dX0_join_33 (lv_at hl 0 rfl) ?_
        refine ix_bipush hx hb (by decide) dX0_join_35 ?_
        refine ix_icmp_ge (tgt := 73) hx hb (by omega) (by omega) (by omega) (by omega) dX0_join_37 (by decide) (fun h37 => ?_) (fun h37 => absurd h37 (by omega))
        refine lv_aload_n hx hb dX0_join_73 rfl (lv_at hl 1 rfl) ?_
        refine gx_get hx hb hts hown hG 1 (by decide) rfl u56 dX0_join_74 ?_
        refine ix_iconst hx hb dX0_join_77 ?_
        refine lv_aload_n hx hb dX0_join_78 rfl (lv_at hl 1 rfl) ?_
        refine gx_get hx hb hts hown hG 0 (by decide) rfl u55 dX0_join_79 ?_
        refine lv_iload_n hx hb dX0_join_82 rfl (lv_at hl 2 rfl) ?_
        refine gx_row (r := to) hx hb hG (by omega) dX0_join_83 ?_
        refine ix_iconst hx hb dX0_join_84 ?_
        refine ix_bipush hx hb (by decide) dX0_join_85 ?_
        refine gx_copy (to := to) hx hb hts (hml.trans hl.1.symm) hown hG hS (by omega) (Nat.le_of_ble_eq_true rfl) (Nat.le_of_ble_eq_true rfl) dX0_join_87 (fun H1 locs1 hG hS => ?_)
        rw [mixR_mix] at hG
        have hM3 := mixR_in (to := to) (n := 16) hM hg
        refine lv_aload_n hx hb dX0_join_90 rfl (lv_at hl 1 rfl) ?_
        refine lv_aload_n hx hb dX0_join_91 rfl (lv_at hl 1 rfl) ?_
        refine gx_get hx hb hts hown hG 0 (by decide) rfl u55 dX0_join_92 ?_
        refine lv_iload_n hx hb dX0_join_95 rfl (lv_at hl 2 rfl) ?_
        refine gx_row (r := to) hx hb hG (by omega) dX0_join_96 ?_
        refine vp_callSi (va_Run.run (va_runV (As := [.ref (oR ω (to))]) (rest := []) ⟨hx, hb, hml, hown, hts⟩ (c_greatestSize l ω k q z (mixR M to (fun i => sJoin q op (M a) (M b) i) 16) (mixI wk (fun i => sJoin q op (M a) (M b) i) (16)) (to) (by omega) hq1 hq2 hM3) (cwV 1 hts (gU (hd := [.methodLink "NoiseRing" 55 yX0_greatestSize, .instanceMethod yX0_greatestSize, .selects "NoiseRing" yX0_greatestSize yX0_greatestSize, .initialized "NoiseRing"]) (List.forall_mem_cons.mpr ⟨u204, List.forall_mem_cons.mpr ⟨u205, List.forall_mem_cons.mpr ⟨u6, List.forall_mem_cons.mpr ⟨u29, fun _ h => by cases h⟩⟩⟩⟩) u206) rfl rfl rfl (by decide +kernel) ⟨Nat.le_of_ble_eq_true rfl, Nat.le_of_ble_eq_true rfl⟩) (gx_V hG) rfl rfl hl.1 rfl (lv_room (Nat.le_of_ble_eq_true rfl)) dX0_join_97 ⟨Nat.le_of_ble_eq_true rfl, Nat.le_of_ble_eq_true rfl⟩)) (fun r97 hr97 => ?_)
        subst hr97
        refine W.widen (k := 4) (n := 24) (Nat.le_of_ble_eq_true rfl) (Nat.le_of_ble_eq_true rfl) ?_
        exact vx_ret (W.iret hx hb hrt (fun t ht hW => ⟨⟨_, mixI wk (fun i => sJoin q op (M a) (M b) i) 16, rfl, ⟨by omega, congrArg iI (sMax_eq (fun i hi9 => mixR_row hi9))⟩, by have h9 := hG.2; rw [← ht] at h9; exact h9⟩, hS.F ht⟩) hS.2.2 dX0_join_100)
      · obtain ⟨hl, hG, hS⟩ := hI
        have hl : lv_has ls 6 [(5, .int (iI ((j : Nat)))), (0, .ref (ox ω)), (1, .int (iI (to))), (2, .int (iI (op))), (3, .int (iI (a))), (4, .int (iI (b)))] := hl
        have hMj := hM
        refine lv_iload hx hb dX0_join_33 (lv_at hl 0 rfl) ?_
        refine ix_bipush hx hb (by decide) dX0_join_35 ?_
        refine ix_icmp_ge (tgt := 73) hx hb (by omega) (by omega) (by omega) (by omega) dX0_join_37 (by decide) (fun h37 => absurd h37 (by omega)) (fun h37 => ?_)
        refine lv_aload_n hx hb dX0_join_40 rfl (lv_at hl 1 rfl) ?_
        refine gx_get hx hb hts hown hG 1 (by decide) rfl u56 dX0_join_41 ?_
        refine lv_iload hx hb dX0_join_44 (lv_at hl 0 rfl) ?_
        refine lv_aload_n hx hb dX0_join_46 rfl (lv_at hl 1 rfl) ?_
        refine lv_iload_n hx hb dX0_join_47 rfl (lv_at hl 3 rfl) ?_
        refine lv_aload_n hx hb dX0_join_48 rfl (lv_at hl 1 rfl) ?_
        refine gx_get hx hb hts hown hG 0 (by decide) rfl u55 dX0_join_49 ?_
        refine lv_iload_n hx hb dX0_join_52 rfl (lv_at hl 4 rfl) ?_
        refine gx_row (r := a) hx hb hG (by omega) dX0_join_53 ?_
        refine lv_aload_n hx hb dX0_join_54 rfl (lv_at hl 1 rfl) ?_
        refine gx_get hx hb hts hown hG 0 (by decide) rfl u55 dX0_join_55 ?_
        refine lv_iload hx hb dX0_join_58 (lv_at hl 5 rfl) ?_
        refine gx_row (r := b) hx hb hG (by omega) dX0_join_60 ?_
        refine lv_iload hx hb dX0_join_61 (lv_at hl 0 rfl) ?_
        refine vp_callSi (va_Run.run (va_runV (As := [.int (iI (op)), .ref (oR ω (a)), .ref (oR ω (b)), .int (iI ((j : Nat)))]) (rest := [.int (iI ((j : Nat))), .ref (ow ω)]) ⟨hx, hb, hml, hown, hts⟩ (c_joined l ω k q z (M) (mixI wk (fun i => sJoin q op (M a) (M b) i) (j)) (op) (a) (b) (j) (by omega) (by omega) (by omega) (by omega) (by omega) hq1 hq2 hMj) (cwV 4 hts (gU (hd := [.methodLink "NoiseRing" 45 yX0_joined, .instanceMethod yX0_joined, .selects "NoiseRing" yX0_joined yX0_joined, .initialized "NoiseRing"]) (List.forall_mem_cons.mpr ⟨u192, List.forall_mem_cons.mpr ⟨u193, List.forall_mem_cons.mpr ⟨u4, List.forall_mem_cons.mpr ⟨u29, fun _ h => by cases h⟩⟩⟩⟩) u194) rfl rfl rfl (by decide +kernel) ⟨Nat.le_of_ble_eq_true rfl, Nat.le_of_ble_eq_true rfl⟩) (gx_V hG) rfl rfl hl.1 rfl (lv_room (Nat.le_of_ble_eq_true rfl)) dX0_join_63 ⟨Nat.le_of_ble_eq_true rfl, Nat.le_of_ble_eq_true rfl⟩)) (fun r63 hr63 => ?_)
        subst hr63
        refine gx_wst (i := j) hx hb hG hS (by omega) dX0_join_66 (fun H1 locs1 hG hS => ?_)
        refine lv_iinc (k := 0) (v := iI ((j : Nat) + 1)) (lv' := [(5, .int (iI ((j : Nat) + 1))), (0, .ref (ox ω)), (1, .int (iI (to))), (2, .int (iI (op))), (3, .int (iI (a))), (4, .int (iI (b)))]) hx hb dX0_join_67 hl rfl (iI_add _ _) (by decide) rfl (fun ls hl => ?_)
        refine lv_goto (tgt := 33) hx hb dX0_join_70 (by decide) ?_
        exact ih33 ls _ _ ⟨lv_sub hl [0, 1, 2, 3, 4, 5] rfl, (by rw [← mixI_s]; exact hG), hS⟩
set_option maxHeartbeats 4000000 in
set_option maxRecDepth 100000 in
theorem p_far (l : Launch) (htr : l.stackTraces = false) (ω : WX) (k q z : Int) (M : Nat → Nat → Int) (wk : Nat → Int) (a b : Int) (a1 : -2147483648 ≤ a) (a2 : a < 2147483648) (b1 : -2147483648 ≤ b) (b2 : b < 2147483648) (hq1 : 3329 ≤ q) (hq2 : q ≤ 8380417) (hM : ∀ r i, r < 12 → i < 16 → 0 ≤ M r i ∧ M r i < q) : vx_Met l yX0_far wsX0_far ({ frames := 7, cells := 2, slots := 12, locals := 102 }) (va_Pc [.ref (ox ω), .int (iI (a)), .int (iI (b))] (fun U => GX ω k q z M wk U U.heap)) (va_Qi (fun r_ (_ : Nat → Int) => ((0 ≤ a ∧ a < 12) ∧ (0 ≤ b ∧ b < 12)) ∧ r_ = iI (sFar q (M a.toNat) (M b.toNat) 16)) (fun w_ t => CX ω k q z M w_ t.heap) (Ax ω)) (vx_X (fun _ : Unit => True) (fun E _ t => (¬ ((0 ≤ a ∧ a < 12) ∧ (0 ≤ b ∧ b < 12)) ∧ E = nNSE) ∧ CX ω k q z M wk t.heap) (Ax ω)) 2 12 (Ax ω) := by
  refine vx_ofW (cc := cX0_far) (maxL := 5) (ret := (some .int)) (by decide +kernel) rfl ?_
  intro p e s m args below meth c s₁ B hml hnx hv
  obtain ⟨rfl, hG⟩ := hv
  have hx := B.exec
  have hb := B.bytes
  have hrt := B.returns
  have hts : ∀ w ∈ wsU, w.before _ s = true := fun w h => atoms_spec (ws := wsX0_far) B.pre w (List.mem_cons_of_mem _ h)
  have hown : s.vm.findClass "NoiseRing" = some m.cls := findClass_of_methodNamed B.named
  have hlocks := B.notSynchronized
  have hS : va_S (Ax ω) s.heap s.heap [] := va_S.rf
  have hl := lv_entry ([.ref (ox ω), .int (iI (a)), .int (iI (b))]) (n := 5) (Nat.le_of_ble_eq_true rfl)
  rw [lg_entry_eq]
  generalize (lg_sl ([.ref (ox ω), .int (iI (a)), .int (iI (b))]) ++ List.replicate (5 - (lg_sl ([.ref (ox ω), .int (iI (a)), .int (iI (b))])).length) Slot.unset).toArray = ls at hl ⊢
  have hl : lv_has ls 5 [(0, .ref (ox ω)), (1, .int (iI (a))), (2, .int (iI (b)))] := hl
  have hB0 := hG.1
  refine lv_iload_n hx hb dX0_far_0 rfl (lv_at hl 1 rfl) ?_
  refine vx_callv (vx_runS (As := [.int (iI (a))]) (rest := []) ⟨hx, hb, hml, hown, hts⟩ (n_needRegister l htr ω k q z M wk _ (a) (by omega) (by omega)) (va_cwS 1 hts (gU (hd := [.methodLink "NoiseRing" 33 yX0_needRegister, .static yX0_needRegister, .initialized "NoiseRing"]) (List.forall_mem_cons.mpr ⟨u155, List.forall_mem_cons.mpr ⟨u156, List.forall_mem_cons.mpr ⟨u29, fun _ h => by cases h⟩⟩⟩) u157) rfl rfl rfl (by decide +kernel) ⟨Nat.le_of_ble_eq_true rfl, Nat.le_of_ble_eq_true rfl⟩) (gx_Sh hG) rfl rfl hl.1 rfl (lv_room (Nat.le_of_ble_eq_true rfl)) dX0_far_1 ⟨Nat.le_of_ble_eq_true rfl, Nat.le_of_ble_eq_true rfl⟩) hS (fun q9 _ h => h.elim) (fun q9 h => h.elim) (fun q9 _ h => h.elim) (fun E ce q9 u t H1 locs1 ht hvm hpx hBX hz hk hS1 hce hcv hcl => ?_) (fun u t H1 locs1 ht hvm hp1 hB hz hk hS1 => ?_)
  · exact vx_out (E := E) (fun x9 h9 => (hnx x9 h9).elim) hlocks hce hcv hcl (fun t1 ht1 ha1 => ⟨(), trivial, ⟨⟨by omega, hBX.2⟩, by rw [ht1]; exact hG.2.kept (fun a9 g9 => hk a9 g9 (fun f9 => f9))⟩, hS1.F ht1⟩) hS1.2.2 (Nat.le_of_ble_eq_true rfl) (Nat.le_of_ble_eq_true rfl)
  obtain rfl := ht.symm.trans hB
  clear hS
  have hS := hS1
  obtain ⟨a, rfl⟩ := Int.eq_ofNat_of_zero_le hp1.1
  refine lv_iload_n hx hb dX0_far_4 rfl (lv_at hl 2 rfl) ?_
  refine vx_callv (vx_runS (As := [.int (iI (b))]) (rest := []) ⟨hx, hb, hml, hown, hts⟩ (n_needRegister l htr ω k q z M wk _ (b) (by omega) (by omega)) (va_cwS 1 hts (gU (hd := [.methodLink "NoiseRing" 33 yX0_needRegister, .static yX0_needRegister, .initialized "NoiseRing"]) (List.forall_mem_cons.mpr ⟨u155, List.forall_mem_cons.mpr ⟨u156, List.forall_mem_cons.mpr ⟨u29, fun _ h => by cases h⟩⟩⟩) u157) rfl rfl rfl (by decide +kernel) ⟨Nat.le_of_ble_eq_true rfl, Nat.le_of_ble_eq_true rfl⟩) (gx_Sh hG) rfl rfl hl.1 rfl (lv_room (Nat.le_of_ble_eq_true rfl)) dX0_far_5 ⟨Nat.le_of_ble_eq_true rfl, Nat.le_of_ble_eq_true rfl⟩) hS (fun q9 _ h => h.elim) (fun q9 h => h.elim) (fun q9 _ h => h.elim) (fun E ce q9 u t H1 locs1 ht hvm hpx hBX hz hk hS1 hce hcv hcl => ?_) (fun u t H1 locs1 ht hvm hp5 hB hz hk hS1 => ?_)
  · exact vx_out (E := E) (fun x9 h9 => (hnx x9 h9).elim) hlocks hce hcv hcl (fun t1 ht1 ha1 => ⟨(), trivial, ⟨⟨by omega, hBX.2⟩, by rw [ht1]; exact hG.2.kept (fun a9 g9 => hk a9 g9 (fun f9 => f9))⟩, hS1.F ht1⟩) hS1.2.2 (Nat.le_of_ble_eq_true rfl) (Nat.le_of_ble_eq_true rfl)
  obtain rfl := ht.symm.trans hB
  clear hS
  have hS := hS1
  obtain ⟨b, rfl⟩ := Int.eq_ofNat_of_zero_le hp5.1
  refine ix_iconst hx hb dX0_far_8 ?_
  refine lv_istore_n (lv' := [(3, .int (iI (0))), (0, .ref (ox ω)), (1, .int (iI (a))), (2, .int (iI (b)))]) hx hb dX0_far_9 rfl hl (by decide) rfl (fun ls hl => ?_)
  refine ix_iconst hx hb dX0_far_10 ?_
  refine lv_istore (lv' := [(4, .int (iI (0))), (3, .int (iI (0))), (0, .ref (ox ω)), (1, .int (iI (a))), (2, .int (iI (b)))]) hx hb dX0_far_11 hl (by decide) rfl (fun ls hl => ?_)
  refine ix_loop (I := fun j ls => lv_has ls 5 [(4, .int (iI ((j : Nat)))), (3, .int (iI (sFar q (M a) (M b) (j)))), (0, .ref (ox ω)), (1, .int (iI (a))), (2, .int (iI (b)))]) (16) 0 (by omega) (lv_sub hl [0, 1, 2, 3, 4] rfl) (fun ls hl => ?_) (fun j ls hj hl ih13 => ?_)
  · skip
    have hl : lv_has ls 5 [(4, .int (iI ((16 : Nat)))), (3, .int (iI (sFar q (M a) (M b) (16)))), (0, .ref (ox ω)), (1, .int (iI (a))), (2, .int (iI (b)))] := hl
    refine lv_iload hx hb dX0_far_13 (lv_at hl 0 rfl) ?_
    refine ix_bipush hx hb (by decide) dX0_far_15 ?_
    refine ix_icmp_ge (tgt := 59) hx hb (by omega) (by omega) (by omega) (by omega) dX0_far_17 (by decide) (fun h17 => ?_) (fun h17 => absurd h17 (by omega))
    refine lv_iload_n hx hb dX0_far_59 rfl (lv_at hl 1 rfl) ?_
    refine W.widen (k := 2) (n := 12) (Nat.le_of_ble_eq_true rfl) (Nat.le_of_ble_eq_true rfl) ?_
    exact vx_ret (W.iret hx hb hrt (fun t ht hW => ⟨⟨_, wk, rfl, ⟨by omega, congrArg iI (rfl)⟩, by have h9 := hG.2; rw [← ht] at h9; exact h9⟩, hS.F ht⟩) hS.2.2 dX0_far_60)
  · skip
    have hl : lv_has ls 5 [(4, .int (iI ((j : Nat)))), (3, .int (iI (sFar q (M a) (M b) (j)))), (0, .ref (ox ω)), (1, .int (iI (a))), (2, .int (iI (b)))] := hl
    refine lv_iload hx hb dX0_far_13 (lv_at hl 0 rfl) ?_
    refine ix_bipush hx hb (by decide) dX0_far_15 ?_
    refine ix_icmp_ge (tgt := 59) hx hb (by omega) (by omega) (by omega) (by omega) dX0_far_17 (by decide) (fun h17 => absurd h17 (by omega)) (fun h17 => ?_)
    have hm := hM a j (by omega) hj
    have hmb := hM b j (by omega) hj
    have ho1 := Int.emod_nonneg (M a j - M b j) (show q ≠ 0 by omega)
    have ho2 := Int.emod_lt_of_pos (M a j - M b j) (show 0 < q by omega)
    refine lv_iload_n hx hb dX0_far_20 rfl (lv_at hl 1 rfl) ?_
    refine lv_aload_n hx hb dX0_far_21 rfl (lv_at hl 2 rfl) ?_
    refine lv_aload_n hx hb dX0_far_22 rfl (lv_at hl 2 rfl) ?_
    refine gx_get hx hb hts hown hG 0 (by decide) rfl u55 dX0_far_23 ?_
    refine lv_iload_n hx hb dX0_far_26 rfl (lv_at hl 3 rfl) ?_
    refine gx_row (r := a) hx hb hG (by omega) dX0_far_27 ?_
    refine lv_iload hx hb dX0_far_28 (lv_at hl 0 rfl) ?_
    refine gx_ild (r := a) (i := j) hx hb hG (by omega) (by omega) dX0_far_30 ?_
    refine lv_aload_n hx hb dX0_far_31 rfl (lv_at hl 2 rfl) ?_
    refine gx_get hx hb hts hown hG 0 (by decide) rfl u55 dX0_far_32 ?_
    refine lv_iload_n hx hb dX0_far_35 rfl (lv_at hl 4 rfl) ?_
    refine gx_row (r := b) hx hb hG (by omega) dX0_far_36 ?_
    refine lv_iload hx hb dX0_far_37 (lv_at hl 0 rfl) ?_
    refine gx_ild (r := b) (i := j) hx hb hG (by omega) (by omega) dX0_far_39 ?_
    refine ix_isub hx hb dX0_far_40 ?_
    refine lv_aload_n hx hb dX0_far_41 rfl (lv_at hl 2 rfl) ?_
    refine gx_get hx hb hts hown hG 3 (by decide) rfl u58 dX0_far_42 ?_
    refine vp_callSi (va_Run.run (va_runS (As := [.int (iI ((M (a) (j) - M (b) (j)))), .int (iI (q))]) (rest := [.ref (ox ω), .int (iI (sFar q (M a) (M b) (j)))]) ⟨hx, hb, hml, hown, hts⟩ (c_floorModI l ((M (a) (j) - M (b) (j))) (q) (by omega) (by omega) (by omega) (by omega)) (va_cwS 2 hts (gU (hd := [.methodLink "NoiseRing" 39 yJ_floorModI, .static yJ_floorModI, .initialized "java/lang/Math"]) (List.forall_mem_cons.mpr ⟨u175, List.forall_mem_cons.mpr ⟨u176, List.forall_mem_cons.mpr ⟨u36, fun _ h => by cases h⟩⟩⟩) u177) rfl rfl rfl (by decide +kernel) ⟨Nat.le_of_ble_eq_true rfl, Nat.le_of_ble_eq_true rfl⟩) gn_S rfl rfl hl.1 rfl (lv_room (Nat.le_of_ble_eq_true rfl)) dX0_far_45 ⟨Nat.le_of_ble_eq_true rfl, Nat.le_of_ble_eq_true rfl⟩)) (fun r45 hr45 => ?_)
    subst hr45
    refine vp_callSi (va_Run.run (va_runV (As := [.int (iI (((M (a) (j) - M (b) (j)) % q)))]) (rest := [.int (iI (sFar q (M a) (M b) (j)))]) ⟨hx, hb, hml, hown, hts⟩ (c_centredSize l ω k q z M wk (((M (a) (j) - M (b) (j)) % q)) hq1 hq2 (by omega) (by omega)) (cwV 1 hts (gU (hd := [.methodLink "NoiseRing" 85 yX0_centredSize, .instanceMethod yX0_centredSize, .selects "NoiseRing" yX0_centredSize yX0_centredSize, .initialized "NoiseRing"]) (List.forall_mem_cons.mpr ⟨u207, List.forall_mem_cons.mpr ⟨u208, List.forall_mem_cons.mpr ⟨u7, List.forall_mem_cons.mpr ⟨u29, fun _ h => by cases h⟩⟩⟩⟩) u209) rfl rfl rfl (by decide +kernel) ⟨Nat.le_of_ble_eq_true rfl, Nat.le_of_ble_eq_true rfl⟩) (gx_V hG) rfl rfl hl.1 rfl (lv_room (Nat.le_of_ble_eq_true rfl)) dX0_far_48 ⟨Nat.le_of_ble_eq_true rfl, Nat.le_of_ble_eq_true rfl⟩)) (fun r48 hr48 => ?_)
    subst hr48
    refine ix_iadd hx hb dX0_far_51 ?_
    refine lv_istore_n (lv' := [(3, .int (iI ((sFar q (M a) (M b) (j) + (sCs q (((M (a) (j) - M (b) (j)) % q))))))), (4, .int (iI ((j : Nat)))), (0, .ref (ox ω)), (1, .int (iI (a))), (2, .int (iI (b)))]) hx hb dX0_far_52 rfl hl (by decide) rfl (fun ls hl => ?_)
    refine lv_iinc (k := 1) (v := iI ((j : Nat) + 1)) (lv' := [(4, .int (iI ((j : Nat) + 1))), (3, .int (iI ((sFar q (M a) (M b) (j) + (sCs q (((M (a) (j) - M (b) (j)) % q))))))), (0, .ref (ox ω)), (1, .int (iI (a))), (2, .int (iI (b)))]) hx hb dX0_far_53 hl rfl (iI_add _ _) (by decide) rfl (fun ls hl => ?_)
    refine lv_goto (tgt := 13) hx hb dX0_far_56 (by decide) ?_
    exact ih13 ls (lv_sub hl [0, 1, 2, 3, 4] rfl)
end
