/-! ===== arrays of arrays ===== -/
section MULTI0
variable {E : CtlPost} {e : Env} {d : Bool} {acts : List Action} {s : State}
def zRwC (comp : ClassId) (n : Nat) (v : Value) : Cell := { cls := comp, slots := Array.replicate n v, vm := .none }
theorem zna {c comp : ClassId} {k : Class} {ty : FieldType} {n : Nat} {v : Value} (hk : s.vm.classes[c]? = some k) (hkind : k.kind = .array comp ty) (hn : n ≤ e.platform.arrayLengthLimit) (hb : n * componentBytes ty ≤ e.platform.maxHeapBytes) (hf : fits ty v = true) (hd : v.isDefault = true) {Q : Addr → Pre} (h1 : s.heap.size < e.platform.maxCells) (h2 : s.slotsUsed + n ≤ e.platform.maxSlots) (hq : Q s.heap.size d acts (s.pushCell (zRwC c n v))) : wp (Jvm.newArray c n v) Q E e d acts s := by
  have ha : allocActs (Array.replicate n v) s.heap.size acts = acts := by
    unfold allocActs
    rw [if_pos (by rw [Array.all_replicate]; split <;> simp [hd])]
  have hg : ∀ i x, (Array.replicate n v)[i]? = some x → s.fitsSlot c .none i x = true := by
    intro i x hx
    have : x = v := by
      rw [Array.getElem?_replicate] at hx
      split at hx
      · exact (Option.some.inj hx).symm
      · cases hx
    subst this
    simp [State.fitsSlot, State.slotType?, hk, hkind, hf]
  simp only [Jvm.newArray, Jvm.arrayFits, wp_bind', W.ask, W.ite, if_neg (Nat.not_lt.mpr hn), wp_pure', W.theClass, hk, hkind, Option.some.injEq, exists_eq_left', if_neg (Nat.not_lt.mpr hb), W.alloc, W.stop, Array.size_replicate, ha, gt_iff_lt]
  rw [if_neg (by omega)]
  exact ⟨h1, h2, hg, hq⟩
end MULTI0
section MULTI1
variable {E : CtlPost} {e : Env} {d : Bool} {acts : List Action} {s : State}
def zOc (cA : ClassId) (h0 : Nat) : Nat → Cell
  | 0 => zRwC cA 3 .null
  | i + 1 => (zOc cA h0 i).setSlot i (.ref (h0 + 1 + i))
theorem zOc_f (cA : ClassId) (h0 : Nat) : ∀ i, (zOc cA h0 i).cls = cA ∧ (zOc cA h0 i).vm = .none ∧ (zOc cA h0 i).slots.size = 3
  | 0 => ⟨rfl, rfl, by simp [zOc, zRwC]⟩
  | i + 1 => by
    obtain ⟨q1, q2, q3⟩ := zOc_f cA h0 i
    refine ⟨?_, ?_, ?_⟩ <;> simp [zOc, Cell.setSlot, q1, q2, q3]
/-- a row more: the i-th row of bytes is pushed and its place stored -/
def zSt (h0 : Nat) (cA comp : ClassId) (i : Nat) (S : State) : State := (S.pushCell (zRwC comp 30 (.int 0))).setCell h0 (zOc cA h0 (i + 1))
def zMu3 (s : State) (cA comp : ClassId) : State := zSt s.heap.size cA comp 2 (zSt s.heap.size cA comp 1 (zSt s.heap.size cA comp 0 (s.pushCell (zOc cA s.heap.size 0))))
/-- what holds of the state behind i rows -/
def zSi (s : State) (cA : ClassId) (i : Nat) (S : State) : Prop := S.heap.size = s.heap.size + 1 + i ∧ S.heap[s.heap.size]? = some (zOc cA s.heap.size i) ∧ S.vm = s.vm ∧ S.slotsUsed = s.slotsUsed + 3 + i * 30
theorem zSi.go {S : State} {cA comp : ClassId} {i : Nat} (h : zSi s cA i S) : zSi s cA (i + 1) (zSt s.heap.size cA comp i S) := by
  obtain ⟨q1, q2, q3, q4⟩ := h
  have hlt : s.heap.size < S.heap.size := by omega
  have hc : (S.pushCell (zRwC comp 30 (.int 0))).heap[s.heap.size]? = some (zOc cA s.heap.size i) := by rw [State.heap_pushCell_of_lt (h := hlt)]; exact q2
  refine ⟨?_, State.heap_setCell_self hc, ?_, ?_⟩
  · simp [zSt, State.setCell, q1]
    omega
  · simp [zSt, q3]
  · simp [zSt, q4, zRwC]
    omega
theorem zSi.at0 {cA : ClassId} : zSi s cA 0 (s.pushCell (zOc cA s.heap.size 0)) := ⟨by simp, by simp, rfl, by simp [zOc, zRwC]⟩
theorem zmk1 {comp cc : ClassId} {kc : Class} (hkc : s.vm.classes[comp]? = some kc) (hkind : kc.kind = .array cc .byte) (hn : 30 ≤ e.platform.arrayLengthLimit) (hb : 30 * componentBytes .byte ≤ e.platform.maxHeapBytes) {Q : Addr → Pre} (h1 : s.heap.size < e.platform.maxCells) (h2 : s.slotsUsed + 30 ≤ e.platform.maxSlots) (hq : Q s.heap.size d acts (s.pushCell (zRwC comp 30 (.int 0)))) : wp (multianewarray.make comp [30]) Q E e d acts s := by
  rw [multianewarray.make]
  simp only [wp_bind', W.ite, show ¬ (30 : Int32) < 0 from by decide, if_false, wp_pure', W.theClass, hkc, hkind, Option.some.injEq, exists_eq_left']
  exact zna hkc hkind hn hb rfl rfl h1 h2 hq
end MULTI1
section MULTI2
variable {E : CtlPost} {e : Env} {d : Bool} {acts : List Action} {s : State}
theorem zmk2 {cA comp cc : ClassId} {kA kc : Class} (hk : s.vm.classes[cA]? = some kA) (hkA : kA.kind = .array comp (.array .byte)) (hkc : s.vm.classes[comp]? = some kc) (hkind : kc.kind = .array cc .byte) (hn : 30 ≤ e.platform.arrayLengthLimit) (hb : 1000 ≤ e.platform.maxHeapBytes) {Q : Addr → Pre} (h1 : s.heap.size + 4 ≤ e.platform.maxCells) (h2 : s.slotsUsed + 93 ≤ e.platform.maxSlots) (hq : ∀ d' acts', Q s.heap.size d' acts' (zMu3 s cA comp)) : wp (multianewarray.make cA [3, 30]) Q E e d acts s := by
  have step : ∀ (i : Nat) (S : State) (d' : Bool) (acts' : List Action) (Q' : ForInStep PUnit → Pre), i < 3 → zSi s cA i S → (∀ d2 acts2, Q' (.yield PUnit.unit) d2 acts2 (zSt s.heap.size cA comp i S)) → wp (multianewarray.make comp [30]) (fun r => wp (do writeLoc s.heap.size i (.ref r); Pure.pure (ForInStep.yield PUnit.unit)) Q' E e) E e d' acts' S := by
    intro i S d' acts' Q' hi hS hQ
    obtain ⟨q1, q2, q3, q4⟩ := hS
    obtain ⟨o1, o2, o3⟩ := zOc_f cA s.heap.size i
    have hlt : s.heap.size < S.heap.size := by omega
    refine zmk1 (by rw [q3]; exact hkc) hkind hn (by show 30 * 1 ≤ _; omega) (by omega) (by omega) ?_
    simp only [wp_bind', W.writeLoc, wp_pure']
    refine ⟨zOc cA s.heap.size i, by rw [State.heap_pushCell_of_lt (h := hlt)]; exact q2, by rw [o2]; simp, by rw [o3]; exact hi, ?_, ?_⟩
    · rw [o1, o2]
      simp [State.fitsSlot, State.slotType?, q3, hk, hkA]
      rfl
    · have e1 : S.heap.size = s.heap.size + 1 + i := q1
      rw [e1]
      exact hQ _ _
  rw [multianewarray.make]
  simp only [wp_bind', W.ite, show ¬ (3 : Int32) < 0 from by decide, if_false, wp_pure', W.theClass, hk, hkA, Option.some.injEq, exists_eq_left']
  refine zna hk hkA (by show 3 ≤ _; omega) (by show 3 * 4 ≤ _; omega) rfl rfl (by omega) (by show _ + 3 ≤ _; omega) ?_
  rw [Std.Legacy.Range.forIn_eq_forIn_range', if_neg (by decide), show List.range' [:Int32.toNatClampNeg 3].start [:Int32.toNatClampNeg 3].size [:Int32.toNatClampNeg 3].step = [0, 1, 2] from by decide]
  simp only [List.forIn_cons, List.forIn_nil, wp_bind', wp_pure']
  refine step 0 _ _ _ _ (by decide) zSi.at0 (fun d1 a1 => ?_)
  simp only [wp_bind']
  refine step 1 _ _ _ _ (by decide) (zSi.at0.go) (fun d2 a2 => ?_)
  simp only [wp_bind']
  refine step 2 _ _ _ _ (by decide) (zSi.at0.go.go) (fun d3 a3 => ?_)
  simp only [wp_pure']
  exact hq d3 a3
end MULTI2
section MULTI3
variable {p : Program} {l : Launch} {e : Env} {Rm : Room} {s : State} {m : MethodId} {args : Array Value} {below : List Frame} {meth : Method} {c : Code} {H : Heap} {locs : List Loc} {cells slots : Nat} {Q : State → Prop}
theorem zMu3_top (S : State) (g : JFrame) (cA comp : ClassId) : zMu3 (S.setTop g) cA comp = (zMu3 S cA comp).setTop g := rfl
/-- what the heap is behind it -/
theorem zMu3_heap (S : State) (cA comp : ClassId) : (zMu3 S cA comp).heap.size = S.heap.size + 4 ∧ (∀ q, q < S.heap.size → (zMu3 S cA comp).heap[q]? = S.heap[q]?) ∧ (zMu3 S cA comp).heap[S.heap.size]? = some (zOc cA S.heap.size 3) ∧ ∀ j, j < 3 → (zMu3 S cA comp).heap[S.heap.size + 1 + j]? = some (zRwC comp 30 (.int 0)) := by
  have a0 : zSi S cA 0 (S.pushCell (zOc cA S.heap.size 0)) := zSi.at0
  have a1 := a0.go (comp := comp)
  have a2 := a1.go (comp := comp)
  have a3 := a2.go (comp := comp)
  have ne : ∀ (i : Nat) (S2 : State), zSi S cA i S2 → ∀ q, q < S2.heap.size → q ≠ S.heap.size → (zSt S.heap.size cA comp i S2).heap[q]? = S2.heap[q]? := fun i S2 h q h1 h2 => by
    unfold zSt
    rw [heapAt_setCell_ne _ (Ne.symm h2), State.heap_pushCell_of_lt (h := h1)]
  have nw : ∀ (i : Nat) (S2 : State), zSi S cA i S2 → (zSt S.heap.size cA comp i S2).heap[S.heap.size + 1 + i]? = some (zRwC comp 30 (.int 0)) := fun i S2 h => by
    unfold zSt
    rw [heapAt_setCell_ne _ (show S.heap.size ≠ S.heap.size + 1 + i by omega), ← h.1]
    simp
  refine ⟨a3.1, fun q hq => ?_, a3.2.1, fun j hj => ?_⟩
  · show (zSt S.heap.size cA comp 2 _).heap[q]? = _
    rw [ne 2 _ a2 q (by rw [a2.1]; omega) (by omega), ne 1 _ a1 q (by rw [a1.1]; omega) (by omega), ne 0 _ a0 q (by rw [a0.1]; omega) (by omega), State.heap_pushCell_of_lt (h := hq)]
  · show (zSt S.heap.size cA comp 2 _).heap[_]? = _
    match j, hj with
    | 0, _ => rw [ne 2 _ a2 _ (by rw [a2.1]; omega) (by omega), ne 1 _ a1 _ (by rw [a1.1]; omega) (by omega)]; exact nw 0 _ a0
    | 1, _ => rw [ne 2 _ a2 _ (by rw [a2.1]; omega) (by omega)]; exact nw 1 _ a1
    | 2, _ => exact nw 2 _ a2
theorem zSt_st {S T : State} {cA comp : ClassId} {i : Nat} (h : zSi S cA i T) (X : Stand p l e Rm s m args below meth c T locs cells slots) : Stand p l e Rm s m args below meth c (zSt S.heap.size cA comp i T) (locs ++ [⟨S.heap.size, i⟩]) (cells + 1) (slots + 30) := by
  have hlt : S.heap.size < T.heap.size := by rw [h.1]; omega
  have hc : (T.pushCell (zRwC comp 30 (.int 0))).heap[S.heap.size]? = some (zOc cA S.heap.size i) := by rw [State.heap_pushCell_of_lt (h := hlt)]; exact h.2.1
  have X2 := (X.pushed (zRwC comp 30 (.int 0))).stored hc i (.ref (S.heap.size + 1 + i))
  have e1 : (zRwC comp 30 (.int 0)).slots.size = 30 := by simp [zRwC]
  rw [e1] at X2
  exact X2
theorem zMu3_st {S : State} {cA comp : ClassId} (X : Stand p l e Rm s m args below meth c S locs cells slots) : Stand p l e Rm s m args below meth c (zMu3 S cA comp) (locs ++ [⟨S.heap.size, 0⟩] ++ [⟨S.heap.size, 1⟩] ++ [⟨S.heap.size, 2⟩]) (cells + 4) (slots + 93) := by
  have a0 : zSi S cA 0 (S.pushCell (zOc cA S.heap.size 0)) := zSi.at0
  have a1 := a0.go (comp := comp)
  have a2 := a1.go (comp := comp)
  have X0 := X.pushed (zOc cA S.heap.size 0)
  have e1 : (zOc cA S.heap.size 0).slots.size = 3 := (zOc_f cA S.heap.size 0).2.2
  rw [e1] at X0
  have X3 := zSt_st (comp := comp) a2 (zSt_st (comp := comp) a1 (zSt_st (comp := comp) a0 X0))
  exact X3
theorem zWmu {cc : ByteArray} (hexec : p.tables.exec = Jvm.exec) (hb : c.code = cc) {own : String} {index : Nat} (hown : s.vm.findClass own = some m.cls) (hclink : (Cond.classLink own index "[[B").before args s = true) {cA comp cc0 : ClassId} {kA kc : Class} (hA : s.vm.findClass "[[B" = some cA) (hkA : s.vm.classes[cA]? = some kA) (hkindA : kA.kind = .array comp (.array .byte)) (hkc : s.vm.classes[comp]? = some kc) (hkind : kc.kind = .array cc0 .byte) {pc : Nat} {ls : Array Slot} {st : List Value} (hdg : decode cc pc = .ok (.multianewarray index 2, 4)) (hcells : cells + 4 ≤ Rm.cells) (hslots : slots + 93 ≤ Rm.slots)
    (kk : ∀ H' : Heap, H'.size = H.size + 4 → (∀ q, q < H.size → H'[q]? = H[q]?) → H'[H.size]? = some (zOc cA H.size 3) → (∀ j, j < 3 → H'[H.size + 1 + j]? = some (zRwC comp 30 (.int 0))) → W p l e Rm s m args below meth c H' (locs ++ [⟨H.size, 0⟩] ++ [⟨H.size, 1⟩] ++ [⟨H.size, 2⟩]) (cells + 4) (slots + 93) Q (F0 m (pc + 4) ls (.ref H.size :: st))) : W p l e Rm s m args below meth c H locs cells slots Q (F0 m pc ls (.int 30 :: .int 3 :: st)) := by
  intro T hT X
  subst hT; subst hb
  have hpl : e.platform.magicAccessors = ({} : Platform).magicAccessors := by rw [X.admits.platform]
  obtain ⟨c2, hf2, hcl⟩ := Cond.classLink_spec hown hclink e.platform hpl
  cases hA.symm.trans hf2
  obtain ⟨hg₁, hwarm₁, hready₁⟩ := State.classEntry (e := e) X.warmed hcl
  generalize T.vm.noted m.cls index (.cls cA) = vm₁ at hg₁ hwarm₁ hready₁
  have hal := hwarm₁.alike
  obtain ⟨kA₁, hkA₁, heA⟩ := hal.2.2 _ _ hkA
  have hkindA₁ : kA₁.kind = .array comp (.array .byte) := by rw [heA]; exact hkindA
  obtain ⟨kc₁, hkc₁, hec⟩ := hal.2.2 _ _ hkc
  have hkind₁ : kc₁.kind = .array cc0 .byte := by rw [hec]; exact hkind
  have X₁ := X.noted hwarm₁
  have X₂ := zMu3_st (cA := cA) (comp := comp) X₁
  obtain ⟨hr1, hr2⟩ := X.roomAbove hcells hslots
  have hh := zMu3_heap (T.setVm vm₁) cA comp
  obtain ⟨t, a, b⟩ := kk _ hh.1 hh.2.1 hh.2.2.1 hh.2.2.2 (zMu3 (T.setVm vm₁) cA comp) rfl X₂
  refine ⟨t, ?_, b⟩
  jvm_step X.here [hexec, hdg]
  have htop : (T.setVm vm₁).topJava?.isSome := X₁.here.top
  have e1 : (T.setTop (F0 m pc ls (Value.int 30 :: Value.int 3 :: st))).setVm vm₁ = (T.setVm vm₁).setTop (F0 m pc ls (Value.int 30 :: Value.int 3 :: st)) := rfl
  rw [multianewarray.sem]
  simp only [wp_bind']
  rw [W.resolveClassAt_links (t := T.setTop (F0 m pc ls (Value.int 30 :: Value.int 3 :: st))) (State.method?_setTop _ X.here.top) hg₁, e1]
  simp only [wp_bind']
  refine (popN_top (s := T.setVm vm₁) (f := F0 m pc ls (Value.int 30 :: Value.int 3 :: st)) (args := [.int 3, .int 30]) (rest := st) htop rfl).mpr ?_
  simp only [List.mapM, List.mapM.loop, wp_bind', wp_pure', List.reverse_cons, List.reverse_nil, List.nil_append, List.cons_append]
  refine zmk2 (s := (T.setVm vm₁).setTop (F0 m pc ls st)) hkA₁ hkindA₁ hkc₁ hkind₁ (by rw [Launch.admits_arrayLengthLimit X.admits]; decide) (by rw [Launch.admits_maxHeapBytes X.admits]; decide) hr1 hr2 (fun d' acts' => ?_)
  rw [zMu3_top]
  simp only [wp_bind', W.mark, W.pushRef]
  refine ⟨F0 m pc ls st, State.topJava?_setTop' _ X₂.here.top, fun acts => ?_⟩
  rw [State.setTop_setTop]
  simp only [jvm, X₂.here.top]
  exact a
end MULTI3
theorem r_null {w : zWp} {p : Program} {e : Env} {d mc ms : Nat} {s : State} {m : MethodId} {args : Array Value} {below : List Frame} {meth : Method} {c : Code} {y : MethodName} {b : ByteArray} {nL : Nat} {ret : Option FieldType} {T0 : zTl} {Post : Option Value → zSg → Prop} {pc : Nat} {lv st : List Value} {σ : zSg} (C : zCx w p s m args meth c y b nL ret) (hd : decode b pc = .ok (.aconst_null, 1)) (kk : zK w p e d mc ms s m args below meth c nL T0 Post (pc + 1) lv (.null :: st) σ) : zK w p e d mc ms s m args below meth c nL T0 Post pc lv st σ := fun ls H locs k n h1 h2 hl hW hS => by
  intro T hT X
  obtain ⟨t, a, q⟩ := kk ls H locs k n h1 h2 hl hW hS T hT X
  refine ⟨t, ?_, q⟩
  have hexec := C.1
  have hb := C.2.1
  jvm_step X.here [X.here.top, hexec, hb, hd, Op.aconst_null.wp_sem]
  exact a
set_option maxRecDepth 100000 in
theorem cl_X7_17 : (Cond.classLink RX7 17 "[[B") ∈ lw_g := zt1 41 rfl rfl
theorem zE_R {cA : Nat → ClassId} {n0 i : Nat} {T T2 : zTl} {M : zMm} {J : zJm} {R R2 : zRm'} {t : Nat × Nat} (h : R2 i = R i) : zE cA n0 (T2, M, J, R2) i t = zE cA n0 (T, M, J, R) i t := by
  simp only [zE, zfv, h]
theorem zW.addn {w : zWp} {T X : zTl} {M : zMm} {J : zJm} {R R2 : zRm'} {H H1 : Heap} (hW : zW w (T, M, J, R) H) (hs : H1.size = H.size + X.length) (hq : ∀ q, q < H.size → H1[q]? = H[q]?) (hR : ∀ i, i < T.length → R2 i = R i) (ht : ∀ j t, X[j]? = some t → zat w (T ++ X, M, J, R2) (T.length + j) t H1) : zW w (T ++ X, M, J, R2) H1 := by
  have hz : H.size = w.2.1 + T.length := hW.1
  refine ⟨by rw [hs, hz]; show _ = w.2.1 + (T ++ X).length; rw [List.length_append]; omega, fun i t2 ht2 => ?_⟩
  have h2 : (T ++ X)[i]? = some t2 := ht2
  by_cases hi : i < T.length
  · rw [List.getElem?_append_left hi] at h2
    rcases hW.2 i t2 h2 with h | h
    · exact Or.inl h
    · refine Or.inr ?_
      have h3 := h.kept (hq _ h.lt)
      rw [zE_R (T := T) (hR i hi)]
      exact h3
  · rw [List.getElem?_append_right (by omega)] at h2
    have := ht _ _ h2
    rw [show T.length + (i - T.length) = i by omega] at this
    exact this
theorem zOc3 (cA : ClassId) (n0 q : Nat) (R2 : zRm') (h : ∀ j : Int, 0 ≤ j → j < 3 → R2 q j = some (q + 1 + j.toNat)) : zOc cA (n0 + q) 3 = arrV cA 3 (fun j => va_rf (zof n0 (R2 q (j : Int)))) := by
  show (((zRwC cA 3 .null).setSlot 0 (.ref (n0 + q + 1 + 0))).setSlot 1 (.ref (n0 + q + 1 + 1))).setSlot 2 (.ref (n0 + q + 1 + 2)) = _
  unfold zRwC
  rw [arrV_new, arrV_store, arrV_store, arrV_store]
  unfold arrV
  refine congrArg (fun x => ({ cls := cA, slots := x, vm := .none } : Cell)) (congrArg (Array.ofFn (n := 3)) (funext fun j => ?_))
  have hv : ∀ k : Nat, k < 3 → va_rf (zof n0 (R2 q (k : Int))) = .ref (n0 + q + 1 + k) := fun k hk => by
    rw [h k (by omega) (by omega)]
    show Value.ref (n0 + (q + 1 + k)) = _
    rw [← Nat.add_assoc, ← Nat.add_assoc]
  show _ = va_rf (zof n0 (R2 q ((j.val : Nat) : Int)))
  rw [hv j.val j.isLt]
  match j with
  | ⟨0, _⟩ => rfl
  | ⟨1, _⟩ => rfl
  | ⟨2, _⟩ => rfl
theorem zat_B {w : zWp} {T : zTl} {M : zMm} {J : zJm} {R : zRm'} {i N : Nat} {H : Heap} (h : H[w.2.1 + i]? = some (zRwC (w.2.2.2.1 1) N (.int 0))) (hz : ∀ k, M i k = 0) : zat w (T, M, J, R) i (51, N) H := Or.inr (by
  show H[w.2.1 + i]? = some _
  rw [h]
  unfold zRwC
  rw [arrV_new]
  refine congrArg some (congrArg (arrV (w.2.2.2.1 1) N) (funext (fun j2 => by show Value.int 0 = Value.int (Int32.ofInt (M i j2)); rw [hz j2]; rfl))))
theorem zat_Q {w : zWp} {T : zTl} {M : zMm} {J : zJm} {R : zRm'} {i N : Nat} {H : Heap} (h : H[w.2.1 + i]? = some (arrV (w.2.2.2.1 7) N (fun j => va_rf (zof w.2.1 (R i (j : Int)))))) : zat w (T, M, J, R) i (57, N) H := Or.inr (by
  rw [zE_rf (by show 53 < 57; omega)]
  exact h)
section MULTI4
variable {w : zWp} {p : Program} {e : Env} {d mc ms : Nat} {s : State} {m : MethodId} {args : Array Value} {below : List Frame} {meth : Method} {c : Code} {y : MethodName} {b : ByteArray} {nL : Nat} {ret : Option FieldType} {T0 T : zTl} {M : zMm} {J : zJm} {R : zRm'} {Post : Option Value → zSg → Prop} {pc n : Nat} {lv st : List Value}
theorem r_multi (C : zCx w p s m args meth c y b nL ret) {ix : Nat} (hd : decode b pc = .ok (.multianewarray ix 2, 4)) (hcl : (Cond.classLink y.cls ix "[[B") ∈ lw_g) (hz : zFr T.length M J R) (hrc : T.length + 4 ≤ T0.length + mc ∧ zsz T + 93 ≤ zsz T0 + ms) {R2 : zRm'} (hR : ∀ c, c ≠ T.length → R2 c = R c) (hR2 : ∀ j : Int, 0 ≤ j → j < 3 → R2 T.length j = some (T.length + 1 + j.toNat)) (kk : zK w p e d mc ms s m args below meth c nL T0 Post (pc + 4) lv (.ref (w.2.1 + T.length) :: st) (T ++ [(57, 3), (51, 30), (51, 30), (51, 30)], M, J, R2)) : zK w p e d mc ms s m args below meth c nL T0 Post pc lv (.int 30 :: .int 3 :: st) (T, M, J, R) := fun ls H locs k n h1 h2 hl hW hS => by
  have hsz : H.size = w.2.1 + T.length := hW.1
  have g1 : T0.length + k = T.length := h1
  have g2 : zsz T0 + n = zsz T := h2
  have hts := C.2.2.2.2.1
  obtain ⟨cB, cA, kA, q1, _, q2, q3, q4⟩ := arrayOverA_spec (args := #[]) (C.2.2.2.2.2.2.2.2.2.1.2.2.2.2.2.2 (.array .byte) (by decide))
  have hA : w.2.2.2.1 7 = cA := Option.some.inj ((C.2.2.2.2.2.2.2.2.1.2 7 _ rfl).2.symm.trans q4)
  have hB : w.2.2.2.1 1 = cB := Option.some.inj ((C.2.2.2.2.2.2.2.2.1.2 1 _ rfl).2.symm.trans q1)
  subst hA hB
  obtain ⟨_, kB, f1, cc0, f2⟩ := (C.2.2.2.2.2.2.2.2.1.2 1 _ rfl).1 0 (fun _ => .null)
  refine zWmu C.1 C.2.1 C.2.2.2.1 (hts _ hcl) q4 q2 q3 f1 f2 hd (by show k + 4 ≤ mc; omega) (by show n + 93 ≤ ms; omega) (fun H' e1 e2 e3 e4 => ?_)
  have hW2 : zW w (T ++ [(57, 3), (51, 30), (51, 30), (51, 30)], M, J, R2) H' := hW.addn e1 e2 (fun i hi => hR i (by omega)) (fun j t hj => by
    have row : ∀ j, j < 3 → zat w (T ++ [(57, 3), (51, 30), (51, 30), (51, 30)], M, J, R2) (T.length + (1 + j)) (51, 30) H' := fun j hj => by
      refine zat_B ?_ (fun k => (hz _ (by omega) k).1)
      have := e4 j hj
      rw [hsz, show w.2.1 + T.length + 1 + j = w.2.1 + (T.length + (1 + j)) by omega] at this
      exact this
    match j with
    | 0 =>
      cases hj
      refine zat_Q ?_
      rw [hsz, zOc3 _ w.2.1 T.length R2 hR2] at e3
      exact e3
    | 1 => cases hj; exact row 0 (by omega)
    | 2 => cases hj; exact row 1 (by omega)
    | 3 => cases hj; exact row 2 (by omega)
    | j + 4 => simp at hj)
  have hS2 : va_S (zA w) s.heap H' (locs ++ [⟨H.size, 0⟩] ++ [⟨H.size, 1⟩] ++ [⟨H.size, 2⟩]) := by
    refine ⟨Nat.le_trans hS.1 (by omega), fun x h1 h2 => (e2 x (Nat.lt_of_lt_of_le h1 hS.1)).trans (hS.2.1 x h1 h2), fun l hl2 => ?_⟩
    have hb : zA w H.size := by show w.2.1 ≤ H.size; omega
    simp only [List.mem_append, List.mem_singleton] at hl2
    rcases hl2 with ((hl2 | hl2) | hl2) | hl2
    · exact hS.2.2 l hl2
    · rw [hl2]; exact hb
    · rw [hl2]; exact hb
    · rw [hl2]; exact hb
  rw [hsz]
  exact kk ls H' _ (k + 4) (n + 93) (by show T0.length + (k + 4) = (T ++ _).length; rw [List.length_append]; show _ = T.length + 4; omega) (by show zsz T0 + (n + 93) = zsz (T ++ _); rw [zsz_app2]; show _ = zsz T + 93; omega) hl hW2 (by rw [← hsz]; exact hS2)
theorem q_multi (C : zCx w p s m args meth c y b nL ret) {ix q : Nat} (hd : decode b pc = .ok (.multianewarray ix 2, 4)) (hcl : (Cond.classLink y.cls ix "[[B") ∈ lw_g) (hn : pc + 4 = n) (hp : T.length = q) (hz : zFr q M J R) (hrc : T.length + 4 ≤ T0.length + mc ∧ zsz T + 93 ≤ zsz T0 + ms) (kk : ∀ (T2 : zTl) (R2 : zRm'), T2 = T ++ [(57, 3), (51, 30), (51, 30), (51, 30)] → zFr (q + 4) M J R2 → (∀ c k, c < q → R2 c k = R c k) → (∀ j : Int, 0 ≤ j → j < 3 → R2 q j = some (q + 1 + j.toNat)) → zK w p e d mc ms s m args below meth c nL T0 Post n lv (.ref (w.2.1 + q) :: st) (T2, M, J, R2)) : zK w p e d mc ms s m args below meth c nL T0 Post pc lv (zi 30 :: zi 3 :: st) (T, M, J, R) := by
  subst hp hn
  have a1 : ∀ j : Int, 0 ≤ j → j < 3 → (fun c z => if c = T.length then some (T.length + 1 + Int.toNat z) else R c z : zRm') T.length j = some (T.length + 1 + j.toNat) := fun j _ _ => by simp
  have a2 : ∀ c, c ≠ T.length → (fun c z => if c = T.length then some (T.length + 1 + Int.toNat z) else R c z : zRm') c = R c := fun c hc => by simp [hc]
  refine r_multi C hd hcl hz hrc a2 a1 (kk _ _ rfl (fun c hc k => ?_) (fun c k hc => ?_) a1)
  · have h := hz c (by omega) k
    refine ⟨h.1, h.2.1, ?_⟩
    exact (congrFun (a2 c (by omega)) k).trans h.2.2
  · exact congrFun (a2 c (by omega)) k
theorem q_null (C : zCx w p s m args meth c y b nL ret) {σ : zSg} (hd : decode b pc = .ok (.aconst_null, 1)) (hn : pc + 1 = n) (kk : zK w p e d mc ms s m args below meth c nL T0 Post n lv (.null :: st) σ) : zK w p e d mc ms s m args below meth c nL T0 Post pc lv st σ := r_null C hd (by rw [hn]; exact kk)
end MULTI4
