section ZX
variable {p : Program} {l : Launch} {e : Env} {R : Room} {s : State} {m : MethodId} {args : Array Value} {below : List Frame} {meth : Method} {c : Code} {H : Heap} {locs : List Loc} {cells slots : Nat} {Q : State → Prop}
variable {mc ms : Nat} {free : Addr → Prop} {A0 A1 : Nat → Prop} {H0 : Heap} {a : Array Value} {ls : Array Slot} {st0 rest : List Value}
variable {Qc : Array Value → State → Outcome → State → Prop} {XC : String → State → State → Prop}
set_option maxHeartbeats 1000000 in
theorem zx_throw0 {cc : ByteArray} {pc : Nat} (hexec : p.tables.exec = Jvm.exec) (hb : c.code = cc) (hl : l.stackTraces = false) {own cls : String} {names : List String} {ik ic mc ms : Nat} {A : Nat → Prop}
    (hown : s.vm.findClass own = some m.cls) (hcls : Bundle.fit cls = true) (hnames : ∀ n ∈ names, Bundle.fit n = true)
    (hk : (Cond.classLink own ik cls).before args s = true) (hini : (Cond.initialized cls).before args s = true) (hat : ∀ w ∈ vx_at0 own ic cls names, w.before args s = true)
    (hgood : ∀ w ∈ Cond.classLink own ik cls :: Cond.initialized cls :: vx_at0 own ic cls names, vx_ot w = true)
    (hU : vx_Zq Bundle.tN "UNASSIGNED_STACK" Bundle.steD A s s.heap) (hN : vx_Zq Bundle.tN "SUPPRESSED_SENTINEL" Bundle.listD A s s.heap) (hS : va_S A s.heap H locs) (hsize : ls.size = c.maxLocals)
    (d0 : decode cc pc = .ok (.new ik, 3)) (d3 : decode cc (pc + 3) = .ok (.dup, 1)) (d4 : decode cc (pc + 4) = .ok (.invokespecial ic, 3)) (d7 : decode cc (pc + 7) = .ok (.athrow, 1))
    (hout : ∀ x ∈ c.exceptionTable.toList, covers x (pc + 7) = false)
    (hRframes : names.length + 3 < R.frames) (hRlocals : (rest.map fun v => v.category).sum + (13 * (names.length + 1) + 42) ≤ R.locals) (hRcells : cells + 1 ≤ R.cells) (hRslots : slots + 6 ≤ R.slots) (hlocks : meth.locks = false)
    (hx : ∀ t : State, s.vm.Alike t.vm → t.heap.size = H.size + 1 → (∀ q : Nat, q < H.size → t.heap[q]? = H[q]?) → XC cls s t)
    (hf : ∀ z ∈ locs, free z.base) (hc : cells + 1 ≤ mc) (hs : slots + 6 ≤ ms) :
    W p l e R s m args below meth c H locs cells slots (vx_MQ below Qc XC args s mc ms free) (F0 m pc ls rest) := by
  intro T hT X
  have htr : e.platform.stackTraces = false := (show e.platform.stackTraces = l.stackTraces by rw [X.admits.platform]).trans hl
  have Y := vx_rebase X (R' := { frames := R.frames, locals := R.locals, cells := 1, slots := 6 }) (Nat.le_refl _) (Nat.le_refl _) hRcells hRslots
  obtain ⟨s', hA⟩ : ∃ z, z = (T.setVm s.vm).setFrames (.invoking m args :: below) := ⟨_, rfl⟩
  rw [← hA] at Y
  have hvm : s'.vm = s.vm := by rw [hA]; rfl
  have hhp : s'.heap = H := by rw [hA]; exact hT
  have hW0 : s.WarmedH s'.vm := by rw [hvm]; exact State.WarmedH.refl s
  have hat' : ∀ w ∈ vx_at0 own ic cls names, w.before args s' = true := fun w hw => vx_ot_at hW0 hvm.symm (hgood w (List.mem_cons_of_mem _ (List.mem_cons_of_mem _ hw))) (hat w hw)
  have hk' : (Cond.classLink own ik cls).before args s' = true := vx_ot_at hW0 hvm.symm (hgood _ List.mem_cons_self) hk
  have hini' : (Cond.initialized cls).before args s' = true := vx_ot_at hW0 hvm.symm (hgood _ (List.mem_cons_of_mem _ List.mem_cons_self)) hini
  have hU' : vx_Zq Bundle.tN "UNASSIGNED_STACK" Bundle.steD A s' s'.heap := by rw [hhp]; exact vx_Zq.moved hW0.alike (hU.kept hS.2.1)
  have hN' : vx_Zq Bundle.tN "SUPPRESSED_SENTINEL" Bundle.listD A s' s'.heap := by rw [hhp]; exact vx_Zq.moved hW0.alike (hN.kept hS.2.1)
  have h : ∀ w ∈ Bundle.ownAtoms0 own ic cls names, w.before args s' = true := vx_own hat' (vx_isRefq hU'.1) (vx_isRefq hN'.1) hU'.2.word hN'.2.word
  have hown' : s'.vm.findClass own = some m.cls := by rw [hvm]; exact hown
  have hins : (Cond.instantiable cls 6).before args s' = true := h _ (by simp [Bundle.ownAtoms0])
  obtain ⟨vm₁, cX, kX, hfX, hkX, -, -, X₁, st1⟩ := Y.newCold hexec (own := own) (C := cls) (index := ik) (n := 6) hown' hk' hins hini'
    (g := F0 m pc ls rest) rfl (by rw [hb]; exact d0) (Nat.le_refl _) (Nat.le_refl _)
  generalize hT1 : (T.setVm vm₁).pushCell { cls := cX, slots := kX.instanceTypes.map defaultValue, vm := .none } = T1 at X₁ st1
  have hcat : (Value.ref T.heap.size).category = 1 := rfl
  have hcellA : T1.heap[T.heap.size]? = some (freshCell cX kX) := by rw [← hT1]; exact State.heap_pushCell_size _ _
  have d3' : decode c.code (pc + 3) = .ok (.dup, 1) := by rw [hb]; exact d3
  obtain ⟨U, hsteps, hrun, hend, hW, hsame, ce, hce, hO⟩ := X₁.ctorThrow0 hexec htr (own := own) (cls := cls) (names := names) (ic := ic) hown' hcls hnames h (fun x hx => nomatch hx) hfX hkX hcellA (by rw [hhp, hT]; exact Nat.le_refl _)
    (g := { method := m, pc := pc + 4, locals := ls, stack := .ref T.heap.size :: .ref T.heap.size :: rest, locked := none }) rfl hsize rfl rfl (rest := rest) rfl
    (by rw [hb]; exact d4) (by rw [hb]; exact d7) hout hRframes (by simp only [List.map_cons, List.sum_cons, hcat]; omega) hlocks
  obtain ⟨f1, f2⟩ := vx_frame hsame
  rw [hhp] at f1 f2
  have f3 : U.heap.size = H.size + 1 := by
    have g1 : U.heap.size ≤ s'.heap.size + (0 + 1) := hsame.2.2.1
    have g2 := (Array.getElem?_eq_some_iff.mp hce).1
    rw [hhp] at g1
    rw [hT] at g2
    omega
  have hWs : s.WarmedH U.vm := State.WarmedH.trans hW0 hW
  have hcl : s.vm.findClass cls = some ce.cls := by
    have h9 := hO.cls
    rw [hvm] at h9
    exact h9
  have hall : s.sameButNew ({ U with vm := s.vm } : State) locs mc ms := by
    subst hA
    obtain ⟨e1, e2⟩ := hsame
    rw [State.setFrames_setFrames] at e1
    have h2 : (T.setVm s.vm).sameButNew ({ U with vm := s.vm } : State) [] (0 + 1) (0 + 6) := ⟨e1, e2⟩
    have h3 := X.same.trans h2
    rw [List.append_nil] at h3
    exact h3.mono hc hs
  refine ⟨U, ?_, .threw T.heap.size, hrun, hend, Or.inr ⟨T.heap.size, rfl, cls, ce, locs, hx U hWs.alike f3 (fun q hq => f2 q hq (fun z hz => nomatch hz)), hce, hO.vm, hcl, hWs, hall, hf⟩⟩
  refine st1 _ ?_
  show Steps p.tables e below (T1.setTop { method := m, pc := pc + 3, locals := ls, stack := .ref T.heap.size :: rest, locked := none }) _
  jvm_step X₁.here [X₁.here.top, hexec, d3', Value.category]
  exact hsteps
end ZX
theorem zW.push {w : zWp} {σ : zSg} {H H1 : Heap} (hW : zW w σ H) (hs : H1.size = H.size + 1) (hq : ∀ q, q < H.size → H1[q]? = H[q]?) : zW w (σ.1 ++ [(99, 6)], σ.2) H1 := by
  refine ⟨by rw [hs, hW.1]; show _ = w.2.1 + (σ.1 ++ [(99, 6)]).length; rw [List.length_append]; rfl, fun i t ht => ?_⟩
  by_cases hi : i < σ.1.length
  · have ht2 : σ.1[i]? = some t := by
      have : (σ.1 ++ [(99, 6)])[i]? = some t := ht
      rw [List.getElem?_append_left hi] at this
      exact this
    rcases hW.2 i t ht2 with h | h
    · exact Or.inl h
    · exact Or.inr (h.kept (hq _ h.lt))
  · have : (σ.1 ++ [(99, 6)])[i]? = some t := ht
    rw [List.getElem?_append_right (by omega)] at this
    have hz : i - σ.1.length < 1 := (List.getElem?_eq_some_iff.mp this).1
    rw [show i - σ.1.length = 0 by omega] at this
    cases this
    exact Or.inl rfl
def zNse : String := "java/util/NoSuchElementException"
def zXc (w : zWp) (XP : zSg → Prop) : String → State → State → Prop := fun E st t => E = "java/util/NoSuchElementException" ∧ ∃ σ', XP σ' ∧ zW w σ' t.heap ∧ va_F (zA w) st t
/-- returns v with Post v, or throws and leaves XP -/
def zXt (w : zWp) (d : Nat) (y : MethodName) (b : ByteArray) (nL : Nat) (ret : Option FieldType) (av : List Value) (σ : zSg) (Post : Option Value → zSg → Prop) (XP : zSg → Prop) : Prop :=
  vx_Met w.1 y (zws y b nL ret) (zRm d 1 6) (zPc w av σ) (zQc w Post) (zXc w XP) 1 6 (zA w)
theorem zXt.of {w : zWp} {d : Nat} {y : MethodName} {b : ByteArray} {nL : Nat} {ret : Option FieldType} {av : List Value} {σ : zSg} {Post : Option Value → zSg → Prop} {XP : zSg → Prop} (hy : plainName y.cls = true) (hn : (lg_sl av).length ≤ nL)
    (body : ∀ p e s m args below meth c, zCx w p s m args meth c y b nL ret → (∀ x ∈ c.exceptionTable.toList, False) → zJ w p e d 1 6 s m args below meth c nL (vx_MQ below (zQc w Post) (zXc w XP) args s 1 6 (zA w)) 0 0 0 (zen av nL) [] σ) : zXt w d y b nL ret av σ Post XP := by
  refine vx_ofW (cc := b) (maxL := nL) (ret := ret) hy rfl ?_
  intro p e s m args below meth c s₁ B hml htab hv
  obtain ⟨rfl, hW, hK, hS⟩ := hv
  have hts := atoms_spec (ws := zws y b nL ret) B.pre
  have C : zCx w p s m av.toArray meth c y b nL ret := ⟨B.exec, B.bytes, hml, findClass_of_methodNamed B.named, fun v h => hts v (List.mem_cons_of_mem _ h), B.notSynchronized, B.returns, (name_of_methodNamed B.named B.method).1, hK, hS, by rw [hW.1]; exact Nat.le_add_right _ _⟩
  have h := body p e s m av.toArray below meth c C htab
  rw [lg_entry_eq]
  exact h _ _ [] (zen_has (lv_entry av hn)) hW va_S.rf
set_option maxRecDepth 100000 in
theorem zx_good : ∀ v ∈ (vx_at0 RX11 149 "java/util/NoSuchElementException" ["java/lang/RuntimeException", "java/lang/Exception"]).filter goodWord, v ∈ lw_tbl := by decide +kernel
set_option maxRecDepth 100000 in
theorem zx_rest : ∀ v ∈ (vx_at0 RX11 149 "java/util/NoSuchElementException" ["java/lang/RuntimeException", "java/lang/Exception"]).filter (fun v => !goodWord v), v ∈ [Cond.castable "java/util/NoSuchElementException" "java/util/NoSuchElementException", .declares ⟨"java/lang/RuntimeException", "<init>", "()V"⟩, .declares ⟨"java/lang/Exception", "<init>", "()V"⟩, .declares ⟨"java/lang/Throwable", "<init>", "()V"⟩] := by decide +kernel
set_option maxRecDepth 100000 in
theorem zx_ot : ∀ v ∈ Cond.classLink RX11 147 "java/util/NoSuchElementException" :: Cond.initialized "java/util/NoSuchElementException" :: vx_at0 RX11 149 "java/util/NoSuchElementException" ["java/lang/RuntimeException", "java/lang/Exception"], vx_ot v = true := by decide +kernel
set_option maxRecDepth 100000 in
theorem zx_cs : ("java/util/NoSuchElementException", "java/util/NoSuchElementException") ∈ zCs := by decide
section JX
variable {w : zWp} {p : Program} {e : Env} {d : Nat} {s : State} {m : MethodId} {args : Array Value} {below : List Frame} {meth : Method} {c : Code} {y : MethodName} {b : ByteArray} {nL : Nat} {ret : Option FieldType} {Post : Option Value → zSg → Prop} {XP : zSg → Prop} {pc : Nat} {lv st : List Value} {σ : zSg}
theorem j_throw (C : zCx w p s m args meth c y b nL ret) (htab : ∀ x ∈ c.exceptionTable.toList, False) (hy : y.cls = RX11) (hd : 6 ≤ d) (hst : (st.map fun v => v.category).sum ≤ 8) (d0 : decode b pc = .ok (.new 147, 3)) (d3 : decode b (pc + 3) = .ok (.dup, 1)) (d4 : decode b (pc + 4) = .ok (.invokespecial 149, 3)) (d7 : decode b (pc + 7) = .ok (.athrow, 1)) (hX : XP (σ.1 ++ [(99, 6)], σ.2)) :
    zJ w p e d 1 6 s m args below meth c nL (vx_MQ below (zQc w Post) (zXc w XP) args s 1 6 (zA w)) 0 0 pc lv st σ := fun ls H locs hl hW hS => by
  have hown := C.2.2.2.1
  rw [hy] at hown
  have hS2 := C.2.2.2.2.2.2.2.2.2.1
  refine zx_throw0 (names := ["java/lang/RuntimeException", "java/lang/Exception"]) (A := zA w) C.1 C.2.1 hS2.2.2.2.2.2.1 hown (by decide +kernel) (by decide +kernel) (C.2.2.2.2.1 _ (zt6 102 rfl rfl)) (C.2.2.2.2.1 _ (zt1 23 rfl rfl)) ?_ zx_ot hS2.1.2.2.2.2.2.2.1 hS2.1.2.2.2.2.2.2.2.1 hS (hl.1.trans C.2.2.1.symm) d0 d3 d4 d7 (fun x hx => (htab x hx).elim) ?_ ?_ (by show 0 + 1 ≤ 1; omega) (by show 0 + 6 ≤ 6; omega) C.2.2.2.2.2.1 ?_ (fun z hz => hS.2.2 z hz) (Nat.le_refl _) (Nat.le_refl _)
  · refine vx_hat (B := [Cond.castable "java/util/NoSuchElementException" "java/util/NoSuchElementException", .declares ⟨"java/lang/RuntimeException", "<init>", "()V"⟩, .declares ⟨"java/lang/Exception", "<init>", "()V"⟩, .declares ⟨"java/lang/Throwable", "<init>", "()V"⟩]) (fun v hv => C.2.2.2.2.1 v (List.mem_filter.mpr ⟨zx_good v hv, (List.mem_filter.mp hv).2⟩)) zx_rest ?_
    exact vx_c (va_Nw.use rfl (hS2.2.2.1 _ zx_cs)) (vx_c (va_Nw.use rfl (hS2.2.2.2.2.1 _ (by decide))) (vx_c (va_Nw.use rfl (hS2.2.2.2.2.1 _ (by decide))) (vx_c (va_Nw.use rfl (hS2.2.2.2.2.1 _ (by decide))) vx_n)))
  · show 2 + 3 < d
    omega
  · show (st.map fun v => v.category).sum + (13 * (2 + 1) + 42) ≤ 64 * d
    omega
  · intro t _ hs hq
    refine ⟨rfl, _, hX, hW.push hs hq, ?_⟩
    exact ⟨by rw [hs]; exact Nat.le_trans hS.1 (Nat.le_succ _), fun q q1 q2 => by rw [hq q (Nat.lt_of_lt_of_le q1 hS.1)]; exact hS.2.1 q q1 q2⟩
theorem j_iret (C : zCx w p s m args meth c y b nL (some .int)) {x : Int} (hd : decode b pc = .ok (.ireturn, 1)) (hp : Post (some (zi x)) σ) : zJ w p e d 1 6 s m args below meth c nL (vx_MQ below (zQc w Post) (zXc w XP) args s 1 6 (zA w)) 0 0 pc lv [zi x] σ := fun ls H locs hl hW hS => by
  have h1 : W p w.1 e (zRm d 1 6) s m args below meth c H locs 1 6 (MQ below (zQc w Post) args s 1 6 (zA w)) (F0 m pc ls [zi x]) := W.iret C.1 C.2.1 C.2.2.2.2.2.2.1 (fun t ht hw => ⟨some (zi x), σ, rfl, hp, by rw [ht]; exact hW, hS.F ht⟩) (fun q hq => hS.2.2 q hq) hd C.2.2.2.2.2.1
  exact vx_ret (fun T hT X => h1 T hT (stand_widen X (by omega) (by omega)))
theorem j_lret (C : zCx w p s m args meth c y b nL (some .long)) {x : Int64} (hd : decode b pc = .ok (.lreturn, 1)) (hp : Post (some (.long x)) σ) : zJ w p e d 1 6 s m args below meth c nL (vx_MQ below (zQc w Post) (zXc w XP) args s 1 6 (zA w)) 0 0 pc lv [.long x] σ := fun ls H locs hl hW hS => by
  have h1 : W p w.1 e (zRm d 1 6) s m args below meth c H locs 1 6 (MQ below (zQc w Post) args s 1 6 (zA w)) (F0 m pc ls [.long x]) := W.lret C.1 C.2.1 C.2.2.2.2.2.2.1 (fun t ht hw => ⟨some (.long x), σ, rfl, hp, by rw [ht]; exact hW, hS.F ht⟩) (fun q hq => hS.2.2 q hq) hd C.2.2.2.2.2.1
  exact vx_ret (fun T hT X => h1 T hT (stand_widen X (by omega) (by omega)))
end JX
