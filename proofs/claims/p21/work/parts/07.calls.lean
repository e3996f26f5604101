section CALLROWS
variable {w : zWp} {p : Program} {e : Env} {d mc ms : Nat} {s : State} {m : MethodId} {args : Array Value} {below : List Frame} {meth : Method} {c : Code} {y : MethodName} {b : ByteArray} {nL : Nat} {ret : Option FieldType} {T0 : List (Nat × Nat)} {Post : Option Value → zSg → Prop} {pc : Nat} {lv st : List Value} {σ : zSg}
/-- behind a call -/
theorem zafter {H : Heap} {locs : List Loc} {k n mc2 ms2 : Nat} {ls : Array Slot} {stk rest : List Value} {a : Array Value} {P2 : Option Value → zSg → Prop} (hr : va_Run p w.1 e (zRm d mc ms) s m args below meth c H locs k n mc2 ms2 (F0 m pc ls stk) rest (zQc w (fun v σ' => P2 v σ' ∧ σ'.1.length = σ.1.length + mc2 ∧ zsz σ'.1 = zsz σ.1 + ms2) a) (zA w))
    (h1 : T0.length + k = σ.1.length) (h2 : zsz T0 + n = zsz σ.1) (hl : lv_has ls nL (zal lv)) (hS : va_S (zA w) s.heap H locs)
    (kk : ∀ (v : Option Value) (σ' : zSg), P2 v σ' → σ'.1.length = σ.1.length + mc2 → zsz σ'.1 = zsz σ.1 + ms2 → zK w p e d mc ms s m args below meth c nL T0 Post (pc + 3) lv (v.toList ++ rest) σ') :
    W p w.1 e (zRm d mc ms) s m args below meth c H locs k n (MQ below (zQc w (fun v σ' => Post v σ' ∧ σ'.1.length = T0.length + mc ∧ zsz σ'.1 = zsz T0 + ms)) args s mc ms (zA w)) (F0 m pc ls stk) := by
  intro T hT X
  obtain ⟨v, st₀, t, T', L, g0, X', hL, e1, e2, ⟨v2, σ', hv, ⟨hp, l1, l2⟩, hW', hF⟩, stp⟩ := hr T hT X
  cases hv
  have hz := hF.1
  have hk := hF.2
  rw [g0] at hz hk
  have hS' : va_S (zA w) s.heap T'.heap (locs ++ L) := ⟨Nat.le_trans hS.1 (by rw [e1]; exact hz), fun q q1 q2 => by rw [e1, hk q (Nat.lt_of_lt_of_le q1 hS.1) q2]; exact hS.2.1 q q1 q2, fun q hq => by
      rcases List.mem_append.mp hq with h | h
      · exact hS.2.2 q h
      · exact hL q h⟩
  obtain ⟨t2, a1, b1⟩ := kk v σ' hp l1 l2 ls T'.heap (locs ++ L) (k + mc2) (n + ms2) (by omega) (by omega) hl (by rw [e1]; exact hW') hS' T' rfl X'
  exact ⟨t2, stp t2 a1, b1⟩
theorem r_callV (C : zCx w p s m args meth c y b nL ret) {ix d2 mc2 ms2 n2 nL2 a ci N : Nat} {y2 : MethodName} {b2 : ByteArray} {ret2 : Option FieldType} {As stk : List Value} {P2 : Option Value → zSg → Prop} (hw : zCw y.cls ix y2 b2 nL2 ret2 n2) (hv : (Cond.instanceMethod y2) ∈ lw_g ∧ (Cond.selects y2.cls y2 y2) ∈ lw_g)
    (ht : σ.1[a]? = some (ci, N)) (hci : ci < 50) (hcl : (zcl[ci]?).map (fun r => r.1) = some y2.cls) (hn : As.length = n2) (hM : zCt w d2 mc2 ms2 y2 b2 nL2 ret2 (.ref (w.2.1 + a) :: As) σ P2) (hd2 : d2 + 1 ≤ d) (hst : stk = As.reverse ++ .ref (w.2.1 + a) :: st) (hrm : (st.map fun v => v.category).sum ≤ 8) (hrc : σ.1.length + mc2 ≤ T0.length + mc ∧ zsz σ.1 + ms2 ≤ zsz T0 + ms) (hd : decode b pc = .ok (.invokevirtual ix, 3))
    (kk : ∀ (v : Option Value) (σ' : zSg), P2 v σ' → σ'.1.length = σ.1.length + mc2 → zsz σ'.1 = zsz σ.1 + ms2 → zK w p e d mc ms s m args below meth c nL T0 Post (pc + 3) lv (v.toList ++ st) σ') : zK w p e d mc ms s m args below meth c nL T0 Post pc lv stk σ := fun ls H locs k n h1 h2 hl hW hS => by
  obtain ⟨w1, w2, w3, w4, w5⟩ := hw
  have hts := C.2.2.2.2.1
  cases hr : zcl[ci]? with
  | none => rw [hr] at hcl; cases hcl
  | some r =>
    rw [hr] at hcl
    have hrc2 : r.1 = y2.cls := Option.some.inj hcl
    have hP := hW.get ht (by show ¬ ci = 99; omega)
    rw [zE_ob (by show ci < 50; exact hci)] at hP
    have hrecv := va_recv C.2.2.2.2.2.2.2.2.1 hP hr (q0 := 0) rfl
    rw [hrc2] at hrecv
    have hpre := zPc.at (av := .ref (w.2.1 + a) :: As) C hW hS
    have cw : CallW (zRm d mc ms) s args y.cls y2.cls ix y2 b2 nL2 ret2 (zws y2 b2 nL2 ret2) (zRm d2 mc2 ms2) mc2 ms2 n2 := ⟨callB_of n2 hts (zgoodIn w2) rfl rfl rfl (hts _ w3) (hts _ w1) w4 ⟨hd2, by show 8 + (nL2 + 11) + 64 * d2 ≤ 64 * d; omega⟩, hts _ hv.1, hts _ hv.2⟩
    have hrun := va_runV (g := F0 m pc ls stk) (rest := st) (H := H) (locs := locs) (cells := k) (slots := n) (p := p) (e := e) (below := below) (meth := meth) (c := c) ⟨C.1, C.2.1, C.2.2.1, C.2.2.2.1, hts⟩ hM cw ⟨hpre.1, hrecv, hpre.2⟩ rfl hn hl.1 hst (lv_room hrm) hd ⟨by show k + mc2 ≤ mc; omega, by show n + ms2 ≤ ms; omega⟩
    exact zafter hrun h1 h2 hl hS kk
theorem r_callS (C : zCx w p s m args meth c y b nL ret) {ix d2 mc2 ms2 n2 nL2 : Nat} {y2 : MethodName} {b2 : ByteArray} {ret2 : Option FieldType} {As stk : List Value} {P2 : Option Value → zSg → Prop} (hw : zCw y.cls ix y2 b2 nL2 ret2 n2) (hv : (Cond.static y2) ∈ lw_g)
    (hn : As.length = n2) (hM : zCt w d2 mc2 ms2 y2 b2 nL2 ret2 As σ P2) (hd2 : d2 + 1 ≤ d) (hst : stk = As.reverse ++ st) (hrm : (st.map fun v => v.category).sum ≤ 8) (hrc : σ.1.length + mc2 ≤ T0.length + mc ∧ zsz σ.1 + ms2 ≤ zsz T0 + ms) (hd : decode b pc = .ok (.invokestatic ix, 3))
    (kk : ∀ (v : Option Value) (σ' : zSg), P2 v σ' → σ'.1.length = σ.1.length + mc2 → zsz σ'.1 = zsz σ.1 + ms2 → zK w p e d mc ms s m args below meth c nL T0 Post (pc + 3) lv (v.toList ++ st) σ') : zK w p e d mc ms s m args below meth c nL T0 Post pc lv stk σ := fun ls H locs k n h1 h2 hl hW hS => by
  obtain ⟨w1, w2, w3, w4, w5⟩ := hw
  have hts := C.2.2.2.2.1
  have hpre := zPc.at (av := As) C hW hS
  have cb := callB_of (R := zRm d mc ms) (rm := zRm d2 mc2 ms2) n2 hts (zgoodIn w2) rfl rfl rfl (hts _ w3) (hts _ w1) w4 ⟨hd2, by show 8 + (nL2 + 11) + 64 * d2 ≤ 64 * d; omega⟩
  have hrun := va_runS (g := F0 m pc ls stk) (rest := st) (H := H) (locs := locs) (cells := k) (slots := n) (p := p) (e := e) (below := below) (meth := meth) (c := c) ⟨C.1, C.2.1, C.2.2.1, C.2.2.2.1, hts⟩ hM ⟨cb, hts _ hv⟩ hpre rfl hn hl.1 hst (lv_room hrm) hd ⟨by show k + mc2 ≤ mc; omega, by show n + ms2 ≤ ms; omega⟩
  exact zafter hrun h1 h2 hl hS kk
theorem r_callI (C : zCx w p s m args meth c y b nL ret) {ix d2 mc2 ms2 n2 nL2 a : Nat} {y2 : MethodName} {b2 : ByteArray} {As stk : List Value} {P2 : Option Value → zSg → Prop} (hw : zCw y.cls ix y2 b2 nL2 none n2) (hv : y2.name = "<init>" ∧ (Cond.instanceMethod y2) ∈ lw_g)
    (hn : As.length = n2) (hM : zCt w d2 mc2 ms2 y2 b2 nL2 none (.ref (w.2.1 + a) :: As) σ P2) (hd2 : d2 + 1 ≤ d) (hst : stk = As.reverse ++ .ref (w.2.1 + a) :: st) (hrm : (st.map fun v => v.category).sum ≤ 8) (hrc : σ.1.length + mc2 ≤ T0.length + mc ∧ zsz σ.1 + ms2 ≤ zsz T0 + ms) (hd : decode b pc = .ok (.invokespecial ix, 3))
    (kk : ∀ (v : Option Value) (σ' : zSg), P2 v σ' → σ'.1.length = σ.1.length + mc2 → zsz σ'.1 = zsz σ.1 + ms2 → zK w p e d mc ms s m args below meth c nL T0 Post (pc + 3) lv (v.toList ++ st) σ') : zK w p e d mc ms s m args below meth c nL T0 Post pc lv stk σ := fun ls H locs k n h1 h2 hl hW hS => by
  obtain ⟨w1, w2, w3, w4, w5⟩ := hw
  have hts := C.2.2.2.2.1
  have hpre := zPc.at (av := .ref (w.2.1 + a) :: As) C hW hS
  have cb := callB_of (R := zRm d mc ms) (rm := zRm d2 mc2 ms2) n2 hts (zgoodIn w2) rfl rfl rfl (hts _ w3) (hts _ w1) w4 ⟨hd2, by show 8 + (nL2 + 11) + 64 * d2 ≤ 64 * d; omega⟩
  have hrun := va_runI (g := F0 m pc ls stk) (rest := st) (H := H) (locs := locs) (cells := k) (slots := n) (p := p) (e := e) (below := below) (meth := meth) (c := c) ⟨C.1, C.2.1, C.2.2.1, C.2.2.2.1, hts⟩ hM ⟨cb, hv.1, hts _ hv.2⟩ hpre rfl hn hl.1 hst (lv_room hrm) hd ⟨by show k + mc2 ≤ mc; omega, by show n + ms2 ≤ ms; omega⟩
  exact zafter hrun h1 h2 hl hS kk
end CALLROWS
