def zwsW (y : MethodName) (b : ByteArray) (nL : Nat) (ret : Option FieldType) (hh : List (Nat × Nat × Nat × Nat)) : List Cond := .codeWith y b nL ret hh :: lw_g
/-- a method with a table of its own that returns: a new cell at most -/
def zCu (w : zWp) (d : Nat) (y : MethodName) (b : ByteArray) (nL : Nat) (ret : Option FieldType) (hh : List (Nat × Nat × Nat × Nat)) (av : List Value) (σ : zSg) (Post : Option Value → zSg → Prop) : Prop :=
  Met w.1 y (zwsW y b nL ret hh) (zRm d 1 6) (zPc w av σ) (zQc w Post) 1 6 (zA w)
theorem zCu.of {w : zWp} {d : Nat} {y : MethodName} {b : ByteArray} {nL : Nat} {ret : Option FieldType} {hh : List (Nat × Nat × Nat × Nat)} {av : List Value} {σ : zSg} {Post : Option Value → zSg → Prop} (hy : plainName y.cls = true) (hn : (lg_sl av).length ≤ nL)
    (body : ∀ p e s m args below meth c, zCx w p s m args meth c y b nL ret → c.exceptionTable.toList = tableOf hh → zJ w p e d 1 6 s m args below meth c nL (MQ below (zQc w Post) args s 1 6 (zA w)) 0 0 0 (zen av nL) [] σ) : zCu w d y b nL ret hh av σ Post := by
  unfold zCu Met
  refine MetFree.of_bodyS (code := b) (maxLocals := nL) (ret := ret) hy ?_ ?_
  · intro args s m h hn
    obtain ⟨m9, meth, c, hn9, h1, h2, h3, h4, -, h5, h6, -⟩ := Cond.codeWith_spec (atoms_spec (ws := zwsW y b nL ret hh) h _ List.mem_cons_self)
    cases hn.symm.trans hn9
    exact ⟨meth, c, h1, h2, h3, h4, h5, h6⟩
  · intro p e s m args below meth c s₁ B hml hv _
    have hh0 : s₁.heap = s.heap := by rw [B.state]; rfl
    obtain ⟨rfl, hW, hK, hS⟩ := hv
    have hts := atoms_spec (ws := zwsW y b nL ret hh) B.pre
    have C : zCx w p s m av.toArray meth c y b nL ret := ⟨B.exec, B.bytes, hml, findClass_of_methodNamed B.named, fun v h => hts v (List.mem_cons_of_mem _ h), B.notSynchronized, B.returns, (name_of_methodNamed B.named B.method).1, hK, hS, by rw [hW.1]; exact Nat.le_add_right _ _⟩
    have htab := vx_table (p := p) (x := y) B (hts _ List.mem_cons_self)
    have h := body p e s m av.toArray below meth c C htab _ _ [] (zen_has (lv_entry av hn)) hW va_S.rf
    rw [← lg_entry_eq] at h
    obtain ⟨t, a1, o, b1, b2, b3⟩ := h s₁ hh0 (Stand.of_body B)
    exact ⟨t, o, a1, b1, b2, ⟨b3.1, b3.2⟩⟩
section JC
variable {w : zWp} {p : Program} {e : Env} {d mc ms : Nat} {s : State} {m : MethodId} {args : Array Value} {below : List Frame} {meth : Method} {c : Code} {y : MethodName} {b : ByteArray} {nL : Nat} {ret : Option FieldType} {Q : State → Prop} {kc nc : Nat} {pc : Nat} {lv st : List Value} {σ : zSg}
theorem jr_callX (C : zCx w p s m args meth c y b nL ret) {ix d2 n2 nL2 a ci N : Nat} {x : ExceptionTableEntry} {y2 : MethodName} {b2 : ByteArray} {ret2 : Option FieldType} {As stk : List Value} {P2 : Option Value → zSg → Prop} {XP : zSg → Prop} (hw : zCw y.cls ix y2 b2 nL2 ret2 n2) (hv : (Cond.instanceMethod y2) ∈ lw_g ∧ (Cond.selects y2.cls y2 y2) ∈ lw_g)
    (ht : σ.1[a]? = some (ci, N)) (hci : ci < 50) (hcl : (zcl[ci]?).map (fun r => r.1) = some y2.cls) (hn : As.length = n2) (hM : zXt w d2 y2 b2 nL2 ret2 (.ref (w.2.1 + a) :: As) σ P2 XP) (hd2 : d2 + 1 ≤ d) (hst : stk = As.reverse ++ .ref (w.2.1 + a) :: st) (hrm : (st.map fun v => v.category).sum ≤ 8) (hrc : kc + 1 ≤ mc ∧ nc + 6 ≤ ms) (hd : decode b pc = .ok (.invokevirtual ix, 3))
    (htab : c.exceptionTable.toList = [x]) (hx : covers x pc = true) (hx0 : x.catchType ≠ 0) (hlink : (Cond.classLink y.cls x.catchType "java/util/NoSuchElementException") ∈ lw_g)
    (kk : ∀ (v : Option Value) (σ' : zSg), P2 v σ' → zJ w p e d mc ms s m args below meth c nL Q (kc + 1) (nc + 6) (pc + 3) lv (v.toList ++ st) σ')
    (kx : ∀ (q : Nat) (σ' : zSg), XP σ' → zJ w p e d mc ms s m args below meth c nL Q (kc + 1) (nc + 6) x.handlerPc lv [.ref q] σ') : zJ w p e d mc ms s m args below meth c nL Q kc nc pc lv stk σ := fun ls H locs hl hW hS => by
  obtain ⟨w1, w2, w3, w4, w5⟩ := hw
  have hts := C.2.2.2.2.1
  cases hr : zcl[ci]? with
  | none => rw [hr] at hcl; cases hcl
  | some r =>
    rw [hr] at hcl
    have hrc2 : r.1 = y2.cls := Option.some.inj hcl
    have hP := hW.get ht (by show ¬ ci = 99; omega)
    rw [zE_ob (by show ci < 50; exact hci)] at hP
    have hrecv := va_recv C.2.2.2.2.2.2.2.2.1 hP hr (q0 := 0) rfl
    rw [hrc2] at hrecv
    have hpre := zPc.at (av := .ref (w.2.1 + a) :: As) C hW hS
    have cw : CallW (zRm d mc ms) s args y.cls y2.cls ix y2 b2 nL2 ret2 (zws y2 b2 nL2 ret2) (zRm d2 1 6) 1 6 n2 := ⟨callB_of n2 hts (zgoodIn w2) rfl rfl rfl (hts _ w3) (hts _ w1) w4 ⟨hd2, by show 8 + (nL2 + 11) + 64 * d2 ≤ 64 * d; omega⟩, hts _ hv.1, hts _ hv.2⟩
    have hrun := vx_runV (g := F0 m pc ls stk) (rest := st) (H := H) (locs := locs) (cells := kc) (slots := nc) (p := p) (e := e) (below := below) (meth := meth) (c := c) ⟨C.1, C.2.1, C.2.2.1, C.2.2.2.1, hts⟩ hM cw ⟨hpre.1, hrecv, hpre.2⟩ rfl hn hl.1 hst (lv_room hrm) hd ⟨by show kc + 1 ≤ mc; omega, by show nc + 6 ≤ ms; omega⟩
    intro T hT X
    rcases hrun T hT X with ⟨v, st₀, t, T', L, g0, X', hL, e1, e2, ⟨v2, σ', hv, hp, hW', hF⟩, stp⟩ | ⟨q, st₀, t, T', L, E, ce, g0, X', hL, e1, e2, ⟨hE, σ', hp, hW', hF⟩, hce, hcv, hcl2, stp⟩
    · cases hv
      have hz := hF.1
      have hk := hF.2
      rw [g0] at hz hk
      have hS' : va_S (zA w) s.heap T'.heap (locs ++ L) := ⟨Nat.le_trans hS.1 (by rw [e1]; exact hz), fun q q1 q2 => by rw [e1, hk q (Nat.lt_of_lt_of_le q1 hS.1) q2]; exact hS.2.1 q q1 q2, fun q hq => by
          rcases List.mem_append.mp hq with h | h
          · exact hS.2.2 q h
          · exact hL q h⟩
      obtain ⟨t2, a1, b1⟩ := kk v σ' hp ls T'.heap (locs ++ L) hl (by rw [e1]; exact hW') hS' T' rfl X'
      exact ⟨t2, stp t2 a1, b1⟩
    · subst hE
      have hz := hF.1
      have hk := hF.2
      rw [g0] at hz hk
      have hS' : va_S (zA w) s.heap T'.heap (locs ++ L) := ⟨Nat.le_trans hS.1 (by rw [e1]; exact hz), fun q q1 q2 => by rw [e1, hk q (Nat.lt_of_lt_of_le q1 hS.1) q2]; exact hS.2.1 q q1 q2, fun q hq => by
          rcases List.mem_append.mp hq with h | h
          · exact hS.2.2 q h
          · exact hL q h⟩
      have hk := kx q σ' hp ls T'.heap (locs ++ L) hl (by rw [e1]; exact hW') hS'
      have hc := vx_catch (rest := st) C.2.2.2.1 [] x [] htab (fun z hz => nomatch hz) hx hx0 (hts _ hlink) (va_Nw.use rfl (C.2.2.2.2.2.2.2.2.2.1.2.2.1 _ zx_cs)) (by rw [e1]; exact hce) hcv hcl2 hk
      obtain ⟨t2, a1, b1⟩ := hc T' rfl X'
      exact ⟨t2, stp.trans a1, b1⟩
theorem jm_iret {Post : Option Value → zSg → Prop} (C : zCx w p s m args meth c y b nL (some .int)) {x : Int} (hd : decode b pc = .ok (.ireturn, 1)) (hp : Post (some (zi x)) σ) : zJ w p e d 1 6 s m args below meth c nL (MQ below (zQc w Post) args s 1 6 (zA w)) 1 6 pc lv [zi x] σ := fun ls H locs hl hW hS =>
  W.iret C.1 C.2.1 C.2.2.2.2.2.2.1 (fun t ht hw => ⟨some (zi x), σ, rfl, hp, by rw [ht]; exact hW, hS.F ht⟩) (fun q hq => hS.2.2 q hq) hd C.2.2.2.2.2.1
end JC
set_option maxRecDepth 100000 in
theorem mL_value : zCw RL 7 yX11_value cX11_value 4 (some .long) 0 := ⟨zt6 94 rfl rfl, zt6 97 rfl rfl, zt1 1 rfl rfl, ⟨by decide +kernel, by decide +kernel, by decide +kernel⟩, by decide⟩
set_option maxRecDepth 100000 in
theorem mL_token : zCw RL 15 yX11_token cX11_token 4 (some .int) 2 := ⟨zt6 166 rfl rfl, zt6 169 rfl rfl, zt1 1 rfl rfl, ⟨by decide +kernel, by decide +kernel, by decide +kernel⟩, by decide⟩
set_option maxRecDepth 100000 in
theorem mL_macro : zCw RL 19 yX11_macro cX11_macro 5 (some .int) 2 := ⟨zt6 175 rfl rfl, zt6 178 rfl rfl, zt1 1 rfl rfl, ⟨by decide +kernel, by decide +kernel, by decide +kernel⟩, by decide⟩
theorem c_L_value {w : zWp} {T : zTl} {M : zMm} {J : zJm} {R : zRm'} {G : zGt} {F : zRm'} {a o : Nat} (hI : zI G M) (hF : zF F R) (h0 : zHideSets T F G a) (t_o : T[o]? = some (53, 1)) : zCu w 125 yL_value cL_value 3 (some .int) [(0, 7, 10, 13)] [.ref (w.2.1 + a), .ref (w.2.1 + o)] (T, M, J, R) (fun v τ => ∃ (x : Int) (M2 : zMm) (J2 : zJm) (R2 : zRm'), v = some (zi x) ∧ (τ = (T, M2, J2, R2) ∨ τ = (T ++ [(99, 6)], M2, J2, R2)) ∧ zI G M2 ∧ zKp G 19 M M2 ∧ M2 a 1 = 0 ∧ zRo R R2 (a + 30)) := by
  refine zCu.of rfl (Nat.le_of_ble_eq_true rfl) ?_
  intro p e s m args below meth c C htab
  obtain ⟨Po, hPo⟩ : ∃ Po, Po = (fun v τ => ∃ (x : Int) (M2 : zMm) (J2 : zJm) (R2 : zRm'), v = some (zi x) ∧ (τ = (T, M2, J2, R2) ∨ τ = (T ++ [(99, 6)], M2, J2, R2)) ∧ zI G M2 ∧ zKp G 19 M M2 ∧ M2 a 1 = 0 ∧ zRo R R2 (a + 30)) := ⟨_, rfl⟩
  rw [← hPo]
  obtain ⟨Q, hQ⟩ : ∃ Q, Q = MQ below (zQc w Po) args s 1 6 (zA w) := ⟨_, rfl⟩
  rw [← hQ]
  show zJ w p e 125 1 6 s m args below meth c 3 Q 0 0 0 [.ref (w.2.1 + a), .ref (w.2.1 + o), .null] [] (T, M, J, R)
  refine jq_aload_n C dL_value_0 (n := 1) rfl rfl ?_
  refine jq_iconst C dL_value_1 (n := 2) rfl ?_
  refine jq_aload_n C dL_value_2 (n := 3) rfl rfl ?_
  refine jr_callX (x := ⟨0, 7, 10, 13⟩) (As := []) C mL_value v_yX11_value h0.1 (by decide) rfl rfl (c_X11_value (w := w) (J := J) hI hF h0) (Nat.le_of_ble_eq_true rfl) rfl (Nat.le_of_ble_eq_true rfl) ⟨(Nat.le_of_ble_eq_true rfl), (Nat.le_of_ble_eq_true rfl)⟩ dL_value_3 htab rfl (by decide) (zt6 93 rfl rfl) (fun v τ hp => ?_) (fun q τ hp => ?_)
  · obtain ⟨r, M2, J2, R2, rfl, rfl, hI2, hk, hr⟩ := hp
    show zJ w p e 125 1 6 s m args below meth c 3 Q 1 6 6 [.ref (w.2.1 + a), .ref (w.2.1 + o), .null] [.long r, zi 0, .ref (w.2.1 + o)] (T, M2, J2, R2)
    refine jq_last C dL_value_6 (n := 7) rfl t_o (by omega) (fun J3 => ?_)
    refine jq_goto C 13 dL_value_7 rfl ?_
    refine jq_iconst C dL_value_13 (n := 14) rfl ?_
    rw [hQ]
    exact jm_iret C dL_value_14 (by rw [hPo]; exact ⟨0, M2, J3, R2, rfl, Or.inl rfl, hI2, hk, hr⟩)
  · obtain ⟨M2, J2, R2, rfl, hI2, hk, hr⟩ := hp
    show zJ w p e 125 1 6 s m args below meth c 3 Q 1 6 10 [.ref (w.2.1 + a), .ref (w.2.1 + o), .null] [.ref q] (T ++ [(99, 6)], M2, J2, R2)
    refine jq_astore_n C [.ref (w.2.1 + a), .ref (w.2.1 + o), .ref q] dL_value_10 (n := 11) rfl rfl rfl ?_
    refine jq_iconst C dL_value_11 (n := 12) rfl ?_
    rw [hQ]
    exact jm_iret C dL_value_12 (by rw [hPo]; exact ⟨1, M2, J2, R2, rfl, Or.inr rfl, hI2, hk, hr⟩)
theorem c_L_token {w : zWp} {T : zTl} {M : zMm} {J : zJm} {R : zRm'} {G : zGt} {F : zRm'} {a o : Nat} (hI : zI G M) (hF : zF F R) (h0 : zHideSets T F G a) (t_o : T[o]? = some (53, 1)) (v1 v2 : Int) (p1 : zr v1) (p2 : zr v2) : zCu w 9 yL_token cL_token 5 (some .int) [(0, 10, 13, 13)] [.ref (w.2.1 + a), zi v1, zi v2, .ref (w.2.1 + o)] (T, M, J, R) (fun v τ => ∃ (x : Int) (J2 : zJm), v = some (zi x) ∧ (τ = (T, M, J2, R) ∨ τ = (T ++ [(99, 6)], M, J2, R))) := by
  refine zCu.of rfl (Nat.le_of_ble_eq_true rfl) ?_
  intro p e s m args below meth c C htab
  obtain ⟨Po, hPo⟩ : ∃ Po, Po = (fun v τ => ∃ (x : Int) (J2 : zJm), v = some (zi x) ∧ (τ = (T, M, J2, R) ∨ τ = (T ++ [(99, 6)], M, J2, R))) := ⟨_, rfl⟩
  rw [← hPo]
  obtain ⟨Q, hQ⟩ : ∃ Q, Q = MQ below (zQc w Po) args s 1 6 (zA w) := ⟨_, rfl⟩
  rw [← hQ]
  show zJ w p e 9 1 6 s m args below meth c 5 Q 0 0 0 [.ref (w.2.1 + a), zi v1, zi v2, .ref (w.2.1 + o), .null] [] (T, M, J, R)
  refine jq_aload_n C dL_token_0 (n := 1) rfl rfl ?_
  refine jq_iconst C dL_token_1 (n := 2) rfl ?_
  refine jq_aload_n C dL_token_2 (n := 3) rfl rfl ?_
  refine jq_iload_n C dL_token_3 (n := 4) rfl rfl ?_
  refine jq_iload_n C dL_token_4 (n := 5) rfl rfl ?_
  refine jr_callX (x := ⟨0, 10, 13, 13⟩) (As := [zi v1, zi v2]) C mL_token v_yX11_token h0.1 (by decide) rfl rfl (c_X11_token (w := w) (J := J) hI hF h0 v1 v2 p1 p2) (Nat.le_of_ble_eq_true rfl) rfl (Nat.le_of_ble_eq_true rfl) ⟨(Nat.le_of_ble_eq_true rfl), (Nat.le_of_ble_eq_true rfl)⟩ dL_token_5 htab rfl (by decide) (zt6 93 rfl rfl) (fun v τ hp => ?_) (fun q τ hp => ?_)
  · obtain ⟨r, rfl, rfl, hr⟩ := hp
    show zJ w p e 9 1 6 s m args below meth c 5 Q 1 6 8 [.ref (w.2.1 + a), zi v1, zi v2, .ref (w.2.1 + o), .null] [zi r, zi 0, .ref (w.2.1 + o)] (T, M, J, R)
    refine jq_i2l C dL_token_8 (n := 9) rfl ?_
    refine jq_last C dL_token_9 (n := 10) rfl t_o (by omega) (fun J3 => ?_)
    refine jq_goto C 17 dL_token_10 rfl ?_
    refine jq_iconst C dL_token_17 (n := 18) rfl ?_
    rw [hQ]
    exact jm_iret C dL_token_18 (by rw [hPo]; exact ⟨0, J3, rfl, Or.inl rfl⟩)
  · subst hp
    show zJ w p e 9 1 6 s m args below meth c 5 Q 1 6 13 [.ref (w.2.1 + a), zi v1, zi v2, .ref (w.2.1 + o), .null] [.ref q] (T ++ [(99, 6)], M, J, R)
    refine jq_astore C [.ref (w.2.1 + a), zi v1, zi v2, .ref (w.2.1 + o), .ref q] dL_token_13 (n := 15) rfl rfl rfl ?_
    refine jq_iconst C dL_token_15 (n := 16) rfl ?_
    rw [hQ]
    exact jm_iret C dL_token_16 (by rw [hPo]; exact ⟨1, J, rfl, Or.inr rfl⟩)
theorem c_L_macro {w : zWp} {T : zTl} {M : zMm} {J : zJm} {R : zRm'} {G : zGt} {F : zRm'} {a o : Nat} (hI : zI G M) (hF : zF F R) (h0 : zHideSets T F G a) (t_o : T[o]? = some (53, 1)) (v1 v2 : Int) (p1 : zr v1) (p2 : zr v2) : zCu w 9 yL_macro cL_macro 5 (some .int) [(0, 10, 13, 13)] [.ref (w.2.1 + a), zi v1, zi v2, .ref (w.2.1 + o)] (T, M, J, R) (fun v τ => ∃ (x : Int) (J2 : zJm), v = some (zi x) ∧ (τ = (T, M, J2, R) ∨ τ = (T ++ [(99, 6)], M, J2, R))) := by
  refine zCu.of rfl (Nat.le_of_ble_eq_true rfl) ?_
  intro p e s m args below meth c C htab
  obtain ⟨Po, hPo⟩ : ∃ Po, Po = (fun v τ => ∃ (x : Int) (J2 : zJm), v = some (zi x) ∧ (τ = (T, M, J2, R) ∨ τ = (T ++ [(99, 6)], M, J2, R))) := ⟨_, rfl⟩
  rw [← hPo]
  obtain ⟨Q, hQ⟩ : ∃ Q, Q = MQ below (zQc w Po) args s 1 6 (zA w) := ⟨_, rfl⟩
  rw [← hQ]
  show zJ w p e 9 1 6 s m args below meth c 5 Q 0 0 0 [.ref (w.2.1 + a), zi v1, zi v2, .ref (w.2.1 + o), .null] [] (T, M, J, R)
  refine jq_aload_n C dL_macro_0 (n := 1) rfl rfl ?_
  refine jq_iconst C dL_macro_1 (n := 2) rfl ?_
  refine jq_aload_n C dL_macro_2 (n := 3) rfl rfl ?_
  refine jq_iload_n C dL_macro_3 (n := 4) rfl rfl ?_
  refine jq_iload_n C dL_macro_4 (n := 5) rfl rfl ?_
  refine jr_callX (x := ⟨0, 10, 13, 13⟩) (As := [zi v1, zi v2]) C mL_macro v_yX11_macro h0.1 (by decide) rfl rfl (c_X11_macro (w := w) (J := J) hI hF h0 v1 v2 p1 p2) (Nat.le_of_ble_eq_true rfl) rfl (Nat.le_of_ble_eq_true rfl) ⟨(Nat.le_of_ble_eq_true rfl), (Nat.le_of_ble_eq_true rfl)⟩ dL_macro_5 htab rfl (by decide) (zt6 93 rfl rfl) (fun v τ hp => ?_) (fun q τ hp => ?_)
  · obtain ⟨r, rfl, rfl, hr⟩ := hp
    show zJ w p e 9 1 6 s m args below meth c 5 Q 1 6 8 [.ref (w.2.1 + a), zi v1, zi v2, .ref (w.2.1 + o), .null] [zi r, zi 0, .ref (w.2.1 + o)] (T, M, J, R)
    refine jq_i2l C dL_macro_8 (n := 9) rfl ?_
    refine jq_last C dL_macro_9 (n := 10) rfl t_o (by omega) (fun J3 => ?_)
    refine jq_goto C 17 dL_macro_10 rfl ?_
    refine jq_iconst C dL_macro_17 (n := 18) rfl ?_
    rw [hQ]
    exact jm_iret C dL_macro_18 (by rw [hPo]; exact ⟨0, J3, rfl, Or.inl rfl⟩)
  · subst hp
    show zJ w p e 9 1 6 s m args below meth c 5 Q 1 6 13 [.ref (w.2.1 + a), zi v1, zi v2, .ref (w.2.1 + o), .null] [.ref q] (T ++ [(99, 6)], M, J, R)
    refine jq_astore C [.ref (w.2.1 + a), zi v1, zi v2, .ref (w.2.1 + o), .ref q] dL_macro_13 (n := 15) rfl rfl rfl ?_
    refine jq_iconst C dL_macro_15 (n := 16) rfl ?_
    rw [hQ]
    exact jm_iret C dL_macro_16 (by rw [hPo]; exact ⟨1, J, rfl, Or.inr rfl⟩)
