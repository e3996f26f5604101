section CTOR
variable {w : zWp} {p : Program} {e : Env} {d mc ms : Nat} {s : State} {m : MethodId} {args : Array Value} {below : List Frame} {meth : Method} {c : Code} {y : MethodName} {b : ByteArray} {nL : Nat} {ret : Option FieldType} {T0 : List (Nat × Nat)} {Post : Option Value → zSg → Prop} {pc : Nat} {lv st : List Value} {σ : zSg}
theorem r_putVF (C : zCx w p s m args meth c y b nL ret) {ix ci N k t a : Nat} {v : Value} {τ : zSg} (hf : zFd y.cls ix ci N k t) (hin2 : y.name = "<init>") (hfin : zfin ci k = true) (hdecl : ∀ Cn Tn, zcl[ci]? = some (Cn, Tn, N) → (Tn k).1 = y.cls) (ht : σ.1[a]? = some (ci, N)) (hn : narrow (zty ci k) v = v) (hfit : fits (zty ci k) v = true) (hT : τ.1 = σ.1) (g1 : ∀ c, c ≠ a → τ.2.1 c = σ.2.1 c) (g2 : ∀ c, c ≠ a → τ.2.2.1 c = σ.2.2.1 c) (g3 : ∀ c, c ≠ a → τ.2.2.2 c = σ.2.2.2 c)
    (gv : ∀ j : Nat, j < N → (if j = k then v else zfv w.2.1 σ a (zty ci j) j) = zfv w.2.1 τ a (zty ci j) j) (hd : decode b pc = .ok (.putfield ix, 3)) (kk : zK w p e d mc ms s m args below meth c nL T0 Post (pc + 3) lv st τ) : zK w p e d mc ms s m args below meth c nL T0 Post pc lv (v :: .ref (w.2.1 + a) :: st) σ := fun ls H locs q n h1 h2 hl hW hS => by
  obtain ⟨Cn, Tn, f1, f2, f3, f4, f5, f6, f7, f8⟩ := hf
  have hts := C.2.2.2.2.1
  have hK := C.2.2.2.2.2.2.2.2.1
  have hap := va_apart (own := y.cls) hts f5 (zty ci) f6 f7 hK f1
  have h0 := hW.get ht (by show ¬ ci = 99; omega)
  rw [zE_ob (by show ci < 50; exact f2)] at h0
  obtain ⟨r, r1, cell, q1, q2, q3, q4⟩ := h0 0 _ rfl
  have hr : r = (Cn, Tn, N) := Option.some.inj (r1.symm.trans f1)
  subst hr
  obtain ⟨hSl, hfc, kC, hkC, hkind⟩ := hK.1 ci _ f1
  obtain ⟨cf, kf, fi, f, hi, hsl⟩ := hSl k f3
  have hlay := hts _ (f5 _ (u_in_lay f3))
  have hff : (Tn k).2.2.2 = true := by
    unfold zfin at hfin
    rw [f1] at hfin
    exact hfin
  unfold u_lay at hlay
  rw [if_pos hff] at hlay
  have hst := (u_facts hfc hkC (u_lays hts f5 f3) hi).1
  have hcf : m.cls = cf := by
    obtain ⟨_, _, c', _, _, _, -, -, hf', -, -, -, hown2, -⟩ := Cond.laysFinal_spec hlay
    have e1 : c' = cf := by have := hi.symm.trans hf'; simp at this; exact this.1.symm
    rw [hdecl _ _ f1] at hown2
    rw [← e1]; exact Option.some.inj (C.2.2.2.1.symm.trans hown2)
  have h6 := u_fits hfc hkC hkind (Or.inr hlay) hi (f6 k f3) hn hfit
  refine W.putFinK C.1 C.2.1 C.2.2.2.1 (hts _ f8) hi hst hcf (C.2.2.2.2.2.2.2.1.trans hin2) (by rw [q2]; exact h6) q1 q3 (by rw [hsl]; exact k2_hasslot (q4 k f3)) rfl rfl hd fun H' e1 e2 e3 => ?_
  rw [hsl] at e1 ⊢
  refine kk ls H' _ q n (by rw [hT]; exact h1) (by rw [hT]; exact h2) hl (hW.put ht hT g1 g2 g3 ?_ e2 e3) (hS.put e2 e3 (Nat.le_add_right _ _))
  rw [zE_ob (by show ci < 50; exact f2)]
  refine ⟨_, f1, t_OB.to (V := updV (vp_V ((List.range N).map (fun k => zfv w.2.1 σ a (zty ci k) k))) k v) ⟨_, e1, q2, q3, t_set q4 hap f3 v⟩ (fun j hj => ?_)⟩
  show updV _ k v j = vp_V ((List.range N).map (fun k => zfv w.2.1 τ a (zty ci k) k)) j
  rw [zrangeV hj, ← gv j hj]
  unfold updV
  by_cases hjk : j = k
  · rw [if_pos hjk, if_pos hjk]
  · rw [if_neg hjk, if_neg hjk, zrangeV hj]

theorem q_putRF (C : zCx w p s m args meth c y b nL ret) {T : zTl} {M : zMm} {J : zJm} {R : zRm'} {ix ci N k a r n : Nat} (hd : decode b pc = .ok (.putfield ix, 3)) (hn : pc + 3 = n) (hf : zFd y.cls ix ci N k 2) (ht : T[a]? = some (ci, N)) (hin2 : y.name = "<init>") (hfin : zfin ci k = true) (hdecl : ∀ Cn Tn, zcl[ci]? = some (Cn, Tn, N) → (Tn k).1 = y.cls) (hty : narrow (zty ci k) (.ref (w.2.1 + r)) = .ref (w.2.1 + r) ∧ fits (zty ci k) (.ref (w.2.1 + r)) = true) (kk : ∀ R2 : zRm', R2 = zup R a k (some r) → zK w p e d mc ms s m args below meth c nL T0 Post n lv st (T, M, J, R2)) : zK w p e d mc ms s m args below meth c nL T0 Post pc lv (.ref (w.2.1 + r) :: .ref (w.2.1 + a) :: st) (T, M, J, R) := by
  refine r_putVF (τ := (T, M, J, zup R a k (some r))) C hf hin2 hfin hdecl ht hty.1 hty.2 rfl (fun _ _ => rfl) (fun _ _ => rfl) (fun c hc => zup_a hc) (fun j _ => ?_) hd (by rw [hn]; exact kk _ rfl)
  obtain ⟨Cn, Tn, f1, f2, f3, f4, f5⟩ := hf
  exact zfv_up2 (σ := (T, M, J, R)) f4 j
theorem r_aast (C : zCx w p s m args meth c y b nL ret) {T : zTl} {M : zMm} {J : zJm} {R : zRm'} {a v N kd ci Nn : Nat} {i : Int} {Cn : String} {Tn : u_T} (hd : decode b pc = .ok (.aastore, 1)) (hkd : 54 ≤ kd ∧ kd ≤ 56) (hty : (ztys w.2.2.2.1)[kd - 50]? = some (w.2.2.2.1 (kd - 50), .object Cn)) (hc : zcl[ci]? = some (Cn, Tn, Nn)) (hci : ci < 50) (ha : T[a]? = some (kd, N)) (hv : T[v]? = some (ci, Nn)) (hi : 0 ≤ i ∧ i < N ∧ i ≤ 2147483647) (kk : zK w p e d mc ms s m args below meth c nL T0 Post (pc + 1) lv st (T, M, J, zup R a i (some v))) : zK w p e d mc ms s m args below meth c nL T0 Post pc lv (.ref (w.2.1 + v) :: zi i :: .ref (w.2.1 + a) :: st) (T, M, J, R) := fun ls H locs k n h1 h2 hl hW hS => by
  obtain ⟨g1, g2⟩ := zin hi
  have hlt : (Int32.ofInt i).toNatClampNeg < N := by omega
  have hPa := hW.get ha (by show ¬ kd = 99; omega)
  rw [zE_rf (by omega)] at hPa
  have hPv := hW.get hv (by show ¬ ci = 99; omega)
  rw [zE_ob (by show ci < 50; exact hci)] at hPv
  obtain ⟨r', hr', cellV, v1, v2, v3, -⟩ := hPv 0 _ rfl
  have hK := C.2.2.2.2.2.2.2.2.1
  have hcls := (hK.1 ci _ hc).2
  obtain ⟨kA, comp, k1, k2, k3, -⟩ := (hK.2 (kd - 50) _ hty).2
  have hcomp : comp = w.2.2.1.1 ci := Option.some.inj (k3.symm.trans hcls.1)
  subst hcomp
  obtain ⟨kC, hkC, -⟩ := id hcls.2
  refine W.aast C.1 C.2.1 (hPa 0 _ rfl) (fun q h => by cases h) (fun h => by cases h) k1 k2 rfl hkC ⟨fun q => g1 (Or.inl q), by show _ < (arrV _ _ _).slots.size; rw [arrV_size]; exact hlt⟩ v1 (fun q h => by rw [v3] at h; cases h) (by rw [v2]; exact hkC) (by rw [v2]; exact va_assign hcls) rfl rfl hd fun H1 e z oq => ?_
  refine kk ls H1 _ k n h1 h2 hl (hW.put ha rfl (fun _ _ => rfl) (fun _ _ => rfl) (fun c hc => zup_a hc) ?_ z oq) (hS.put z oq (Nat.le_add_right _ _))
  rw [zE_rf (by omega)]
  show H1[w.2.1 + a]? = some (vp_cell _ _)
  rw [e, vp_cell_q, vp_cell_q, arrV_store]
  congr 2
  funext q
  show updV _ _ _ q = va_rf (zof w.2.1 (zup R a i (some v) a q))
  by_cases hq : q = (Int32.ofInt i).toNatClampNeg
  · subst hq
    rw [g2, zup_at]
    simp [updV, va_rf, zof]
  · have hne : (q : Int) ≠ i := fun z => hq (by omega)
    rw [zup_i hne]
    simp [updV, hq]
set_option maxRecDepth 100000 in
theorem zo_in : (Cond.instanceMethod Lib.objectInit) ∈ lw_g := zt1 31 rfl rfl
set_option maxRecDepth 100000 in
theorem zo_co : (Cond.code Lib.objectInit ⟨#[0xb1]⟩ 1 none) ∈ lw_g := zt1 32 rfl rfl
theorem r_objI (C : zCx w p s m args meth c y b nL ret) {ix x : Nat} (hd : decode b pc = .ok (.invokespecial ix, 3)) (hw : (Cond.methodLink y.cls ix Lib.objectInit) ∈ lw_g) (h1d : 1 ≤ d) (hrm : (st.map fun v => v.category).sum ≤ 8) (kk : zK w p e d mc ms s m args below meth c nL T0 Post (pc + 3) lv st σ) : zK w p e d mc ms s m args below meth c nL T0 Post pc lv (.ref x :: st) σ := fun ls H locs k n h1 h2 hl hW hS =>
  W.objInit C.1 C.2.1 C.2.2.2.1 (C.2.2.2.2.1 _ hw) (C.2.2.2.2.1 _ zo_in) (C.2.2.2.2.1 _ zo_co) rfl (hl.1.trans C.2.2.1.symm) rfl hd h1d (by show 2 * 0 + (st.map fun v => v.category).sum + 12 ≤ 64 * d; omega) (kk ls H locs k n h1 h2 hl hW hS)
end CTOR
section CTORN
variable {w : zWp} {p : Program} {e : Env} {d mc ms : Nat} {s : State} {m : MethodId} {args : Array Value} {below : List Frame} {meth : Method} {c : Code} {y : MethodName} {b : ByteArray} {nL : Nat} {ret : Option FieldType} {T0 : List (Nat × Nat)} {Post : Option Value → zSg → Prop} {pc : Nat} {lv st : List Value} {σ : zSg}
theorem r_callIN (C : zCx w p s m args meth c y b nL ret) {ix d2 mc2 ms2 n2 nL2 a : Nat} {y2 : MethodName} {b2 : ByteArray} {As stk : List Value} {P2 : Option Value → zSg → Prop} {host : String} (hnl : (y.cls, ix, y2, host) ∈ zNst) (hw : (Cond.code y2 b2 nL2 none) ∈ lw_g ∧ (Cond.initialized y2.cls) ∈ lw_g ∧ (y2.cls ≠ "java/lang/invoke/MethodHandle" ∧ y2.cls ≠ "java/lang/invoke/VarHandle" ∧ (parseMethodDescriptor y2.desc).map (fun d => d.parameters.length) = some n2) ∧ nL2 ≤ 40) (hv : y2.name = "<init>" ∧ (Cond.instanceMethod y2) ∈ lw_g)
    (hn : As.length = n2) (hM : zCt w d2 mc2 ms2 y2 b2 nL2 none (.ref (w.2.1 + a) :: As) σ P2) (hd2 : d2 + 1 ≤ d) (hst : stk = As.reverse ++ .ref (w.2.1 + a) :: st) (hrm : (st.map fun v => v.category).sum ≤ 8) (hrc : σ.1.length + mc2 ≤ T0.length + mc ∧ zsz σ.1 + ms2 ≤ zsz T0 + ms) (hd : decode b pc = .ok (.invokespecial ix, 3))
    (kk : ∀ (v : Option Value) (σ' : zSg), P2 v σ' → σ'.1.length = σ.1.length + mc2 → zsz σ'.1 = zsz σ.1 + ms2 → zK w p e d mc ms s m args below meth c nL T0 Post (pc + 3) lv (v.toList ++ st) σ') : zK w p e d mc ms s m args below meth c nL T0 Post pc lv stk σ := fun ls H locs k n h1 h2 hl hW hS => by
  obtain ⟨w2, w3, w4, w5⟩ := hw
  have hts := C.2.2.2.2.1
  have hpre := zPc.at (av := .ref (w.2.1 + a) :: As) C hW hS
  have cb := va_cnB (R := zRm d mc ms) (rm := zRm d2 mc2 ms2) n2 hts (zgoodIn w2) rfl rfl rfl (C.2.2.2.2.2.2.2.2.2.1.2.2.2.1 _ hnl) (hts _ w3) w4 ⟨hd2, by show 8 + (nL2 + 11) + 64 * d2 ≤ 64 * d; omega⟩
  have hrun := va_runIN (g := F0 m pc ls stk) (rest := st) (H := H) (locs := locs) (cells := k) (slots := n) (p := p) (e := e) (below := below) (meth := meth) (c := c) ⟨C.1, C.2.1, C.2.2.1, C.2.2.2.1, hts⟩ hM ⟨cb, hv.1, hts _ hv.2⟩ hpre rfl hn hl.1 hst (lv_room hrm) hd ⟨by show k + mc2 ≤ mc; omega, by show n + ms2 ≤ ms; omega⟩
  exact zafter hrun h1 h2 hl hS kk
end CTORN
set_option maxRecDepth 100000 in
theorem mo_X11 : (Cond.methodLink RX11 3 Lib.objectInit) ∈ lw_g := zt1 30 rfl rfl
set_option maxRecDepth 100000 in
theorem mo_X7 : (Cond.methodLink RX7 3 Lib.objectInit) ∈ lw_g := zt1 38 rfl rfl
set_option maxRecDepth 100000 in
theorem mo_X4 : (Cond.methodLink RX4 3 Lib.objectInit) ∈ lw_g := zt1 47 rfl rfl
set_option maxRecDepth 100000 in
theorem mo_X6 : (Cond.methodLink RX6 3 Lib.objectInit) ∈ lw_g := zt1 121 rfl rfl
set_option maxRecDepth 100000 in
theorem mo_X1 : (Cond.methodLink RX1 1 Lib.objectInit) ∈ lw_g := zt1 127 rfl rfl
set_option maxRecDepth 100000 in
theorem mo_X5 : (Cond.methodLink RX5 3 Lib.objectInit) ∈ lw_g := zt1 148 rfl rfl
set_option maxRecDepth 100000 in
theorem mo_X10 : (Cond.methodLink RX10 3 Lib.objectInit) ∈ lw_g := zt1 189 rfl rfl
set_option maxRecDepth 100000 in
theorem mo_X3 : (Cond.methodLink RX3 3 Lib.objectInit) ∈ lw_g := zt1 208 rfl rfl
set_option maxRecDepth 100000 in
theorem mo_X0 : (Cond.methodLink RX0 3 Lib.objectInit) ∈ lw_g := zt2 47 rfl rfl
set_option maxRecDepth 100000 in
theorem mo_X2 : (Cond.methodLink RX2 3 Lib.objectInit) ∈ lw_g := zt2 56 rfl rfl
set_option maxRecDepth 100000 in
theorem mo_X9 : (Cond.methodLink RX9 3 Lib.objectInit) ∈ lw_g := zt2 163 rfl rfl
set_option maxRecDepth 100000 in
theorem mo_X8 : (Cond.methodLink RX8 3 Lib.objectInit) ∈ lw_g := zt5 203 rfl rfl
set_option maxRecDepth 100000 in
theorem mo_X12 : (Cond.methodLink RX12 7 Lib.objectInit) ∈ lw_g := zt6 184 rfl rfl
