section INITS
variable {w : zWp} {p : Program} {e : Env} {d mc ms : Nat} {s : State} {m : MethodId} {args : Array Value} {below : List Frame} {meth : Method} {c : Code} {y : MethodName} {b : ByteArray} {nL : Nat} {ret : Option FieldType} {T0 T : zTl} {M : zMm} {J : zJm} {R : zRm'} {Post : Option Value → zSg → Prop} {pc n : Nat} {lv st : List Value}
theorem q_newI (C : zCx w p s m args meth c y b nL ret) {N q : Nat} {x : Int} (hd : decode b pc = .ok (.newarray .int, 2)) (hn : pc + 2 = n) (hx : x = (N : Int)) (hN : N ≤ 1000000) (hp : T.length = q) (hz : zFr q M J R) (hrc : T.length + 1 ≤ T0.length + mc ∧ zsz T + N ≤ zsz T0 + ms) (kk : ∀ T2 : zTl, T2 = T ++ [(50, N)] → zK w p e d mc ms s m args below meth c nL T0 Post n lv (.ref (w.2.1 + q) :: st) (T2, M, J, R)) : zK w p e d mc ms s m args below meth c nL T0 Post pc lv (zi x :: st) (T, M, J, R) := by
  subst hx hn hp
  exact r_newI C hd hN hz hrc (kk _ rfl)
theorem q_newB (C : zCx w p s m args meth c y b nL ret) {N q : Nat} {x : Int} (hd : decode b pc = .ok (.newarray .byte, 2)) (hn : pc + 2 = n) (hx : x = (N : Int)) (hN : N ≤ 1000000) (hp : T.length = q) (hz : zFr q M J R) (hrc : T.length + 1 ≤ T0.length + mc ∧ zsz T + N ≤ zsz T0 + ms) (kk : ∀ T2 : zTl, T2 = T ++ [(51, N)] → zK w p e d mc ms s m args below meth c nL T0 Post n lv (.ref (w.2.1 + q) :: st) (T2, M, J, R)) : zK w p e d mc ms s m args below meth c nL T0 Post pc lv (zi x :: st) (T, M, J, R) := by
  subst hx hn hp
  exact r_newB C hd hN hz hrc (kk _ rfl)
theorem q_newZ (C : zCx w p s m args meth c y b nL ret) {N q : Nat} {x : Int} (hd : decode b pc = .ok (.newarray .boolean, 2)) (hn : pc + 2 = n) (hx : x = (N : Int)) (hN : N ≤ 1000000) (hp : T.length = q) (hz : zFr q M J R) (hrc : T.length + 1 ≤ T0.length + mc ∧ zsz T + N ≤ zsz T0 + ms) (kk : ∀ T2 : zTl, T2 = T ++ [(52, N)] → zK w p e d mc ms s m args below meth c nL T0 Post n lv (.ref (w.2.1 + q) :: st) (T2, M, J, R)) : zK w p e d mc ms s m args below meth c nL T0 Post pc lv (zi x :: st) (T, M, J, R) := by
  subst hx hn hp
  exact r_newZ C hd hN hz hrc (kk _ rfl)
theorem q_newJ (C : zCx w p s m args meth c y b nL ret) {N q : Nat} {x : Int} (hd : decode b pc = .ok (.newarray .long, 2)) (hn : pc + 2 = n) (hx : x = (N : Int)) (hN : N ≤ 1000000) (hp : T.length = q) (hz : zFr q M J R) (hrc : T.length + 1 ≤ T0.length + mc ∧ zsz T + N ≤ zsz T0 + ms) (kk : ∀ T2 : zTl, T2 = T ++ [(53, N)] → zK w p e d mc ms s m args below meth c nL T0 Post n lv (.ref (w.2.1 + q) :: st) (T2, M, J, R)) : zK w p e d mc ms s m args below meth c nL T0 Post pc lv (zi x :: st) (T, M, J, R) := by
  subst hx hn hp
  exact r_newJ C hd hN hz hrc (kk _ rfl)
theorem q_put0 (C : zCx w p s m args meth c y b nL ret) {ix ci N k a : Nat} (hd : decode b pc = .ok (.putfield ix, 3)) (hn : pc + 3 = n) (hf : zFd y.cls ix ci N k 0) (hfin : zfin ci k = false) (ht : T[a]? = some (ci, N)) (h0 : M a k = 0) (hty : narrow (zty ci k) (zi 0) = zi 0 ∧ fits (zty ci k) (zi 0) = true) (kk : zK w p e d mc ms s m args below meth c nL T0 Post n lv st (T, M, J, R)) : zK w p e d mc ms s m args below meth c nL T0 Post pc lv (zi 0 :: .ref (w.2.1 + a) :: st) (T, M, J, R) := by
  refine r_putV (τ := (T, M, J, R)) C hf hfin ht hty.1 hty.2 rfl (fun _ _ => rfl) (fun _ _ => rfl) (fun _ _ => rfl) (fun j _ => ?_) hd (by rw [hn]; exact kk)
  obtain ⟨Cn, Tn, f1, f2, f3, f4, f5⟩ := hf
  by_cases hj : j = k
  · subst hj
    rw [if_pos rfl]
    unfold zfv
    rw [if_pos f4]
    show zi 0 = zi (M a j)
    rw [h0]
  · rw [if_neg hj]
theorem q_objI (C : zCx w p s m args meth c y b nL ret) {ix x : Nat} {σ : zSg} (hd : decode b pc = .ok (.invokespecial ix, 3)) (hn : pc + 3 = n) (hw : (Cond.methodLink y.cls ix Lib.objectInit) ∈ lw_g) (h1d : 1 ≤ d) (hrm : (st.map fun v => v.category).sum ≤ 8) (kk : zK w p e d mc ms s m args below meth c nL T0 Post n lv st σ) : zK w p e d mc ms s m args below meth c nL T0 Post pc lv (.ref x :: st) σ := r_objI C hd hw h1d hrm (by rw [hn]; exact kk)
/-- what a new object of a class wants of the tables -/
def zNw (cls : String) (ix ci N : Nat) : Prop := ∃ (Cn : String) (Tn : u_T), ci < 50 ∧ zcl[ci]? = some (Cn, Tn, N) ∧ (Cond.classLink cls ix Cn) ∈ lw_g ∧ (Cond.instantiable Cn N) ∈ lw_g ∧ (Cond.initialized Cn) ∈ lw_g ∧ (∀ v ∈ u_ws Cn Tn N, v ∈ lw_g) ∧ (∀ k, k < N → parseFieldDescriptor (Tn k).2.2.1 = some (zty ci k)) ∧ ((List.range N).all fun k => zfo (zty ci k)) = true
theorem q_new (C : zCx w p s m args meth c y b nL ret) {ix ci N q : Nat} (hd : decode b pc = .ok (.new ix, 3)) (hn : pc + 3 = n) (hw : zNw y.cls ix ci N) (hp : T.length = q) (hz : zFr q M J R) (hrc : T.length + 1 ≤ T0.length + mc ∧ zsz T + N ≤ zsz T0 + ms) (kk : ∀ T2 : zTl, T2 = T ++ [(ci, N)] → zK w p e d mc ms s m args below meth c nL T0 Post n lv (.ref (w.2.1 + q) :: st) (T2, M, J, R)) : zK w p e d mc ms s m args below meth c nL T0 Post pc lv st (T, M, J, R) := by
  obtain ⟨Cn, Tn, w1, w2, w3, w4, w5, w6, w7, w8⟩ := hw
  subst hn hp
  exact r_new C hd w1 w2 w3 w4 w5 w6 w7 w8 hz hrc (kk _ rfl)
/-- what a constructor answers: the cells of L at a and behind; below a nothing changes -/
def zPn (G : zGt) (P L : zTl) (a l : Nat) (M : zMm) (J : zJm) (R : zRm') (E : zRm' → Prop) : Option Value → zSg → Prop := fun v τ => v = none ∧ ∃ (M2 : zMm) (R2 : zRm'), τ = (P ++ L, M2, J, R2) ∧ zI G M2 ∧ zFr (a + l) M2 J R2 ∧ (∀ c q, c < a → M2 c q = M c q) ∧ (∀ c q, c < a → R2 c q = R c q) ∧ E R2
theorem q_ctor (C : zCx w p s m args meth c y b nL ret) {ix d2 mc2 ms2 n2 nL2 q l : Nat} {y2 : MethodName} {b2 : ByteArray} {As stk : List Value} {G : zGt} {T1 L : zTl} {x : Nat × Nat} {E : zRm' → Prop} (hd : decode b pc = .ok (.invokespecial ix, 3)) (hn : pc + 3 = n) (hw : zCw y.cls ix y2 b2 nL2 none n2) (hv : y2.name = "<init>" ∧ (Cond.instanceMethod y2) ∈ lw_g) (hT1 : T1 = T ++ [x]) (hM : zCt w d2 mc2 ms2 y2 b2 nL2 none (.ref (w.2.1 + q) :: As) (T ++ [x], M, J, R) (zPn G T L q l M J R E)) (hd2 : d2 + 1 ≤ d) (hA : As.length = n2) (hst : stk = As.reverse ++ .ref (w.2.1 + q) :: st) (hrm : (st.map fun v => v.category).sum ≤ 8) (hrc : T1.length + mc2 ≤ T0.length + mc ∧ zsz T1 + ms2 ≤ zsz T0 + ms) (kk : ∀ (T2 : zTl) (M2 : zMm) (R2 : zRm'), T2 = T ++ L → zI G M2 → zFr (q + l) M2 J R2 → (∀ c k, c < q → M2 c k = M c k) → (∀ c k, c < q → R2 c k = R c k) → E R2 → zK w p e d mc ms s m args below meth c nL T0 Post n lv st (T2, M2, J, R2)) : zK w p e d mc ms s m args below meth c nL T0 Post pc lv stk (T1, M, J, R) := by
  subst hT1
  refine r_callI C hw hv hA hM hd2 hst hrm hrc hd (fun v τ hp _ _ => ?_)
  obtain ⟨rfl, M2, R2, rfl, h1, h2, h3, h4, h5⟩ := hp
  rw [hn]
  exact kk _ M2 R2 rfl h1 h2 h3 h4 h5
theorem q_ctorN (C : zCx w p s m args meth c y b nL ret) {ix d2 mc2 ms2 n2 nL2 q l : Nat} {y2 : MethodName} {b2 : ByteArray} {As stk : List Value} {G : zGt} {T1 L : zTl} {x : Nat × Nat} {E : zRm' → Prop} {host : String} (hd : decode b pc = .ok (.invokespecial ix, 3)) (hn : pc + 3 = n) (hnl : (y.cls, ix, y2, host) ∈ zNst) (hw : (Cond.code y2 b2 nL2 none) ∈ lw_g ∧ (Cond.initialized y2.cls) ∈ lw_g ∧ (y2.cls ≠ "java/lang/invoke/MethodHandle" ∧ y2.cls ≠ "java/lang/invoke/VarHandle" ∧ (parseMethodDescriptor y2.desc).map (fun d => d.parameters.length) = some n2) ∧ nL2 ≤ 40) (hv : y2.name = "<init>" ∧ (Cond.instanceMethod y2) ∈ lw_g) (hT1 : T1 = T ++ [x]) (hM : zCt w d2 mc2 ms2 y2 b2 nL2 none (.ref (w.2.1 + q) :: As) (T ++ [x], M, J, R) (zPn G T L q l M J R E)) (hd2 : d2 + 1 ≤ d) (hA : As.length = n2) (hst : stk = As.reverse ++ .ref (w.2.1 + q) :: st) (hrm : (st.map fun v => v.category).sum ≤ 8) (hrc : T1.length + mc2 ≤ T0.length + mc ∧ zsz T1 + ms2 ≤ zsz T0 + ms) (kk : ∀ (T2 : zTl) (M2 : zMm) (R2 : zRm'), T2 = T ++ L → zI G M2 → zFr (q + l) M2 J R2 → (∀ c k, c < q → M2 c k = M c k) → (∀ c k, c < q → R2 c k = R c k) → E R2 → zK w p e d mc ms s m args below meth c nL T0 Post n lv st (T2, M2, J, R2)) : zK w p e d mc ms s m args below meth c nL T0 Post pc lv stk (T1, M, J, R) := by
  subst hT1
  refine r_callIN C hnl hw hv hA hM hd2 hst hrm hrc hd (fun v τ hp _ _ => ?_)
  obtain ⟨rfl, M2, R2, rfl, h1, h2, h3, h4, h5⟩ := hp
  rw [hn]
  exact kk _ M2 R2 rfl h1 h2 h3 h4 h5
theorem q_putN (C : zCx w p s m args meth c y b nL ret) {ix ci N k a : Nat} (hd : decode b pc = .ok (.putfield ix, 3)) (hn : pc + 3 = n) (hf : zFd y.cls ix ci N k 2) (hfin : zfin ci k = false) (ht : T[a]? = some (ci, N)) (h0 : R a k = none) (hty : narrow (zty ci k) .null = .null ∧ fits (zty ci k) .null = true) (kk : zK w p e d mc ms s m args below meth c nL T0 Post n lv st (T, M, J, R)) : zK w p e d mc ms s m args below meth c nL T0 Post pc lv (.null :: .ref (w.2.1 + a) :: st) (T, M, J, R) := by
  refine r_putV (τ := (T, M, J, R)) C hf hfin ht hty.1 hty.2 rfl (fun _ _ => rfl) (fun _ _ => rfl) (fun _ _ => rfl) (fun j _ => ?_) hd (by rw [hn]; exact kk)
  obtain ⟨Cn, Tn, f1, f2, f3, f4, f5⟩ := hf
  by_cases hj : j = k
  · subst hj
    rw [if_pos rfl]
    unfold zfv
    rw [if_neg (by rw [f4]; decide), if_neg (by rw [f4]; decide)]
    show .null = va_rf (zof w.2.1 (R a j))
    rw [h0]
    rfl
  · rw [if_neg hj]
theorem q_newQ (C : zCx w p s m args meth c y b nL ret) {ix N kd q : Nat} {x : Int} {Cn : String} (hd : decode b pc = .ok (.anewarray ix, 3)) (hn : pc + 3 = n) (hkd : 54 ≤ kd ∧ kd ≤ 56) (hty : (ztys w.2.2.2.1)[kd - 50]? = some (w.2.2.2.1 (kd - 50), .object Cn)) (hcl : (Cond.classLink y.cls ix Cn) ∈ lw_g) (hao : FieldType.object Cn ∈ zAo) (hx : x = (N : Int)) (hN : N ≤ 1000000) (hp : T.length = q) (hz : zFr q M J R) (hrc : T.length + 1 ≤ T0.length + mc ∧ zsz T + N ≤ zsz T0 + ms) (kk : ∀ T2 : zTl, T2 = T ++ [(kd, N)] → zK w p e d mc ms s m args below meth c nL T0 Post n lv (.ref (w.2.1 + q) :: st) (T2, M, J, R)) : zK w p e d mc ms s m args below meth c nL T0 Post pc lv (zi x :: st) (T, M, J, R) := by
  subst hx hn hp
  exact r_newQ C hd hkd hty hcl hao hN hz hrc (kk _ rfl)
theorem q_aast (C : zCx w p s m args meth c y b nL ret) {a v N kd ci Nn : Nat} {i : Int} {Cn : String} {Tn : u_T} (hd : decode b pc = .ok (.aastore, 1)) (hn : pc + 1 = n) (hkd : 54 ≤ kd ∧ kd ≤ 56) (hty : (ztys w.2.2.2.1)[kd - 50]? = some (w.2.2.2.1 (kd - 50), .object Cn)) (hc : zcl[ci]? = some (Cn, Tn, Nn)) (hci : ci < 50) (ha : T[a]? = some (kd, N)) (hv : T[v]? = some (ci, Nn)) (hi : 0 ≤ i ∧ i < N ∧ i ≤ 2147483647) (kk : ∀ R2 : zRm', R2 = zup R a i (some v) → zK w p e d mc ms s m args below meth c nL T0 Post n lv st (T, M, J, R2)) : zK w p e d mc ms s m args below meth c nL T0 Post pc lv (.ref (w.2.1 + v) :: zi i :: .ref (w.2.1 + a) :: st) (T, M, J, R) := r_aast C hd hkd hty hc hci ha hv hi (by rw [hn]; exact kk _ rfl)
end INITS
set_option maxRecDepth 100000 in
theorem nw_L_8 : zNw RL 8 11 9 := ⟨RX11, TX11, by decide, rfl, zt1 25 rfl rfl, zt1 26 rfl rfl, zt1 1 rfl rfl, uvX11, tyX11_ok, by decide +kernel⟩
set_option maxRecDepth 100000 in
theorem nw_X11_17 : zNw RX11 17 7 7 := ⟨RX7, TX7, by decide, rfl, zt1 33 rfl rfl, zt1 34 rfl rfl, zt1 2 rfl rfl, uvX7, tyX7_ok, by decide +kernel⟩
set_option maxRecDepth 100000 in
theorem nw_X7_9 : zNw RX7 9 4 7 := ⟨RX4, TX4, by decide, rfl, zt1 39 rfl rfl, zt1 43 rfl rfl, zt1 3 rfl rfl, uvX4, tyX4_ok, by decide +kernel⟩
set_option maxRecDepth 100000 in
theorem nw_X11_38 : zNw RX11 38 6 20 := ⟨RX6, TX6, by decide, rfl, zt1 116 rfl rfl, zt1 117 rfl rfl, zt1 4 rfl rfl, uvX6, tyX6_ok, by decide +kernel⟩
set_option maxRecDepth 100000 in
theorem nw_X6_9 : zNw RX6 9 1 2 := ⟨RX1, TX1, by decide, rfl, zt1 122 rfl rfl, zt1 123 rfl rfl, zt1 5 rfl rfl, uvX1, tyX1_ok, by decide +kernel⟩
set_option maxRecDepth 100000 in
theorem nw_X6_18 : zNw RX6 18 5 4 := ⟨RX5, TX5, by decide, rfl, zt1 143 rfl rfl, zt1 144 rfl rfl, zt1 6 rfl rfl, uvX5, tyX5_ok, by decide +kernel⟩
set_option maxRecDepth 100000 in
theorem nw_X6_68 : zNw RX6 68 10 2 := ⟨RX10, TX10, by decide, rfl, zt1 184 rfl rfl, zt1 185 rfl rfl, zt1 7 rfl rfl, uvX10, tyX10_ok, by decide +kernel⟩
set_option maxRecDepth 100000 in
theorem nw_X6_75 : zNw RX6 75 3 18 := ⟨RX3, TX3, by decide, rfl, zt1 203 rfl rfl, zt1 204 rfl rfl, zt1 8 rfl rfl, uvX3, tyX3_ok, by decide +kernel⟩
set_option maxRecDepth 100000 in
theorem nw_X6_84 : zNw RX6 84 0 9 := ⟨RX0, TX0, by decide, rfl, zt2 42 rfl rfl, zt2 43 rfl rfl, zt1 9 rfl rfl, uvX0, tyX0_ok, by decide +kernel⟩
set_option maxRecDepth 100000 in
theorem nw_X0_9 : zNw RX0 9 5 4 := ⟨RX5, TX5, by decide, rfl, zt2 48 rfl rfl, zt1 144 rfl rfl, zt1 6 rfl rfl, uvX5, tyX5_ok, by decide +kernel⟩
set_option maxRecDepth 100000 in
theorem nw_X0_24 : zNw RX0 24 2 18 := ⟨RX2, TX2, by decide, rfl, zt2 50 rfl rfl, zt2 52 rfl rfl, zt1 10 rfl rfl, uvX2, tyX2_ok, by decide +kernel⟩
set_option maxRecDepth 100000 in
theorem nw_X2_47 : zNw RX2 47 5 4 := ⟨RX5, TX5, by decide, rfl, zt2 57 rfl rfl, zt1 144 rfl rfl, zt1 6 rfl rfl, uvX5, tyX5_ok, by decide +kernel⟩
set_option maxRecDepth 100000 in
theorem nw_X6_93 : zNw RX6 93 9 8 := ⟨RX9, TX9, by decide, rfl, zt2 158 rfl rfl, zt2 159 rfl rfl, zt1 11 rfl rfl, uvX9, tyX9_ok, by decide +kernel⟩
set_option maxRecDepth 100000 in
theorem nw_X11_83 : zNw RX11 83 8 6 := ⟨RX8, TX8, by decide, rfl, zt5 198 rfl rfl, zt5 199 rfl rfl, zt1 24 rfl rfl, uvX8, tyX8_ok, by decide +kernel⟩
set_option maxRecDepth 100000 in
theorem nw_X8_9 : zNw RX8 9 6 20 := ⟨RX6, TX6, by decide, rfl, zt5 204 rfl rfl, zt1 117 rfl rfl, zt1 4 rfl rfl, uvX6, tyX6_ok, by decide +kernel⟩
set_option maxRecDepth 100000 in
theorem nw_L_23 : zNw RL 23 12 119 := ⟨RX12, TX12, by decide, rfl, zt6 179 rfl rfl, zt6 180 rfl rfl, zt1 12 rfl rfl, uvX12, tyX12_ok, by decide +kernel⟩
set_option maxRecDepth 100000 in
theorem cl_X0_24 : (Cond.classLink RX0 24 RX2) ∈ lw_g := zt2 50 rfl rfl
set_option maxRecDepth 100000 in
theorem cl_X7_9 : (Cond.classLink RX7 9 RX4) ∈ lw_g := zt1 39 rfl rfl
set_option maxRecDepth 100000 in
theorem cl_X11_17 : (Cond.classLink RX11 17 RX7) ∈ lw_g := zt1 33 rfl rfl
set_option maxRecDepth 100000 in
theorem nn_X4 : (Cond.code yX4_init cX4_init 1 none) ∈ lw_g ∧ (Cond.initialized yX4_init.cls) ∈ lw_g ∧ (yX4_init.cls ≠ "java/lang/invoke/MethodHandle" ∧ yX4_init.cls ≠ "java/lang/invoke/VarHandle" ∧ (parseMethodDescriptor yX4_init.desc).map (fun d => d.parameters.length) = some 0) ∧ 1 ≤ 40 := ⟨zt1 46 rfl rfl, zt1 3 rfl rfl, ⟨by decide +kernel, by decide +kernel, by decide +kernel⟩, by decide⟩
theorem nl_X4 : (RX7, 39, yX4_init, "HideSets") ∈ zNst := by decide +kernel
set_option maxRecDepth 100000 in
theorem nn_X1 : (Cond.code yX1_init cX1_init 1 none) ∈ lw_g ∧ (Cond.initialized yX1_init.cls) ∈ lw_g ∧ (yX1_init.cls ≠ "java/lang/invoke/MethodHandle" ∧ yX1_init.cls ≠ "java/lang/invoke/VarHandle" ∧ (parseMethodDescriptor yX1_init.desc).map (fun d => d.parameters.length) = some 0) ∧ 1 ≤ 40 := ⟨zt1 126 rfl rfl, zt1 5 rfl rfl, ⟨by decide +kernel, by decide +kernel, by decide +kernel⟩, by decide⟩
theorem nl_X1 : (RX6, 11, yX1_init, "HideSets") ∈ zNst := by decide +kernel
set_option maxRecDepth 100000 in
theorem nn_X2 : (Cond.code yX2_init cX2_init 1 none) ∈ lw_g ∧ (Cond.initialized yX2_init.cls) ∈ lw_g ∧ (yX2_init.cls ≠ "java/lang/invoke/MethodHandle" ∧ yX2_init.cls ≠ "java/lang/invoke/VarHandle" ∧ (parseMethodDescriptor yX2_init.desc).map (fun d => d.parameters.length) = some 0) ∧ 1 ≤ 40 := ⟨zt2 55 rfl rfl, zt1 10 rfl rfl, ⟨by decide +kernel, by decide +kernel, by decide +kernel⟩, by decide⟩
theorem nl_X2 : (RX0, 53, yX2_init, "HideSets") ∈ zNst := by decide +kernel
set_option maxRecDepth 100000 in
theorem nn_X8 : (Cond.code yX8_init cX8_init 1 none) ∈ lw_g ∧ (Cond.initialized yX8_init.cls) ∈ lw_g ∧ (yX8_init.cls ≠ "java/lang/invoke/MethodHandle" ∧ yX8_init.cls ≠ "java/lang/invoke/VarHandle" ∧ (parseMethodDescriptor yX8_init.desc).map (fun d => d.parameters.length) = some 0) ∧ 1 ≤ 40 := ⟨zt5 202 rfl rfl, zt1 24 rfl rfl, ⟨by decide +kernel, by decide +kernel, by decide +kernel⟩, by decide⟩
theorem nl_X8 : (RX11, 87, yX8_init, "HideSets") ∈ zNst := by decide +kernel
