theorem zlk2 {T T2 : zTl} {x y : Nat × Nat} {a : Nat} (e : T2 = T ++ [x]) (h : T[a]? = some y) : T2[a]? = some y := by
  subst e
  rw [List.getElem?_append_left (List.getElem?_eq_some_iff.mp h).1]
  exact h
theorem zlast2 {T T2 : zTl} {x : Nat × Nat} {q : Nat} (e : T2 = T ++ [x]) (hp : T.length = q) : T2[q]? = some x := by
  subst e hp
  simp
theorem zlen2 {T T2 : zTl} {x : Nat × Nat} {q q2 : Nat} (e : T2 = T ++ [x]) (hp : T.length = q) (hq : q + 1 = q2) : T2.length = q2 := by
  subst e hp hq
  simp
theorem zsz2 {T T2 T0 : zTl} {x : Nat × Nat} {s s2 : Nat} (e : T2 = T ++ [x]) (hs : zsz T = zsz T0 + s) (h : s + x.2 = s2) : zsz T2 = zsz T0 + s2 := by
  subst e h
  rw [zsz_app, hs]
  omega
section INITS
variable {w : zWp} {p : Program} {e : Env} {d mc ms : Nat} {s : State} {m : MethodId} {args : Array Value} {below : List Frame} {meth : Method} {c : Code} {y : MethodName} {b : ByteArray} {nL : Nat} {ret : Option FieldType} {T0 T : zTl} {M : zMm} {J : zJm} {R : zRm'} {Post : Option Value → zSg → Prop} {pc n : Nat} {lv st : List Value}
theorem q_newI (C : zCx w p s m args meth c y b nL ret) {N q : Nat} {x : Int} (hd : decode b pc = .ok (.newarray .int, 2)) (hn : pc + 2 = n) (hx : x = (N : Int)) (hN : N ≤ 1000000) (hp : T.length = q) (hz : zFr q M J R) (hrc : T.length + 1 ≤ T0.length + mc ∧ zsz T + N ≤ zsz T0 + ms) (kk : ∀ T2 : zTl, T2 = T ++ [(50, N)] → zK w p e d mc ms s m args below meth c nL T0 Post n lv (.ref (w.2.1 + q) :: st) (T2, M, J, R)) : zK w p e d mc ms s m args below meth c nL T0 Post pc lv (zi x :: st) (T, M, J, R) := by
  subst hx hn hp
  exact r_newI C hd hN hz hrc (kk _ rfl)
theorem q_newB (C : zCx w p s m args meth c y b nL ret) {N q : Nat} {x : Int} (hd : decode b pc = .ok (.newarray .byte, 2)) (hn : pc + 2 = n) (hx : x = (N : Int)) (hN : N ≤ 1000000) (hp : T.length = q) (hz : zFr q M J R) (hrc : T.length + 1 ≤ T0.length + mc ∧ zsz T + N ≤ zsz T0 + ms) (kk : ∀ T2 : zTl, T2 = T ++ [(51, N)] → zK w p e d mc ms s m args below meth c nL T0 Post n lv (.ref (w.2.1 + q) :: st) (T2, M, J, R)) : zK w p e d mc ms s m args below meth c nL T0 Post pc lv (zi x :: st) (T, M, J, R) := by
  subst hx hn hp
  exact r_newB C hd hN hz hrc (kk _ rfl)
theorem q_newZ (C : zCx w p s m args meth c y b nL ret) {N q : Nat} {x : Int} (hd : decode b pc = .ok (.newarray .boolean, 2)) (hn : pc + 2 = n) (hx : x = (N : Int)) (hN : N ≤ 1000000) (hp : T.length = q) (hz : zFr q M J R) (hrc : T.length + 1 ≤ T0.length + mc ∧ zsz T + N ≤ zsz T0 + ms) (kk : ∀ T2 : zTl, T2 = T ++ [(52, N)] → zK w p e d mc ms s m args below meth c nL T0 Post n lv (.ref (w.2.1 + q) :: st) (T2, M, J, R)) : zK w p e d mc ms s m args below meth c nL T0 Post pc lv (zi x :: st) (T, M, J, R) := by
  subst hx hn hp
  exact r_newZ C hd hN hz hrc (kk _ rfl)
theorem q_newJ (C : zCx w p s m args meth c y b nL ret) {N q : Nat} {x : Int} (hd : decode b pc = .ok (.newarray .long, 2)) (hn : pc + 2 = n) (hx : x = (N : Int)) (hN : N ≤ 1000000) (hp : T.length = q) (hz : zFr q M J R) (hrc : T.length + 1 ≤ T0.length + mc ∧ zsz T + N ≤ zsz T0 + ms) (kk : ∀ T2 : zTl, T2 = T ++ [(53, N)] → zK w p e d mc ms s m args below meth c nL T0 Post n lv (.ref (w.2.1 + q) :: st) (T2, M, J, R)) : zK w p e d mc ms s m args below meth c nL T0 Post pc lv (zi x :: st) (T, M, J, R) := by
  subst hx hn hp
  exact r_newJ C hd hN hz hrc (kk _ rfl)
theorem q_put0 (C : zCx w p s m args meth c y b nL ret) {ix ci N k a : Nat} (hd : decode b pc = .ok (.putfield ix, 3)) (hn : pc + 3 = n) (hf : zFd y.cls ix ci N k 0) (hfin : zfin ci k = false) (ht : T[a]? = some (ci, N)) (h0 : M a k = 0) (hty : narrow (zty ci k) (zi 0) = zi 0 ∧ fits (zty ci k) (zi 0) = true) (kk : zK w p e d mc ms s m args below meth c nL T0 Post n lv st (T, M, J, R)) : zK w p e d mc ms s m args below meth c nL T0 Post pc lv (zi 0 :: .ref (w.2.1 + a) :: st) (T, M, J, R) := by
  refine r_putV (τ := (T, M, J, R)) C hf hfin ht hty.1 hty.2 rfl (fun _ _ => rfl) (fun _ _ => rfl) (fun _ _ => rfl) (fun j _ => ?_) hd (by rw [hn]; exact kk)
  obtain ⟨Cn, Tn, f1, f2, f3, f4, f5⟩ := hf
  by_cases hj : j = k
  · subst hj
    rw [if_pos rfl]
    unfold zfv
    rw [if_pos f4]
    show zi 0 = zi (M a j)
    rw [h0]
  · rw [if_neg hj]
theorem q_objI (C : zCx w p s m args meth c y b nL ret) {ix x : Nat} {σ : zSg} (hd : decode b pc = .ok (.invokespecial ix, 3)) (hn : pc + 3 = n) (hw : (Cond.methodLink y.cls ix Lib.objectInit) ∈ lw_g) (h1d : 1 ≤ d) (hrm : (st.map fun v => v.category).sum ≤ 8) (kk : zK w p e d mc ms s m args below meth c nL T0 Post n lv st σ) : zK w p e d mc ms s m args below meth c nL T0 Post pc lv (.ref x :: st) σ := r_objI C hd hw h1d hrm (by rw [hn]; exact kk)
end INITS
theorem n_X5 {w : zWp} {T : zTl} {M : zMm} {J : zJm} {R : zRm'} {G : zGt} {a : Nat} {n : Nat} (hI : zI G M) (hlen : T.length = a + 1) (ht : T[a]? = some (5, 4)) (hz : zFr a M J R) (p_n : n ≤ 100000)  : zCt w 1 3 (0 + n + n + n) yX5_init cX5_init 2 none [.ref (w.2.1 + a), zi (n : Int)] (T, M, J, R) (fun v τ => v = none ∧ ∃ (M2 : zMm) (R2 : zRm'), τ = (T ++ [(50, n), (50, n), (50, n)], M2, J, R2) ∧ zI G M2 ∧ zFr (a + 4) M2 J R2 ∧ (∀ c q, c < a → M2 c q = M c q) ∧ (∀ c q, c < a → R2 c q = R c q) ∧ R2 a 0 = some (a + 1) ∧ R2 a 1 = some (a + 2) ∧ R2 a 2 = some (a + 3)) := by
  refine zCt.of rfl (Nat.le_of_ble_eq_true rfl) ?_
  intro p e s m args below meth c C
  obtain ⟨Po, hPo⟩ : ∃ Po, Po = (fun v τ => v = none ∧ ∃ (M2 : zMm) (R2 : zRm'), τ = (T ++ [(50, n), (50, n), (50, n)], M2, J, R2) ∧ zI G M2 ∧ zFr (a + 4) M2 J R2 ∧ (∀ c q, c < a → M2 c q = M c q) ∧ (∀ c q, c < a → R2 c q = R c q) ∧ R2 a 0 = some (a + 1) ∧ R2 a 1 = some (a + 2) ∧ R2 a 2 = some (a + 3)) := ⟨_, rfl⟩
  rw [← hPo]
  show zK w p e 1 3 (0 + n + n + n) s m args below meth c 2 T Po 0 [.ref (w.2.1 + a), zi (n : Int)] [] (T, M, J, R)
  have hzs0 : zsz T = zsz T + 0 := rfl
  refine q_aload_n C dX5_init_0 (n := 1) rfl rfl ?_
  refine q_objI C dX5_init_1 (n := 4) rfl mo_X5 (Nat.le_of_ble_eq_true rfl) (Nat.le_of_ble_eq_true rfl) ?_
  refine q_aload_n C dX5_init_4 (n := 5) rfl rfl ?_
  refine q_iconst C dX5_init_5 (n := 6) rfl ?_
  refine q_put0 C dX5_init_6 (n := 9) rfl f_X5_9 rfl ht ((hz a (Nat.le_refl _) 3).1) ⟨rfl, rfl⟩ ?_
  refine q_aload_n C dX5_init_9 (n := 10) rfl rfl ?_
  refine q_iload_n C dX5_init_10 (n := 11) rfl rfl ?_
  have hz3 := hz.le (n2 := a + 1) (by omega)
  refine q_newI C dX5_init_11 (n := 13) rfl (N := n) (q := a + 1) (by omega) (by omega) (by omega) hz3 ⟨by omega, by omega⟩ (fun T1 e2 => ?_)
  have hl4 : T1.length = a + 2 := zlen2 e2 (by omega) (by omega)
  have hs5 : zsz T1 = zsz T + (0 + n) := zsz2 e2 hzs0 rfl
  have ht6 := zlk2 e2 ht
  refine q_putRF C dX5_init_13 (n := 16) rfl f_X5_15 ht6 rfl rfl (fun Cn Tn hq => by cases hq; rfl) ⟨rfl, rfl⟩ (fun R7 e8 => ?_)
  have hz9 := (hz.le (n2 := a + 2) (by omega)).R e8 (by omega)
  refine q_aload_n C dX5_init_16 (n := 17) rfl rfl ?_
  refine q_iload_n C dX5_init_17 (n := 18) rfl rfl ?_
  have hz12 := hz9.le (n2 := a + 2) (by omega)
  refine q_newI C dX5_init_18 (n := 20) rfl (N := n) (q := a + 2) (by omega) (by omega) (by omega) hz12 ⟨by omega, by omega⟩ (fun T10 e11 => ?_)
  have hl13 : T10.length = a + 3 := zlen2 e11 (by omega) (by omega)
  have hs14 : zsz T10 = zsz T + (0 + n + n) := zsz2 e11 hs5 rfl
  have ht15 := zlk2 e11 ht6
  refine q_putRF C dX5_init_20 (n := 23) rfl f_X5_19 ht15 rfl rfl (fun Cn Tn hq => by cases hq; rfl) ⟨rfl, rfl⟩ (fun R16 e17 => ?_)
  have hz18 := (hz9.le (n2 := a + 3) (by omega)).R e17 (by omega)
  refine q_aload_n C dX5_init_23 (n := 24) rfl rfl ?_
  refine q_iload_n C dX5_init_24 (n := 25) rfl rfl ?_
  have hz21 := hz18.le (n2 := a + 3) (by omega)
  refine q_newI C dX5_init_25 (n := 27) rfl (N := n) (q := a + 3) (by omega) (by omega) (by omega) hz21 ⟨by omega, by omega⟩ (fun T19 e20 => ?_)
  have hl22 : T19.length = a + 4 := zlen2 e20 (by omega) (by omega)
  have hs23 : zsz T19 = zsz T + (0 + n + n + n) := zsz2 e20 hs14 rfl
  have ht24 := zlk2 e20 ht15
  refine q_putRF C dX5_init_27 (n := 30) rfl f_X5_22 ht24 rfl rfl (fun Cn Tn hq => by cases hq; rfl) ⟨rfl, rfl⟩ (fun R25 e26 => ?_)
  have hz27 := (hz18.le (n2 := a + 4) (by omega)).R e26 (by omega)
  refine q_vret C dX5_init_30 ⟨by omega, by omega⟩ ?_
  rw [hPo]
  refine ⟨rfl, M, R25, ?_, hI, hz27.le (by omega), ?_, ?_, ?_, ?_, ?_⟩
  · subst e20 e11 e2
    simp
  · intro c q hc
    exact rfl
  · intro c q hc
    exact (zup_p e26 (by omega) _).trans ((zup_p e17 (by omega) _).trans ((zup_p e8 (by omega) _).trans (rfl)))
  · exact (zup_n e26 (by omega)).trans ((zup_n e17 (by omega)).trans (zup_s e8))
  · exact (zup_n e26 (by omega)).trans (zup_s e17)
  · exact zup_s e26
theorem n_X1 {w : zWp} {T : zTl} {M : zMm} {J : zJm} {R : zRm'} {G : zGt} {a : Nat}  (hI : zI G M) (hlen : T.length = a + 1) (ht : T[a]? = some (1, 2)) (hz : zFr a M J R)   : zCt w 1 0 (0) yX1_init cX1_init 1 none [.ref (w.2.1 + a)] (T, M, J, R) (fun v τ => v = none ∧ ∃ (M2 : zMm) (R2 : zRm'), τ = (T ++ [], M2, J, R2) ∧ zI G M2 ∧ zFr (a + 1) M2 J R2 ∧ (∀ c q, c < a → M2 c q = M c q) ∧ (∀ c q, c < a → R2 c q = R c q)) := by
  refine zCt.of rfl (Nat.le_of_ble_eq_true rfl) ?_
  intro p e s m args below meth c C
  obtain ⟨Po, hPo⟩ : ∃ Po, Po = (fun v τ => v = none ∧ ∃ (M2 : zMm) (R2 : zRm'), τ = (T ++ [], M2, J, R2) ∧ zI G M2 ∧ zFr (a + 1) M2 J R2 ∧ (∀ c q, c < a → M2 c q = M c q) ∧ (∀ c q, c < a → R2 c q = R c q)) := ⟨_, rfl⟩
  rw [← hPo]
  show zK w p e 1 0 (0) s m args below meth c 1 T Po 0 [.ref (w.2.1 + a)] [] (T, M, J, R)
  have hzs0 : zsz T = zsz T + 0 := rfl
  refine q_aload_n C dX1_init_0 (n := 1) rfl rfl ?_
  refine q_objI C dX1_init_1 (n := 4) rfl mo_X1 (Nat.le_of_ble_eq_true rfl) (Nat.le_of_ble_eq_true rfl) ?_
  refine q_aload_n C dX1_init_4 (n := 5) rfl rfl ?_
  refine q_iconst C dX1_init_5 (n := 6) rfl ?_
  refine q_put0 C dX1_init_6 (n := 9) rfl f_X1_7 rfl ht ((hz a (Nat.le_refl _) 0).1) ⟨rfl, rfl⟩ ?_
  refine q_aload_n C dX1_init_9 (n := 10) rfl rfl ?_
  refine q_iconst C dX1_init_10 (n := 11) rfl ?_
  refine q_put0 C dX1_init_11 (n := 14) rfl f_X1_13 rfl ht ((hz a (Nat.le_refl _) 1).1) ⟨rfl, rfl⟩ ?_
  refine q_vret C dX1_init_14 ⟨by omega, by omega⟩ ?_
  rw [hPo]
  refine ⟨rfl, M, R, ?_, hI, hz.le (by omega), ?_, ?_⟩
  · skip
    simp
  · intro c q hc
    exact rfl
  · intro c q hc
    exact rfl
theorem n_X4 {w : zWp} {T : zTl} {M : zMm} {J : zJm} {R : zRm'} {G : zGt} {a : Nat}  (hI : zI G M) (hlen : T.length = a + 1) (ht : T[a]? = some (4, 7)) (hz : zFr a M J R)   : zCt w 1 3 (0 + 401 + 41 + 40) yX4_init cX4_init 1 none [.ref (w.2.1 + a)] (T, M, J, R) (fun v τ => v = none ∧ ∃ (M2 : zMm) (R2 : zRm'), τ = (T ++ [(51, 401), (50, 41), (50, 40)], M2, J, R2) ∧ zI G M2 ∧ zFr (a + 4) M2 J R2 ∧ (∀ c q, c < a → M2 c q = M c q) ∧ (∀ c q, c < a → R2 c q = R c q) ∧ R2 a 0 = some (a + 1) ∧ R2 a 1 = some (a + 2) ∧ R2 a 2 = some (a + 3)) := by
  refine zCt.of rfl (Nat.le_of_ble_eq_true rfl) ?_
  intro p e s m args below meth c C
  obtain ⟨Po, hPo⟩ : ∃ Po, Po = (fun v τ => v = none ∧ ∃ (M2 : zMm) (R2 : zRm'), τ = (T ++ [(51, 401), (50, 41), (50, 40)], M2, J, R2) ∧ zI G M2 ∧ zFr (a + 4) M2 J R2 ∧ (∀ c q, c < a → M2 c q = M c q) ∧ (∀ c q, c < a → R2 c q = R c q) ∧ R2 a 0 = some (a + 1) ∧ R2 a 1 = some (a + 2) ∧ R2 a 2 = some (a + 3)) := ⟨_, rfl⟩
  rw [← hPo]
  show zK w p e 1 3 (0 + 401 + 41 + 40) s m args below meth c 1 T Po 0 [.ref (w.2.1 + a)] [] (T, M, J, R)
  have hzs0 : zsz T = zsz T + 0 := rfl
  refine q_aload_n C dX4_init_0 (n := 1) rfl rfl ?_
  refine q_objI C dX4_init_1 (n := 4) rfl mo_X4 (Nat.le_of_ble_eq_true rfl) (Nat.le_of_ble_eq_true rfl) ?_
  refine q_aload_n C dX4_init_4 (n := 5) rfl rfl ?_
  refine q_sipush C dX4_init_5 (n := 8) rfl (x := 401) (by decide) ?_
  have hz3 := hz.le (n2 := a + 1) (by omega)
  refine q_newB C dX4_init_8 (n := 10) rfl (N := 401) (q := a + 1) (by omega) (by omega) (by omega) hz3 ⟨by omega, by omega⟩ (fun T1 e2 => ?_)
  have hl4 : T1.length = a + 2 := zlen2 e2 (by omega) (by omega)
  have hs5 : zsz T1 = zsz T + (0 + 401) := zsz2 e2 hzs0 rfl
  have ht6 := zlk2 e2 ht
  refine q_putRF C dX4_init_10 (n := 13) rfl f_X4_9 ht6 rfl rfl (fun Cn Tn hq => by cases hq; rfl) ⟨rfl, rfl⟩ (fun R7 e8 => ?_)
  have hz9 := (hz.le (n2 := a + 2) (by omega)).R e8 (by omega)
  refine q_aload_n C dX4_init_13 (n := 14) rfl rfl ?_
  refine q_bipush C dX4_init_14 (n := 16) rfl (x := 41) (by decide) ?_
  have hz12 := hz9.le (n2 := a + 2) (by omega)
  refine q_newI C dX4_init_16 (n := 18) rfl (N := 41) (q := a + 2) (by omega) (by omega) (by omega) hz12 ⟨by omega, by omega⟩ (fun T10 e11 => ?_)
  have hl13 : T10.length = a + 3 := zlen2 e11 (by omega) (by omega)
  have hs14 : zsz T10 = zsz T + (0 + 401 + 41) := zsz2 e11 hs5 rfl
  have ht15 := zlk2 e11 ht6
  refine q_putRF C dX4_init_18 (n := 21) rfl f_X4_15 ht15 rfl rfl (fun Cn Tn hq => by cases hq; rfl) ⟨rfl, rfl⟩ (fun R16 e17 => ?_)
  have hz18 := (hz9.le (n2 := a + 3) (by omega)).R e17 (by omega)
  refine q_aload_n C dX4_init_21 (n := 22) rfl rfl ?_
  refine q_bipush C dX4_init_22 (n := 24) rfl (x := 40) (by decide) ?_
  have hz21 := hz18.le (n2 := a + 3) (by omega)
  refine q_newI C dX4_init_24 (n := 26) rfl (N := 40) (q := a + 3) (by omega) (by omega) (by omega) hz21 ⟨by omega, by omega⟩ (fun T19 e20 => ?_)
  have hl22 : T19.length = a + 4 := zlen2 e20 (by omega) (by omega)
  have hs23 : zsz T19 = zsz T + (0 + 401 + 41 + 40) := zsz2 e20 hs14 rfl
  have ht24 := zlk2 e20 ht15
  refine q_putRF C dX4_init_26 (n := 29) rfl f_X4_19 ht24 rfl rfl (fun Cn Tn hq => by cases hq; rfl) ⟨rfl, rfl⟩ (fun R25 e26 => ?_)
  have hz27 := (hz18.le (n2 := a + 4) (by omega)).R e26 (by omega)
  refine q_aload_n C dX4_init_29 (n := 30) rfl rfl ?_
  refine q_iconst C dX4_init_30 (n := 31) rfl ?_
  refine q_put0 C dX4_init_31 (n := 34) rfl f_X4_22 rfl ht24 ((hz a (Nat.le_refl _) 3).1) ⟨rfl, rfl⟩ ?_
  refine q_aload_n C dX4_init_34 (n := 35) rfl rfl ?_
  refine q_iconst C dX4_init_35 (n := 36) rfl ?_
  refine q_put0 C dX4_init_36 (n := 39) rfl f_X4_26 rfl ht24 ((hz a (Nat.le_refl _) 4).1) ⟨rfl, rfl⟩ ?_
  refine q_aload_n C dX4_init_39 (n := 40) rfl rfl ?_
  refine q_iconst C dX4_init_40 (n := 41) rfl ?_
  refine q_put0 C dX4_init_41 (n := 44) rfl f_X4_30 rfl ht24 ((hz a (Nat.le_refl _) 5).1) ⟨rfl, rfl⟩ ?_
  refine q_aload_n C dX4_init_44 (n := 45) rfl rfl ?_
  refine q_iconst C dX4_init_45 (n := 46) rfl ?_
  refine q_put0 C dX4_init_46 (n := 49) rfl f_X4_33 rfl ht24 ((hz a (Nat.le_refl _) 6).1) ⟨rfl, rfl⟩ ?_
  refine q_vret C dX4_init_49 ⟨by omega, by omega⟩ ?_
  rw [hPo]
  refine ⟨rfl, M, R25, ?_, hI, hz27.le (by omega), ?_, ?_, ?_, ?_, ?_⟩
  · subst e20 e11 e2
    simp
  · intro c q hc
    exact rfl
  · intro c q hc
    exact (zup_p e26 (by omega) _).trans ((zup_p e17 (by omega) _).trans ((zup_p e8 (by omega) _).trans (rfl)))
  · exact (zup_n e26 (by omega)).trans ((zup_n e17 (by omega)).trans (zup_s e8))
  · exact (zup_n e26 (by omega)).trans (zup_s e17)
  · exact zup_s e26
