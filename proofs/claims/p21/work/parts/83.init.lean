theorem n_X5 {w : zWp} {P : zTl} {M : zMm} {J : zJm} {R : zRm'} {G : zGt} {a : Nat} {n : Nat} (hI : zI G M) (hP : P.length = a) (hz : zFr a M J R) (p_n : n ≤ 100000) : zCt w 1 3 (0 + n + n + n) yX5_init cX5_init 2 none [.ref (w.2.1 + a), zi (n : Int)] (P ++ [(5, 4)], M, J, R) (zPn G P (zL5 n) a 4 M J R (fun R2 : zRm' => zN5 R2 a)) := by
  refine zCt.of rfl (Nat.le_of_ble_eq_true rfl) ?_
  intro p e s m args below meth c C
  obtain ⟨Po, hPo⟩ : ∃ Po, Po = (zPn G P (zL5 n) a 4 M J R (fun R2 : zRm' => zN5 R2 a)) := ⟨_, rfl⟩
  rw [← hPo]
  obtain ⟨T, eT⟩ : ∃ T : zTl, T = P ++ [(5, 4)] := ⟨_, rfl⟩
  have ht := zlast2 eT hP
  have hlen : T.length = a + 1 := zlen2 eT hP rfl rfl
  rw [← eT]
  show zK w p e 1 3 (0 + n + n + n) s m args below meth c 2 T Po 0 [.ref (w.2.1 + a), zi (n : Int)] [] (T, M, J, R)
  clear hP
  have hzs0 : zsz T = zsz T + 0 := rfl
  refine q_aload_n C dX5_init_0 (n := 1) rfl rfl ?_
  refine q_objI C dX5_init_1 (n := 4) rfl mo_X5 (Nat.le_of_ble_eq_true rfl) (Nat.le_of_ble_eq_true rfl) ?_
  refine q_aload_n C dX5_init_4 (n := 5) rfl rfl ?_
  refine q_iconst C dX5_init_5 (n := 6) rfl ?_
  refine q_put0 C dX5_init_6 (n := 9) rfl f_X5_9 rfl ht ((hz a (Nat.le_refl _) 3).1) ⟨rfl, rfl⟩ ?_
  refine q_aload_n C dX5_init_9 (n := 10) rfl rfl ?_
  refine q_iload_n C dX5_init_10 (n := 11) rfl rfl ?_
  have hz3 := hz.le (n2 := a + 1) (by omega)
  refine q_newI C dX5_init_11 (n := 13) rfl (N := n) (q := a + 1) (by omega) (by omega) hlen hz3 ⟨by omega, by omega⟩ (fun T1 e2 => ?_)
  have hl4 : T1.length = a + 2 := zlen2 e2 hlen rfl rfl
  have hs5 : zsz T1 = zsz T + (0 + n) := zsz2 (l := n) e2 hzs0 rfl (by omega)
  have ht6 := zlk2 e2 ht
  refine q_putRF C dX5_init_13 (n := 16) rfl f_X5_15 ht6 rfl rfl (fun Cn Tn hq => by cases hq; rfl) ⟨rfl, rfl⟩ (fun R7 e8 => ?_)
  have hz9 := (hz3.le (n2 := a + 2) (by omega)).R e8 (by omega)
  refine q_aload_n C dX5_init_16 (n := 17) rfl rfl ?_
  refine q_iload_n C dX5_init_17 (n := 18) rfl rfl ?_
  have hz12 := hz9.le (n2 := a + 2) (by omega)
  refine q_newI C dX5_init_18 (n := 20) rfl (N := n) (q := a + 2) (by omega) (by omega) hl4 hz12 ⟨by omega, by omega⟩ (fun T10 e11 => ?_)
  have hl13 : T10.length = a + 3 := zlen2 e11 hl4 rfl rfl
  have hs14 : zsz T10 = zsz T + (0 + n + n) := zsz2 (l := n) e11 hs5 rfl (by omega)
  have ht15 := zlk2 e11 ht6
  clear hl4 hs5 ht6
  refine q_putRF C dX5_init_20 (n := 23) rfl f_X5_19 ht15 rfl rfl (fun Cn Tn hq => by cases hq; rfl) ⟨rfl, rfl⟩ (fun R16 e17 => ?_)
  have hz18 := (hz12.le (n2 := a + 3) (by omega)).R e17 (by omega)
  refine q_aload_n C dX5_init_23 (n := 24) rfl rfl ?_
  refine q_iload_n C dX5_init_24 (n := 25) rfl rfl ?_
  have hz21 := hz18.le (n2 := a + 3) (by omega)
  refine q_newI C dX5_init_25 (n := 27) rfl (N := n) (q := a + 3) (by omega) (by omega) hl13 hz21 ⟨by omega, by omega⟩ (fun T19 e20 => ?_)
  have hl22 : T19.length = a + 4 := zlen2 e20 hl13 rfl rfl
  have hs23 : zsz T19 = zsz T + (0 + n + n + n) := zsz2 (l := n) e20 hs14 rfl (by omega)
  have ht24 := zlk2 e20 ht15
  clear hl13 hs14 ht15
  refine q_putRF C dX5_init_27 (n := 30) rfl f_X5_22 ht24 rfl rfl (fun Cn Tn hq => by cases hq; rfl) ⟨rfl, rfl⟩ (fun R25 e26 => ?_)
  have hz27 := (hz21.le (n2 := a + 4) (by omega)).R e26 (by omega)
  refine q_vret C dX5_init_30 ⟨by omega, by omega⟩ ?_
  rw [hPo]
  refine ⟨rfl, M, R25, ?_, hI, hz27.le (by omega), ?_, ?_, ?_⟩
  · subst e20 e11 e2
    rw [eT]
    simp [zL5]
  · intro c q hc
    exact rfl
  · intro c q hc
    exact (zup_p e26 (by omega) _).trans ((zup_p e17 (by omega) _).trans (zup_p e8 (by omega) _))
  · exact ⟨(zup_n e26 (fun z => absurd z.2 (by decide))).trans ((zup_n e17 (fun z => absurd z.2 (by decide))).trans (zup_s e8)), (zup_n e26 (fun z => absurd z.2 (by decide))).trans (zup_s e17), zup_s e26⟩
theorem n_X1 {w : zWp} {P : zTl} {M : zMm} {J : zJm} {R : zRm'} {G : zGt} {a : Nat}  (hI : zI G M) (hP : P.length = a) (hz : zFr a M J R)  : zCt w 1 0 (0) yX1_init cX1_init 1 none [.ref (w.2.1 + a)] (P ++ [(1, 2)], M, J, R) (zPn G P zL1 a 1 M J R (fun R2 : zRm' => True)) := by
  refine zCt.of rfl (Nat.le_of_ble_eq_true rfl) ?_
  intro p e s m args below meth c C
  obtain ⟨Po, hPo⟩ : ∃ Po, Po = (zPn G P zL1 a 1 M J R (fun R2 : zRm' => True)) := ⟨_, rfl⟩
  rw [← hPo]
  obtain ⟨T, eT⟩ : ∃ T : zTl, T = P ++ [(1, 2)] := ⟨_, rfl⟩
  have ht := zlast2 eT hP
  have hlen : T.length = a + 1 := zlen2 eT hP rfl rfl
  rw [← eT]
  show zK w p e 1 0 (0) s m args below meth c 1 T Po 0 [.ref (w.2.1 + a)] [] (T, M, J, R)
  clear hP
  have hzs0 : zsz T = zsz T + 0 := rfl
  refine q_aload_n C dX1_init_0 (n := 1) rfl rfl ?_
  refine q_objI C dX1_init_1 (n := 4) rfl mo_X1 (Nat.le_of_ble_eq_true rfl) (Nat.le_of_ble_eq_true rfl) ?_
  refine q_aload_n C dX1_init_4 (n := 5) rfl rfl ?_
  refine q_iconst C dX1_init_5 (n := 6) rfl ?_
  refine q_put0 C dX1_init_6 (n := 9) rfl f_X1_7 rfl ht ((hz a (Nat.le_refl _) 0).1) ⟨rfl, rfl⟩ ?_
  refine q_aload_n C dX1_init_9 (n := 10) rfl rfl ?_
  refine q_iconst C dX1_init_10 (n := 11) rfl ?_
  refine q_put0 C dX1_init_11 (n := 14) rfl f_X1_13 rfl ht ((hz a (Nat.le_refl _) 1).1) ⟨rfl, rfl⟩ ?_
  refine q_vret C dX1_init_14 ⟨by omega, by omega⟩ ?_
  rw [hPo]
  refine ⟨rfl, M, R, ?_, hI, hz.le (by omega), ?_, ?_, trivial⟩
  · skip
    rw [eT]
    simp [zL1]
  · intro c q hc
    exact rfl
  · intro c q hc
    exact rfl
theorem n_X4 {w : zWp} {P : zTl} {M : zMm} {J : zJm} {R : zRm'} {G : zGt} {a : Nat}  (hI : zI G M) (hP : P.length = a) (hz : zFr a M J R)  : zCt w 1 3 (482) yX4_init cX4_init 1 none [.ref (w.2.1 + a)] (P ++ [(4, 7)], M, J, R) (zPn G P zL4 a 4 M J R (fun R2 : zRm' => zN4 R2 a)) := by
  refine zCt.of rfl (Nat.le_of_ble_eq_true rfl) ?_
  intro p e s m args below meth c C
  obtain ⟨Po, hPo⟩ : ∃ Po, Po = (zPn G P zL4 a 4 M J R (fun R2 : zRm' => zN4 R2 a)) := ⟨_, rfl⟩
  rw [← hPo]
  obtain ⟨T, eT⟩ : ∃ T : zTl, T = P ++ [(4, 7)] := ⟨_, rfl⟩
  have ht := zlast2 eT hP
  have hlen : T.length = a + 1 := zlen2 eT hP rfl rfl
  rw [← eT]
  show zK w p e 1 3 (482) s m args below meth c 1 T Po 0 [.ref (w.2.1 + a)] [] (T, M, J, R)
  clear hP
  have hzs0 : zsz T = zsz T + 0 := rfl
  refine q_aload_n C dX4_init_0 (n := 1) rfl rfl ?_
  refine q_objI C dX4_init_1 (n := 4) rfl mo_X4 (Nat.le_of_ble_eq_true rfl) (Nat.le_of_ble_eq_true rfl) ?_
  refine q_aload_n C dX4_init_4 (n := 5) rfl rfl ?_
  refine q_sipush C dX4_init_5 (n := 8) rfl (x := 401) (by decide) ?_
  have hz3 := hz.le (n2 := a + 1) (by omega)
  refine q_newB C dX4_init_8 (n := 10) rfl (N := 401) (q := a + 1) (by omega) (by omega) hlen hz3 ⟨by omega, by omega⟩ (fun T1 e2 => ?_)
  have hl4 : T1.length = a + 2 := zlen2 e2 hlen rfl rfl
  have hs5 : zsz T1 = zsz T + (401) := zsz2 (l := 401) e2 hzs0 rfl (by omega)
  have ht6 := zlk2 e2 ht
  refine q_putRF C dX4_init_10 (n := 13) rfl f_X4_9 ht6 rfl rfl (fun Cn Tn hq => by cases hq; rfl) ⟨rfl, rfl⟩ (fun R7 e8 => ?_)
  have hz9 := (hz3.le (n2 := a + 2) (by omega)).R e8 (by omega)
  refine q_aload_n C dX4_init_13 (n := 14) rfl rfl ?_
  refine q_bipush C dX4_init_14 (n := 16) rfl (x := 41) (by decide) ?_
  have hz12 := hz9.le (n2 := a + 2) (by omega)
  refine q_newI C dX4_init_16 (n := 18) rfl (N := 41) (q := a + 2) (by omega) (by omega) hl4 hz12 ⟨by omega, by omega⟩ (fun T10 e11 => ?_)
  have hl13 : T10.length = a + 3 := zlen2 e11 hl4 rfl rfl
  have hs14 : zsz T10 = zsz T + (442) := zsz2 (l := 41) e11 hs5 rfl (by omega)
  have ht15 := zlk2 e11 ht6
  clear hl4 hs5 ht6
  refine q_putRF C dX4_init_18 (n := 21) rfl f_X4_15 ht15 rfl rfl (fun Cn Tn hq => by cases hq; rfl) ⟨rfl, rfl⟩ (fun R16 e17 => ?_)
  have hz18 := (hz12.le (n2 := a + 3) (by omega)).R e17 (by omega)
  refine q_aload_n C dX4_init_21 (n := 22) rfl rfl ?_
  refine q_bipush C dX4_init_22 (n := 24) rfl (x := 40) (by decide) ?_
  have hz21 := hz18.le (n2 := a + 3) (by omega)
  refine q_newI C dX4_init_24 (n := 26) rfl (N := 40) (q := a + 3) (by omega) (by omega) hl13 hz21 ⟨by omega, by omega⟩ (fun T19 e20 => ?_)
  have hl22 : T19.length = a + 4 := zlen2 e20 hl13 rfl rfl
  have hs23 : zsz T19 = zsz T + (482) := zsz2 (l := 40) e20 hs14 rfl (by omega)
  have ht24 := zlk2 e20 ht15
  clear hl13 hs14 ht15
  refine q_putRF C dX4_init_26 (n := 29) rfl f_X4_19 ht24 rfl rfl (fun Cn Tn hq => by cases hq; rfl) ⟨rfl, rfl⟩ (fun R25 e26 => ?_)
  have hz27 := (hz21.le (n2 := a + 4) (by omega)).R e26 (by omega)
  refine q_aload_n C dX4_init_29 (n := 30) rfl rfl ?_
  refine q_iconst C dX4_init_30 (n := 31) rfl ?_
  refine q_put0 C dX4_init_31 (n := 34) rfl f_X4_22 rfl ht24 ((hz a (Nat.le_refl _) 3).1) ⟨rfl, rfl⟩ ?_
  refine q_aload_n C dX4_init_34 (n := 35) rfl rfl ?_
  refine q_iconst C dX4_init_35 (n := 36) rfl ?_
  refine q_put0 C dX4_init_36 (n := 39) rfl f_X4_26 rfl ht24 ((hz a (Nat.le_refl _) 4).1) ⟨rfl, rfl⟩ ?_
  refine q_aload_n C dX4_init_39 (n := 40) rfl rfl ?_
  refine q_iconst C dX4_init_40 (n := 41) rfl ?_
  refine q_put0 C dX4_init_41 (n := 44) rfl f_X4_30 rfl ht24 ((hz a (Nat.le_refl _) 5).1) ⟨rfl, rfl⟩ ?_
  refine q_aload_n C dX4_init_44 (n := 45) rfl rfl ?_
  refine q_iconst C dX4_init_45 (n := 46) rfl ?_
  refine q_put0 C dX4_init_46 (n := 49) rfl f_X4_33 rfl ht24 ((hz a (Nat.le_refl _) 6).1) ⟨rfl, rfl⟩ ?_
  refine q_vret C dX4_init_49 ⟨by omega, by omega⟩ ?_
  rw [hPo]
  refine ⟨rfl, M, R25, ?_, hI, hz27.le (by omega), ?_, ?_, ?_⟩
  · subst e20 e11 e2
    rw [eT]
    simp [zL4]
  · intro c q hc
    exact rfl
  · intro c q hc
    exact (zup_p e26 (by omega) _).trans ((zup_p e17 (by omega) _).trans (zup_p e8 (by omega) _))
  · exact ⟨(zup_n e26 (fun z => absurd z.2 (by decide))).trans ((zup_n e17 (fun z => absurd z.2 (by decide))).trans (zup_s e8)), (zup_n e26 (fun z => absurd z.2 (by decide))).trans (zup_s e17), zup_s e26⟩
theorem n_X10 {w : zWp} {P : zTl} {M : zMm} {J : zJm} {R : zRm'} {G : zGt} {a : Nat} {n : Nat} (hI : zI G M) (hP : P.length = a) (hz : zFr a M J R) (hg : zG10 G a (2576 + n)) (p_n : n ≤ 100000) : zCt w 1 1 (0 + (2576 + n)) yX10_init cX10_init 2 none [.ref (w.2.1 + a), zi (n : Int)] (P ++ [(10, 2)], M, J, R) (zPn G P (zL10 n) a 2 M J R (fun R2 : zRm' => zN10 R2 a)) := by
  refine zCt.of rfl (Nat.le_of_ble_eq_true rfl) ?_
  intro p e s m args below meth c C
  obtain ⟨Po, hPo⟩ : ∃ Po, Po = (zPn G P (zL10 n) a 2 M J R (fun R2 : zRm' => zN10 R2 a)) := ⟨_, rfl⟩
  rw [← hPo]
  obtain ⟨T, eT⟩ : ∃ T : zTl, T = P ++ [(10, 2)] := ⟨_, rfl⟩
  have ht := zlast2 eT hP
  have hlen : T.length = a + 1 := zlen2 eT hP rfl rfl
  rw [← eT]
  show zK w p e 1 1 (0 + (2576 + n)) s m args below meth c 2 T Po 0 [.ref (w.2.1 + a), zi (n : Int)] [] (T, M, J, R)
  clear hP
  have hzs0 : zsz T = zsz T + 0 := rfl
  refine q_aload_n C dX10_init_0 (n := 1) rfl rfl ?_
  refine q_objI C dX10_init_1 (n := 4) rfl mo_X10 (Nat.le_of_ble_eq_true rfl) (Nat.le_of_ble_eq_true rfl) ?_
  refine q_aload_n C dX10_init_4 (n := 5) rfl rfl ?_
  refine q_sipush C dX10_init_5 (n := 8) rfl (x := 2576) (by decide) ?_
  refine q_putI C dX10_init_8 (n := 11) rfl f_X10_9 ht ⟨rfl, rfl⟩ (fun M1 e2 => ?_)
  have hI3 : zI G M1 := hI.put e2 (hg.2) rfl (by omega)
  have hz4 := (hz.le (n2 := a + 1) (by omega)).M e2 (by omega)
  refine q_aload_n C dX10_init_11 (n := 12) rfl rfl ?_
  refine q_sipush C dX10_init_12 (n := 15) rfl (x := 2576) (by decide) ?_
  refine q_iload_n C dX10_init_15 (n := 16) rfl rfl ?_
  refine q_iadd C dX10_init_16 (n := 17) rfl (v := ((2576 + n : Nat) : Int)) (by omega) ?_
  have hz7 := hz4.le (n2 := a + 1) (by omega)
  refine q_newB C dX10_init_17 (n := 19) rfl (N := 2576 + n) (q := a + 1) (by omega) (by omega) hlen hz7 ⟨by omega, by omega⟩ (fun T5 e6 => ?_)
  have hl8 : T5.length = a + 2 := zlen2 e6 hlen rfl rfl
  have hs9 : zsz T5 = zsz T + (0 + (2576 + n)) := zsz2 (l := 2576 + n) e6 hzs0 rfl (by omega)
  have ht10 := zlk2 e6 ht
  have la_1 := zlast2 e6 (q := a + 1) (by omega)
  refine q_putRF C dX10_init_19 (n := 22) rfl f_X10_15 ht10 rfl rfl (fun Cn Tn hq => by cases hq; rfl) ⟨rfl, rfl⟩ (fun R11 e12 => ?_)
  have hz13 := (hz7.le (n2 := a + 2) (by omega)).R e12 (by omega)
  refine q_aload_n C dX10_init_22 (n := 23) rfl rfl ?_
  refine q_getR C dX10_init_23 (n := 26) rfl f_X10_15 ht10 (zup_s e12) ?_
  refine q_sipush C dX10_init_26 (n := 29) rfl (x := 1694) (by decide) ?_
  refine q_bipush C dX10_init_29 (n := 31) rfl (x := 48) (by decide) ?_
  refine q_bast C dX10_init_31 (n := 32) rfl la_1 ⟨by omega, by omega, by omega⟩ (by decide) (fun M14 e15 => ?_)
  have hI16 : zI G M14 := hI3.put e15 ((hg.1) _) rfl (by omega)
  have hz17 := (hz13.le (n2 := a + 2) (by omega)).M e15 (by omega)
  refine q_aload_n C dX10_init_32 (n := 33) rfl rfl ?_
  refine q_getR C dX10_init_33 (n := 36) rfl f_X10_15 ht10 (zup_s e12) ?_
  refine q_sipush C dX10_init_36 (n := 39) rfl (x := 1695) (by decide) ?_
  refine q_bipush C dX10_init_39 (n := 41) rfl (x := 49) (by decide) ?_
  refine q_bast C dX10_init_41 (n := 42) rfl la_1 ⟨by omega, by omega, by omega⟩ (by decide) (fun M18 e19 => ?_)
  have hI20 : zI G M18 := hI16.put e19 ((hg.1) _) rfl (by omega)
  have hz21 := (hz17.le (n2 := a + 2) (by omega)).M e19 (by omega)
  refine q_vret C dX10_init_42 ⟨by omega, by omega⟩ ?_
  rw [hPo]
  refine ⟨rfl, M18, R11, ?_, hI20, hz21.le (by omega), ?_, ?_, ?_⟩
  · subst e6
    rw [eT]
    simp [zL10]
  · intro c q hc
    exact (zup_p e19 (by omega) _).trans ((zup_p e15 (by omega) _).trans (zup_p e2 (by omega) _))
  · intro c q hc
    exact zup_p e12 (by omega) _
  · exact zup_s e12
theorem n_X3 {w : zWp} {P : zTl} {M : zMm} {J : zJm} {R : zRm'} {G : zGt} {a : Nat} {t : Nat} {q : Nat} (hI : zI G M) (hP : P.length = a) (hz : zFr a M J R)  (p_t : t < a)  (p_q : q < a) : zCt w 1 14 (1072) yX3_init cX3_init 3 none [.ref (w.2.1 + a), .ref (w.2.1 + t), .ref (w.2.1 + q)] (P ++ [(3, 18)], M, J, R) (zPn G P zL3 a 15 M J R (fun R2 : zRm' => zN3 R2 a t q)) := by
  refine zCt.of rfl (Nat.le_of_ble_eq_true rfl) ?_
  intro p e s m args below meth c C
  obtain ⟨Po, hPo⟩ : ∃ Po, Po = (zPn G P zL3 a 15 M J R (fun R2 : zRm' => zN3 R2 a t q)) := ⟨_, rfl⟩
  rw [← hPo]
  obtain ⟨T, eT⟩ : ∃ T : zTl, T = P ++ [(3, 18)] := ⟨_, rfl⟩
  have ht := zlast2 eT hP
  have hlen : T.length = a + 1 := zlen2 eT hP rfl rfl
  rw [← eT]
  show zK w p e 1 14 (1072) s m args below meth c 3 T Po 0 [.ref (w.2.1 + a), .ref (w.2.1 + t), .ref (w.2.1 + q)] [] (T, M, J, R)
  clear hP
  have hzs0 : zsz T = zsz T + 0 := rfl
  refine q_aload_n C dX3_init_0 (n := 1) rfl rfl ?_
  refine q_objI C dX3_init_1 (n := 4) rfl mo_X3 (Nat.le_of_ble_eq_true rfl) (Nat.le_of_ble_eq_true rfl) ?_
  refine q_aload_n C dX3_init_4 (n := 5) rfl rfl ?_
  refine q_iconst C dX3_init_5 (n := 6) rfl ?_
  refine q_put0 C dX3_init_6 (n := 9) rfl f_X3_9 rfl ht ((hz a (Nat.le_refl _) 0).1) ⟨rfl, rfl⟩ ?_
  refine q_aload_n C dX3_init_9 (n := 10) rfl rfl ?_
  refine q_bipush C dX3_init_10 (n := 12) rfl (x := 12) (by decide) ?_
  have hz3 := hz.le (n2 := a + 1) (by omega)
  refine q_newI C dX3_init_12 (n := 14) rfl (N := 12) (q := a + 1) (by omega) (by omega) hlen hz3 ⟨by omega, by omega⟩ (fun T1 e2 => ?_)
  have hl4 : T1.length = a + 2 := zlen2 e2 hlen rfl rfl
  have hs5 : zsz T1 = zsz T + (12) := zsz2 (l := 12) e2 hzs0 rfl (by omega)
  have ht6 := zlk2 e2 ht
  refine q_putRF C dX3_init_14 (n := 17) rfl f_X3_15 ht6 rfl rfl (fun Cn Tn hq => by cases hq; rfl) ⟨rfl, rfl⟩ (fun R7 e8 => ?_)
  have hz9 := (hz3.le (n2 := a + 2) (by omega)).R e8 (by omega)
  refine q_aload_n C dX3_init_17 (n := 18) rfl rfl ?_
  refine q_bipush C dX3_init_18 (n := 20) rfl (x := 12) (by decide) ?_
  have hz12 := hz9.le (n2 := a + 2) (by omega)
  refine q_newI C dX3_init_20 (n := 22) rfl (N := 12) (q := a + 2) (by omega) (by omega) hl4 hz12 ⟨by omega, by omega⟩ (fun T10 e11 => ?_)
  have hl13 : T10.length = a + 3 := zlen2 e11 hl4 rfl rfl
  have hs14 : zsz T10 = zsz T + (24) := zsz2 (l := 12) e11 hs5 rfl (by omega)
  have ht15 := zlk2 e11 ht6
  clear hl4 hs5 ht6
  refine q_putRF C dX3_init_22 (n := 25) rfl f_X3_19 ht15 rfl rfl (fun Cn Tn hq => by cases hq; rfl) ⟨rfl, rfl⟩ (fun R16 e17 => ?_)
  have hz18 := (hz12.le (n2 := a + 3) (by omega)).R e17 (by omega)
  refine q_aload_n C dX3_init_25 (n := 26) rfl rfl ?_
  refine q_bipush C dX3_init_26 (n := 28) rfl (x := 12) (by decide) ?_
  have hz21 := hz18.le (n2 := a + 3) (by omega)
  refine q_newZ C dX3_init_28 (n := 30) rfl (N := 12) (q := a + 3) (by omega) (by omega) hl13 hz21 ⟨by omega, by omega⟩ (fun T19 e20 => ?_)
  have hl22 : T19.length = a + 4 := zlen2 e20 hl13 rfl rfl
  have hs23 : zsz T19 = zsz T + (36) := zsz2 (l := 12) e20 hs14 rfl (by omega)
  have ht24 := zlk2 e20 ht15
  clear hl13 hs14 ht15
  refine q_putRF C dX3_init_30 (n := 33) rfl f_X3_22 ht24 rfl rfl (fun Cn Tn hq => by cases hq; rfl) ⟨rfl, rfl⟩ (fun R25 e26 => ?_)
  have hz27 := (hz21.le (n2 := a + 4) (by omega)).R e26 (by omega)
  refine q_aload_n C dX3_init_33 (n := 34) rfl rfl ?_
  refine q_bipush C dX3_init_34 (n := 36) rfl (x := 12) (by decide) ?_
  have hz30 := hz27.le (n2 := a + 4) (by omega)
  refine q_newI C dX3_init_36 (n := 38) rfl (N := 12) (q := a + 4) (by omega) (by omega) hl22 hz30 ⟨by omega, by omega⟩ (fun T28 e29 => ?_)
  have hl31 : T28.length = a + 5 := zlen2 e29 hl22 rfl rfl
  have hs32 : zsz T28 = zsz T + (48) := zsz2 (l := 12) e29 hs23 rfl (by omega)
  have ht33 := zlk2 e29 ht24
  clear hl22 hs23 ht24
  refine q_putRF C dX3_init_38 (n := 41) rfl f_X3_26 ht33 rfl rfl (fun Cn Tn hq => by cases hq; rfl) ⟨rfl, rfl⟩ (fun R34 e35 => ?_)
  have hz36 := (hz30.le (n2 := a + 5) (by omega)).R e35 (by omega)
  refine q_aload_n C dX3_init_41 (n := 42) rfl rfl ?_
  refine q_bipush C dX3_init_42 (n := 44) rfl (x := 12) (by decide) ?_
  have hz39 := hz36.le (n2 := a + 5) (by omega)
  refine q_newI C dX3_init_44 (n := 46) rfl (N := 12) (q := a + 5) (by omega) (by omega) hl31 hz39 ⟨by omega, by omega⟩ (fun T37 e38 => ?_)
  have hl40 : T37.length = a + 6 := zlen2 e38 hl31 rfl rfl
  have hs41 : zsz T37 = zsz T + (60) := zsz2 (l := 12) e38 hs32 rfl (by omega)
  have ht42 := zlk2 e38 ht33
  clear hl31 hs32 ht33
  refine q_putRF C dX3_init_46 (n := 49) rfl f_X3_29 ht42 rfl rfl (fun Cn Tn hq => by cases hq; rfl) ⟨rfl, rfl⟩ (fun R43 e44 => ?_)
  have hz45 := (hz39.le (n2 := a + 6) (by omega)).R e44 (by omega)
  refine q_aload_n C dX3_init_49 (n := 50) rfl rfl ?_
  refine q_bipush C dX3_init_50 (n := 52) rfl (x := 12) (by decide) ?_
  have hz48 := hz45.le (n2 := a + 6) (by omega)
  refine q_newI C dX3_init_52 (n := 54) rfl (N := 12) (q := a + 6) (by omega) (by omega) hl40 hz48 ⟨by omega, by omega⟩ (fun T46 e47 => ?_)
  have hl49 : T46.length = a + 7 := zlen2 e47 hl40 rfl rfl
  have hs50 : zsz T46 = zsz T + (72) := zsz2 (l := 12) e47 hs41 rfl (by omega)
  have ht51 := zlk2 e47 ht42
  clear hl40 hs41 ht42
  refine q_putRF C dX3_init_54 (n := 57) rfl f_X3_32 ht51 rfl rfl (fun Cn Tn hq => by cases hq; rfl) ⟨rfl, rfl⟩ (fun R52 e53 => ?_)
  have hz54 := (hz48.le (n2 := a + 7) (by omega)).R e53 (by omega)
  refine q_aload_n C dX3_init_57 (n := 58) rfl rfl ?_
  refine q_bipush C dX3_init_58 (n := 60) rfl (x := 12) (by decide) ?_
  have hz57 := hz54.le (n2 := a + 7) (by omega)
  refine q_newI C dX3_init_60 (n := 62) rfl (N := 12) (q := a + 7) (by omega) (by omega) hl49 hz57 ⟨by omega, by omega⟩ (fun T55 e56 => ?_)
  have hl58 : T55.length = a + 8 := zlen2 e56 hl49 rfl rfl
  have hs59 : zsz T55 = zsz T + (84) := zsz2 (l := 12) e56 hs50 rfl (by omega)
  have ht60 := zlk2 e56 ht51
  clear hl49 hs50 ht51
  refine q_putRF C dX3_init_62 (n := 65) rfl f_X3_35 ht60 rfl rfl (fun Cn Tn hq => by cases hq; rfl) ⟨rfl, rfl⟩ (fun R61 e62 => ?_)
  have hz63 := (hz57.le (n2 := a + 8) (by omega)).R e62 (by omega)
  refine q_aload_n C dX3_init_65 (n := 66) rfl rfl ?_
  refine q_bipush C dX3_init_66 (n := 68) rfl (x := 12) (by decide) ?_
  have hz66 := hz63.le (n2 := a + 8) (by omega)
  refine q_newI C dX3_init_68 (n := 70) rfl (N := 12) (q := a + 8) (by omega) (by omega) hl58 hz66 ⟨by omega, by omega⟩ (fun T64 e65 => ?_)
  have hl67 : T64.length = a + 9 := zlen2 e65 hl58 rfl rfl
  have hs68 : zsz T64 = zsz T + (96) := zsz2 (l := 12) e65 hs59 rfl (by omega)
  have ht69 := zlk2 e65 ht60
  clear hl58 hs59 ht60
  refine q_putRF C dX3_init_70 (n := 73) rfl f_X3_38 ht69 rfl rfl (fun Cn Tn hq => by cases hq; rfl) ⟨rfl, rfl⟩ (fun R70 e71 => ?_)
  have hz72 := (hz66.le (n2 := a + 9) (by omega)).R e71 (by omega)
  refine q_aload_n C dX3_init_73 (n := 74) rfl rfl ?_
  refine q_bipush C dX3_init_74 (n := 76) rfl (x := 12) (by decide) ?_
  have hz75 := hz72.le (n2 := a + 9) (by omega)
  refine q_newI C dX3_init_76 (n := 78) rfl (N := 12) (q := a + 9) (by omega) (by omega) hl67 hz75 ⟨by omega, by omega⟩ (fun T73 e74 => ?_)
  have hl76 : T73.length = a + 10 := zlen2 e74 hl67 rfl rfl
  have hs77 : zsz T73 = zsz T + (108) := zsz2 (l := 12) e74 hs68 rfl (by omega)
  have ht78 := zlk2 e74 ht69
  clear hl67 hs68 ht69
  refine q_putRF C dX3_init_78 (n := 81) rfl f_X3_41 ht78 rfl rfl (fun Cn Tn hq => by cases hq; rfl) ⟨rfl, rfl⟩ (fun R79 e80 => ?_)
  have hz81 := (hz75.le (n2 := a + 10) (by omega)).R e80 (by omega)
  refine q_aload_n C dX3_init_81 (n := 82) rfl rfl ?_
  refine q_sipush C dX3_init_82 (n := 85) rfl (x := 240) (by decide) ?_
  have hz84 := hz81.le (n2 := a + 10) (by omega)
  refine q_newI C dX3_init_85 (n := 87) rfl (N := 240) (q := a + 10) (by omega) (by omega) hl76 hz84 ⟨by omega, by omega⟩ (fun T82 e83 => ?_)
  have hl85 : T82.length = a + 11 := zlen2 e83 hl76 rfl rfl
  have hs86 : zsz T82 = zsz T + (348) := zsz2 (l := 240) e83 hs77 rfl (by omega)
  have ht87 := zlk2 e83 ht78
  clear hl76 hs77 ht78
  refine q_putRF C dX3_init_87 (n := 90) rfl f_X3_44 ht87 rfl rfl (fun Cn Tn hq => by cases hq; rfl) ⟨rfl, rfl⟩ (fun R88 e89 => ?_)
  have hz90 := (hz84.le (n2 := a + 11) (by omega)).R e89 (by omega)
  refine q_aload_n C dX3_init_90 (n := 91) rfl rfl ?_
  refine q_sipush C dX3_init_91 (n := 94) rfl (x := 240) (by decide) ?_
  have hz93 := hz90.le (n2 := a + 11) (by omega)
  refine q_newI C dX3_init_94 (n := 96) rfl (N := 240) (q := a + 11) (by omega) (by omega) hl85 hz93 ⟨by omega, by omega⟩ (fun T91 e92 => ?_)
  have hl94 : T91.length = a + 12 := zlen2 e92 hl85 rfl rfl
  have hs95 : zsz T91 = zsz T + (588) := zsz2 (l := 240) e92 hs86 rfl (by omega)
  have ht96 := zlk2 e92 ht87
  clear hl85 hs86 ht87
  refine q_putRF C dX3_init_96 (n := 99) rfl f_X3_47 ht96 rfl rfl (fun Cn Tn hq => by cases hq; rfl) ⟨rfl, rfl⟩ (fun R97 e98 => ?_)
  have hz99 := (hz93.le (n2 := a + 12) (by omega)).R e98 (by omega)
  refine q_aload_n C dX3_init_99 (n := 100) rfl rfl ?_
  refine q_sipush C dX3_init_100 (n := 103) rfl (x := 240) (by decide) ?_
  have hz102 := hz99.le (n2 := a + 12) (by omega)
  refine q_newI C dX3_init_103 (n := 105) rfl (N := 240) (q := a + 12) (by omega) (by omega) hl94 hz102 ⟨by omega, by omega⟩ (fun T100 e101 => ?_)
  have hl103 : T100.length = a + 13 := zlen2 e101 hl94 rfl rfl
  have hs104 : zsz T100 = zsz T + (828) := zsz2 (l := 240) e101 hs95 rfl (by omega)
  have ht105 := zlk2 e101 ht96
  clear hl94 hs95 ht96
  refine q_putRF C dX3_init_105 (n := 108) rfl f_X3_50 ht105 rfl rfl (fun Cn Tn hq => by cases hq; rfl) ⟨rfl, rfl⟩ (fun R106 e107 => ?_)
  have hz108 := (hz102.le (n2 := a + 13) (by omega)).R e107 (by omega)
  refine q_aload_n C dX3_init_108 (n := 109) rfl rfl ?_
  refine q_sipush C dX3_init_109 (n := 112) rfl (x := 240) (by decide) ?_
  have hz111 := hz108.le (n2 := a + 13) (by omega)
  refine q_newI C dX3_init_112 (n := 114) rfl (N := 240) (q := a + 13) (by omega) (by omega) hl103 hz111 ⟨by omega, by omega⟩ (fun T109 e110 => ?_)
  have hl112 : T109.length = a + 14 := zlen2 e110 hl103 rfl rfl
  have hs113 : zsz T109 = zsz T + (1068) := zsz2 (l := 240) e110 hs104 rfl (by omega)
  have ht114 := zlk2 e110 ht105
  clear hl103 hs104 ht105
  refine q_putRF C dX3_init_114 (n := 117) rfl f_X3_53 ht114 rfl rfl (fun Cn Tn hq => by cases hq; rfl) ⟨rfl, rfl⟩ (fun R115 e116 => ?_)
  have hz117 := (hz111.le (n2 := a + 14) (by omega)).R e116 (by omega)
  refine q_aload_n C dX3_init_117 (n := 118) rfl rfl ?_
  refine q_iconst C dX3_init_118 (n := 119) rfl ?_
  have hz120 := hz117.le (n2 := a + 14) (by omega)
  refine q_newI C dX3_init_119 (n := 121) rfl (N := 4) (q := a + 14) (by omega) (by omega) hl112 hz120 ⟨by omega, by omega⟩ (fun T118 e119 => ?_)
  have hl121 : T118.length = a + 15 := zlen2 e119 hl112 rfl rfl
  have hs122 : zsz T118 = zsz T + (1072) := zsz2 (l := 4) e119 hs113 rfl (by omega)
  have ht123 := zlk2 e119 ht114
  clear hl112 hs113 ht114
  refine q_putRF C dX3_init_121 (n := 124) rfl f_X3_56 ht123 rfl rfl (fun Cn Tn hq => by cases hq; rfl) ⟨rfl, rfl⟩ (fun R124 e125 => ?_)
  have hz126 := (hz120.le (n2 := a + 15) (by omega)).R e125 (by omega)
  refine q_aload_n C dX3_init_124 (n := 125) rfl rfl ?_
  refine q_iconst C dX3_init_125 (n := 126) rfl ?_
  refine q_put0 C dX3_init_126 (n := 129) rfl f_X3_59 rfl ht123 ((hz a (Nat.le_refl _) 17).1) ⟨rfl, rfl⟩ ?_
  refine q_aload_n C dX3_init_129 (n := 130) rfl rfl ?_
  refine q_aload_n C dX3_init_130 (n := 131) rfl rfl ?_
  refine q_putRF C dX3_init_131 (n := 134) rfl f_X3_62 ht123 rfl rfl (fun Cn Tn hq => by cases hq; rfl) ⟨rfl, rfl⟩ (fun R127 e128 => ?_)
  have hz129 := (hz126.le (n2 := a + 15) (by omega)).R e128 (by omega)
  refine q_aload_n C dX3_init_134 (n := 135) rfl rfl ?_
  refine q_aload_n C dX3_init_135 (n := 136) rfl rfl ?_
  refine q_putRF C dX3_init_136 (n := 139) rfl f_X3_66 ht123 rfl rfl (fun Cn Tn hq => by cases hq; rfl) ⟨rfl, rfl⟩ (fun R130 e131 => ?_)
  have hz132 := (hz129.le (n2 := a + 15) (by omega)).R e131 (by omega)
  refine q_vret C dX3_init_139 ⟨by omega, by omega⟩ ?_
  rw [hPo]
  refine ⟨rfl, M, R130, ?_, hI, hz132.le (by omega), ?_, ?_, ?_⟩
  · subst e119 e110 e101 e92 e83 e74 e65 e56 e47 e38 e29 e20 e11 e2
    rw [eT]
    simp [zL3]
  · intro c q hc
    exact rfl
  · intro c q hc
    exact (zup_p e131 (by omega) _).trans ((zup_p e128 (by omega) _).trans ((zup_p e125 (by omega) _).trans ((zup_p e116 (by omega) _).trans ((zup_p e107 (by omega) _).trans ((zup_p e98 (by omega) _).trans ((zup_p e89 (by omega) _).trans ((zup_p e80 (by omega) _).trans ((zup_p e71 (by omega) _).trans ((zup_p e62 (by omega) _).trans ((zup_p e53 (by omega) _).trans ((zup_p e44 (by omega) _).trans ((zup_p e35 (by omega) _).trans ((zup_p e26 (by omega) _).trans ((zup_p e17 (by omega) _).trans (zup_p e8 (by omega) _)))))))))))))))
  · exact ⟨(zup_n e131 (fun z => absurd z.2 (by decide))).trans ((zup_n e128 (fun z => absurd z.2 (by decide))).trans ((zup_n e125 (fun z => absurd z.2 (by decide))).trans ((zup_n e116 (fun z => absurd z.2 (by decide))).trans ((zup_n e107 (fun z => absurd z.2 (by decide))).trans ((zup_n e98 (fun z => absurd z.2 (by decide))).trans ((zup_n e89 (fun z => absurd z.2 (by decide))).trans ((zup_n e80 (fun z => absurd z.2 (by decide))).trans ((zup_n e71 (fun z => absurd z.2 (by decide))).trans ((zup_n e62 (fun z => absurd z.2 (by decide))).trans ((zup_n e53 (fun z => absurd z.2 (by decide))).trans ((zup_n e44 (fun z => absurd z.2 (by decide))).trans ((zup_n e35 (fun z => absurd z.2 (by decide))).trans ((zup_n e26 (fun z => absurd z.2 (by decide))).trans ((zup_n e17 (fun z => absurd z.2 (by decide))).trans (zup_s e8))))))))))))))), (zup_n e131 (fun z => absurd z.2 (by decide))).trans ((zup_n e128 (fun z => absurd z.2 (by decide))).trans ((zup_n e125 (fun z => absurd z.2 (by decide))).trans ((zup_n e116 (fun z => absurd z.2 (by decide))).trans ((zup_n e107 (fun z => absurd z.2 (by decide))).trans ((zup_n e98 (fun z => absurd z.2 (by decide))).trans ((zup_n e89 (fun z => absurd z.2 (by decide))).trans ((zup_n e80 (fun z => absurd z.2 (by decide))).trans ((zup_n e71 (fun z => absurd z.2 (by decide))).trans ((zup_n e62 (fun z => absurd z.2 (by decide))).trans ((zup_n e53 (fun z => absurd z.2 (by decide))).trans ((zup_n e44 (fun z => absurd z.2 (by decide))).trans ((zup_n e35 (fun z => absurd z.2 (by decide))).trans ((zup_n e26 (fun z => absurd z.2 (by decide))).trans (zup_s e17)))))))))))))), (zup_n e131 (fun z => absurd z.2 (by decide))).trans ((zup_n e128 (fun z => absurd z.2 (by decide))).trans ((zup_n e125 (fun z => absurd z.2 (by decide))).trans ((zup_n e116 (fun z => absurd z.2 (by decide))).trans ((zup_n e107 (fun z => absurd z.2 (by decide))).trans ((zup_n e98 (fun z => absurd z.2 (by decide))).trans ((zup_n e89 (fun z => absurd z.2 (by decide))).trans ((zup_n e80 (fun z => absurd z.2 (by decide))).trans ((zup_n e71 (fun z => absurd z.2 (by decide))).trans ((zup_n e62 (fun z => absurd z.2 (by decide))).trans ((zup_n e53 (fun z => absurd z.2 (by decide))).trans ((zup_n e44 (fun z => absurd z.2 (by decide))).trans ((zup_n e35 (fun z => absurd z.2 (by decide))).trans (zup_s e26))))))))))))), (zup_n e131 (fun z => absurd z.2 (by decide))).trans ((zup_n e128 (fun z => absurd z.2 (by decide))).trans ((zup_n e125 (fun z => absurd z.2 (by decide))).trans ((zup_n e116 (fun z => absurd z.2 (by decide))).trans ((zup_n e107 (fun z => absurd z.2 (by decide))).trans ((zup_n e98 (fun z => absurd z.2 (by decide))).trans ((zup_n e89 (fun z => absurd z.2 (by decide))).trans ((zup_n e80 (fun z => absurd z.2 (by decide))).trans ((zup_n e71 (fun z => absurd z.2 (by decide))).trans ((zup_n e62 (fun z => absurd z.2 (by decide))).trans ((zup_n e53 (fun z => absurd z.2 (by decide))).trans ((zup_n e44 (fun z => absurd z.2 (by decide))).trans (zup_s e35)))))))))))), (zup_n e131 (fun z => absurd z.2 (by decide))).trans ((zup_n e128 (fun z => absurd z.2 (by decide))).trans ((zup_n e125 (fun z => absurd z.2 (by decide))).trans ((zup_n e116 (fun z => absurd z.2 (by decide))).trans ((zup_n e107 (fun z => absurd z.2 (by decide))).trans ((zup_n e98 (fun z => absurd z.2 (by decide))).trans ((zup_n e89 (fun z => absurd z.2 (by decide))).trans ((zup_n e80 (fun z => absurd z.2 (by decide))).trans ((zup_n e71 (fun z => absurd z.2 (by decide))).trans ((zup_n e62 (fun z => absurd z.2 (by decide))).trans ((zup_n e53 (fun z => absurd z.2 (by decide))).trans (zup_s e44))))))))))), (zup_n e131 (fun z => absurd z.2 (by decide))).trans ((zup_n e128 (fun z => absurd z.2 (by decide))).trans ((zup_n e125 (fun z => absurd z.2 (by decide))).trans ((zup_n e116 (fun z => absurd z.2 (by decide))).trans ((zup_n e107 (fun z => absurd z.2 (by decide))).trans ((zup_n e98 (fun z => absurd z.2 (by decide))).trans ((zup_n e89 (fun z => absurd z.2 (by decide))).trans ((zup_n e80 (fun z => absurd z.2 (by decide))).trans ((zup_n e71 (fun z => absurd z.2 (by decide))).trans ((zup_n e62 (fun z => absurd z.2 (by decide))).trans (zup_s e53)))))))))), (zup_n e131 (fun z => absurd z.2 (by decide))).trans ((zup_n e128 (fun z => absurd z.2 (by decide))).trans ((zup_n e125 (fun z => absurd z.2 (by decide))).trans ((zup_n e116 (fun z => absurd z.2 (by decide))).trans ((zup_n e107 (fun z => absurd z.2 (by decide))).trans ((zup_n e98 (fun z => absurd z.2 (by decide))).trans ((zup_n e89 (fun z => absurd z.2 (by decide))).trans ((zup_n e80 (fun z => absurd z.2 (by decide))).trans ((zup_n e71 (fun z => absurd z.2 (by decide))).trans (zup_s e62))))))))), (zup_n e131 (fun z => absurd z.2 (by decide))).trans ((zup_n e128 (fun z => absurd z.2 (by decide))).trans ((zup_n e125 (fun z => absurd z.2 (by decide))).trans ((zup_n e116 (fun z => absurd z.2 (by decide))).trans ((zup_n e107 (fun z => absurd z.2 (by decide))).trans ((zup_n e98 (fun z => absurd z.2 (by decide))).trans ((zup_n e89 (fun z => absurd z.2 (by decide))).trans ((zup_n e80 (fun z => absurd z.2 (by decide))).trans (zup_s e71)))))))), (zup_n e131 (fun z => absurd z.2 (by decide))).trans ((zup_n e128 (fun z => absurd z.2 (by decide))).trans ((zup_n e125 (fun z => absurd z.2 (by decide))).trans ((zup_n e116 (fun z => absurd z.2 (by decide))).trans ((zup_n e107 (fun z => absurd z.2 (by decide))).trans ((zup_n e98 (fun z => absurd z.2 (by decide))).trans ((zup_n e89 (fun z => absurd z.2 (by decide))).trans (zup_s e80))))))), (zup_n e131 (fun z => absurd z.2 (by decide))).trans ((zup_n e128 (fun z => absurd z.2 (by decide))).trans ((zup_n e125 (fun z => absurd z.2 (by decide))).trans ((zup_n e116 (fun z => absurd z.2 (by decide))).trans ((zup_n e107 (fun z => absurd z.2 (by decide))).trans ((zup_n e98 (fun z => absurd z.2 (by decide))).trans (zup_s e89)))))), (zup_n e131 (fun z => absurd z.2 (by decide))).trans ((zup_n e128 (fun z => absurd z.2 (by decide))).trans ((zup_n e125 (fun z => absurd z.2 (by decide))).trans ((zup_n e116 (fun z => absurd z.2 (by decide))).trans ((zup_n e107 (fun z => absurd z.2 (by decide))).trans (zup_s e98))))), (zup_n e131 (fun z => absurd z.2 (by decide))).trans ((zup_n e128 (fun z => absurd z.2 (by decide))).trans ((zup_n e125 (fun z => absurd z.2 (by decide))).trans ((zup_n e116 (fun z => absurd z.2 (by decide))).trans (zup_s e107)))), (zup_n e131 (fun z => absurd z.2 (by decide))).trans ((zup_n e128 (fun z => absurd z.2 (by decide))).trans ((zup_n e125 (fun z => absurd z.2 (by decide))).trans (zup_s e116))), (zup_n e131 (fun z => absurd z.2 (by decide))).trans ((zup_n e128 (fun z => absurd z.2 (by decide))).trans (zup_s e125)), (zup_n e131 (fun z => absurd z.2 (by decide))).trans (zup_s e128), zup_s e131⟩
theorem n_X9 {w : zWp} {P : zTl} {M : zMm} {J : zJm} {R : zRm'} {G : zGt} {a : Nat} {t : Nat} {q : Nat} {L : Nat} (hI : zI G M) (hP : P.length = a) (hz : zFr a M J R) (hg : zG9 G a L)  (p_t : t < a)  (p_q : q < a) : zCt w 1 2 (6880) yX9_init cX9_init 3 none [.ref (w.2.1 + a), .ref (w.2.1 + t), .ref (w.2.1 + q)] (P ++ [(9, 8)], M, J, R) (zPn G P zL9 a 3 M J R (fun R2 : zRm' => zN9 R2 a t q)) := by
  refine zCt.of rfl (Nat.le_of_ble_eq_true rfl) ?_
  intro p e s m args below meth c C
  obtain ⟨Po, hPo⟩ : ∃ Po, Po = (zPn G P zL9 a 3 M J R (fun R2 : zRm' => zN9 R2 a t q)) := ⟨_, rfl⟩
  rw [← hPo]
  obtain ⟨T, eT⟩ : ∃ T : zTl, T = P ++ [(9, 8)] := ⟨_, rfl⟩
  have ht := zlast2 eT hP
  have hlen : T.length = a + 1 := zlen2 eT hP rfl rfl
  rw [← eT]
  show zK w p e 1 2 (6880) s m args below meth c 3 T Po 0 [.ref (w.2.1 + a), .ref (w.2.1 + t), .ref (w.2.1 + q)] [] (T, M, J, R)
  clear hP
  have hzs0 : zsz T = zsz T + 0 := rfl
  refine q_aload_n C dX9_init_0 (n := 1) rfl rfl ?_
  refine q_objI C dX9_init_1 (n := 4) rfl mo_X9 (Nat.le_of_ble_eq_true rfl) (Nat.le_of_ble_eq_true rfl) ?_
  refine q_aload_n C dX9_init_4 (n := 5) rfl rfl ?_
  refine q_sipush C dX9_init_5 (n := 8) rfl (x := 3440) (by decide) ?_
  have hz3 := hz.le (n2 := a + 1) (by omega)
  refine q_newI C dX9_init_8 (n := 10) rfl (N := 3440) (q := a + 1) (by omega) (by omega) hlen hz3 ⟨by omega, by omega⟩ (fun T1 e2 => ?_)
  have hl4 : T1.length = a + 2 := zlen2 e2 hlen rfl rfl
  have hs5 : zsz T1 = zsz T + (3440) := zsz2 (l := 3440) e2 hzs0 rfl (by omega)
  have ht6 := zlk2 e2 ht
  refine q_putRF C dX9_init_10 (n := 13) rfl f_X9_9 ht6 rfl rfl (fun Cn Tn hq => by cases hq; rfl) ⟨rfl, rfl⟩ (fun R7 e8 => ?_)
  have hz9 := (hz3.le (n2 := a + 2) (by omega)).R e8 (by omega)
  refine q_aload_n C dX9_init_13 (n := 14) rfl rfl ?_
  refine q_sipush C dX9_init_14 (n := 17) rfl (x := 3440) (by decide) ?_
  have hz12 := hz9.le (n2 := a + 2) (by omega)
  refine q_newJ C dX9_init_17 (n := 19) rfl (N := 3440) (q := a + 2) (by omega) (by omega) hl4 hz12 ⟨by omega, by omega⟩ (fun T10 e11 => ?_)
  have hl13 : T10.length = a + 3 := zlen2 e11 hl4 rfl rfl
  have hs14 : zsz T10 = zsz T + (6880) := zsz2 (l := 3440) e11 hs5 rfl (by omega)
  have ht15 := zlk2 e11 ht6
  clear hl4 hs5 ht6
  refine q_putRF C dX9_init_19 (n := 22) rfl f_X9_15 ht15 rfl rfl (fun Cn Tn hq => by cases hq; rfl) ⟨rfl, rfl⟩ (fun R16 e17 => ?_)
  have hz18 := (hz12.le (n2 := a + 3) (by omega)).R e17 (by omega)
  refine q_aload_n C dX9_init_22 (n := 23) rfl rfl ?_
  refine q_iconst C dX9_init_23 (n := 24) rfl ?_
  refine q_put0 C dX9_init_24 (n := 27) rfl f_X9_19 rfl ht15 ((hz a (Nat.le_refl _) 5).1) ⟨rfl, rfl⟩ ?_
  refine q_aload_n C dX9_init_27 (n := 28) rfl rfl ?_
  refine q_iconst C dX9_init_28 (n := 29) rfl ?_
  refine q_putI C dX9_init_29 (n := 32) rfl f_X9_23 ht15 ⟨rfl, rfl⟩ (fun M19 e20 => ?_)
  have hI21 : zI G M19 := hI.put e20 (hg.2.2.1) rfl (by omega)
  have hz22 := (hz18.le (n2 := a + 3) (by omega)).M e20 (by omega)
  refine q_aload_n C dX9_init_32 (n := 33) rfl rfl ?_
  refine q_iconst C dX9_init_33 (n := 34) rfl ?_
  refine q_putI C dX9_init_34 (n := 37) rfl f_X9_26 ht15 ⟨rfl, rfl⟩ (fun M23 e24 => ?_)
  have hI25 : zI G M23 := hI21.put e24 (hg.2.2.2) rfl (by omega)
  have hz26 := (hz22.le (n2 := a + 3) (by omega)).M e24 (by omega)
  refine q_aload_n C dX9_init_37 (n := 38) rfl rfl ?_
  refine q_aload_n C dX9_init_38 (n := 39) rfl rfl ?_
  refine q_putRF C dX9_init_39 (n := 42) rfl f_X9_29 ht15 rfl rfl (fun Cn Tn hq => by cases hq; rfl) ⟨rfl, rfl⟩ (fun R27 e28 => ?_)
  have hz29 := (hz26.le (n2 := a + 3) (by omega)).R e28 (by omega)
  refine q_aload_n C dX9_init_42 (n := 43) rfl rfl ?_
  refine q_aload_n C dX9_init_43 (n := 44) rfl rfl ?_
  refine q_putRF C dX9_init_44 (n := 47) rfl f_X9_33 ht15 rfl rfl (fun Cn Tn hq => by cases hq; rfl) ⟨rfl, rfl⟩ (fun R30 e31 => ?_)
  have hz32 := (hz29.le (n2 := a + 3) (by omega)).R e31 (by omega)
  refine q_vret C dX9_init_47 ⟨by omega, by omega⟩ ?_
  rw [hPo]
  refine ⟨rfl, M23, R30, ?_, hI25, hz32.le (by omega), ?_, ?_, ?_⟩
  · subst e11 e2
    rw [eT]
    simp [zL9]
  · intro c q hc
    exact (zup_p e24 (by omega) _).trans (zup_p e20 (by omega) _)
  · intro c q hc
    exact (zup_p e31 (by omega) _).trans ((zup_p e28 (by omega) _).trans ((zup_p e17 (by omega) _).trans (zup_p e8 (by omega) _)))
  · exact ⟨(zup_n e31 (fun z => absurd z.2 (by decide))).trans ((zup_n e28 (fun z => absurd z.2 (by decide))).trans ((zup_n e17 (fun z => absurd z.2 (by decide))).trans (zup_s e8))), (zup_n e31 (fun z => absurd z.2 (by decide))).trans ((zup_n e28 (fun z => absurd z.2 (by decide))).trans (zup_s e17)), (zup_n e31 (fun z => absurd z.2 (by decide))).trans (zup_s e28), zup_s e31⟩
theorem n_X2 {w : zWp} {P : zTl} {M : zMm} {J : zJm} {R : zRm'} {G : zGt} {a : Nat}  {L : Nat} (hI : zI G M) (hP : P.length = a) (hz : zFr a M J R) (hg : zG2 G a L)  : zCt w 2 6 (108) yX2_init cX2_init 1 none [.ref (w.2.1 + a)] (P ++ [(2, 18)], M, J, R) (zPn G P zL2 a 7 M J R (fun R2 : zRm' => zN2 R2 a)) := by
  refine zCt.of rfl (Nat.le_of_ble_eq_true rfl) ?_
  intro p e s m args below meth c C
  obtain ⟨Po, hPo⟩ : ∃ Po, Po = (zPn G P zL2 a 7 M J R (fun R2 : zRm' => zN2 R2 a)) := ⟨_, rfl⟩
  rw [← hPo]
  obtain ⟨T, eT⟩ : ∃ T : zTl, T = P ++ [(2, 18)] := ⟨_, rfl⟩
  have ht := zlast2 eT hP
  have hlen : T.length = a + 1 := zlen2 eT hP rfl rfl
  rw [← eT]
  show zK w p e 2 6 (108) s m args below meth c 1 T Po 0 [.ref (w.2.1 + a)] [] (T, M, J, R)
  clear hP
  have hzs0 : zsz T = zsz T + 0 := rfl
  refine q_aload_n C dX2_init_0 (n := 1) rfl rfl ?_
  refine q_objI C dX2_init_1 (n := 4) rfl mo_X2 (Nat.le_of_ble_eq_true rfl) (Nat.le_of_ble_eq_true rfl) ?_
  refine q_aload_n C dX2_init_4 (n := 5) rfl rfl ?_
  refine q_iconst C dX2_init_5 (n := 6) rfl ?_
  refine q_putI C dX2_init_6 (n := 9) rfl f_X2_9 ht ⟨rfl, rfl⟩ (fun M1 e2 => ?_)
  have hI3 : zI G M1 := hI.put e2 (hg.1) rfl (by omega)
  have hz4 := (hz.le (n2 := a + 1) (by omega)).M e2 (by omega)
  refine q_aload_n C dX2_init_9 (n := 10) rfl rfl ?_
  refine q_iconst C dX2_init_10 (n := 11) rfl ?_
  refine q_putI C dX2_init_11 (n := 14) rfl f_X2_15 ht ⟨rfl, rfl⟩ (fun M5 e6 => ?_)
  have hI7 : zI G M5 := hI3.put e6 (hg.2.1) rfl (by omega)
  have hz8 := (hz4.le (n2 := a + 1) (by omega)).M e6 (by omega)
  refine q_aload_n C dX2_init_14 (n := 15) rfl rfl ?_
  refine q_iconst C dX2_init_15 (n := 16) rfl ?_
  refine q_put0 C dX2_init_16 (n := 19) rfl f_X2_18 rfl ht ((zup_n e6 (by omega)).trans ((zup_n e2 (by omega)).trans ((hz a (Nat.le_refl _) 2).1))) ⟨rfl, rfl⟩ ?_
  refine q_aload_n C dX2_init_19 (n := 20) rfl rfl ?_
  refine q_iconst C dX2_init_20 (n := 21) rfl ?_
  refine q_putI C dX2_init_21 (n := 24) rfl f_X2_22 ht ⟨rfl, rfl⟩ (fun M9 e10 => ?_)
  have hI11 : zI G M9 := hI7.put e10 (hg.2.2.2.1) rfl (by omega)
  have hz12 := (hz8.le (n2 := a + 1) (by omega)).M e10 (by omega)
  refine q_aload_n C dX2_init_24 (n := 25) rfl rfl ?_
  refine q_iconst C dX2_init_25 (n := 26) rfl ?_
  refine q_put0 C dX2_init_26 (n := 29) rfl f_X2_25 rfl ht ((zup_n e10 (by omega)).trans ((zup_n e6 (by omega)).trans ((zup_n e2 (by omega)).trans ((hz a (Nat.le_refl _) 4).1)))) ⟨rfl, rfl⟩ ?_
  refine q_aload_n C dX2_init_29 (n := 30) rfl rfl ?_
  refine q_iconst C dX2_init_30 (n := 31) rfl ?_
  refine q_put0 C dX2_init_31 (n := 34) rfl f_X2_28 rfl ht ((zup_n e10 (by omega)).trans ((zup_n e6 (by omega)).trans ((zup_n e2 (by omega)).trans ((hz a (Nat.le_refl _) 5).1)))) ⟨rfl, rfl⟩ ?_
  refine q_aload_n C dX2_init_34 (n := 35) rfl rfl ?_
  refine q_iconst C dX2_init_35 (n := 36) rfl ?_
  refine q_put0 C dX2_init_36 (n := 39) rfl f_X2_31 rfl ht ((zup_n e10 (by omega)).trans ((zup_n e6 (by omega)).trans ((zup_n e2 (by omega)).trans ((hz a (Nat.le_refl _) 6).1)))) ⟨rfl, rfl⟩ ?_
  refine q_aload_n C dX2_init_39 (n := 40) rfl rfl ?_
  refine q_iconst C dX2_init_40 (n := 41) rfl ?_
  refine q_putI C dX2_init_41 (n := 44) rfl f_X2_34 ht ⟨rfl, rfl⟩ (fun M13 e14 => ?_)
  have hI15 : zI G M13 := hI11.put e14 (hg.2.2.2.2.2.2.2.1) rfl (by omega)
  have hz16 := (hz12.le (n2 := a + 1) (by omega)).M e14 (by omega)
  refine q_aload_n C dX2_init_44 (n := 45) rfl rfl ?_
  refine q_iconst C dX2_init_45 (n := 46) rfl ?_
  refine q_put0 C dX2_init_46 (n := 49) rfl f_X2_37 rfl ht ((zup_n e14 (by omega)).trans ((zup_n e10 (by omega)).trans ((zup_n e6 (by omega)).trans ((zup_n e2 (by omega)).trans ((hz a (Nat.le_refl _) 8).1))))) ⟨rfl, rfl⟩ ?_
  refine q_aload_n C dX2_init_49 (n := 50) rfl rfl ?_
  refine q_iconst C dX2_init_50 (n := 51) rfl ?_
  have hz19 := hz16.le (n2 := a + 1) (by omega)
  refine q_newI C dX2_init_51 (n := 53) rfl (N := 4) (q := a + 1) (by omega) (by omega) hlen hz19 ⟨by omega, by omega⟩ (fun T17 e18 => ?_)
  have hl20 : T17.length = a + 2 := zlen2 e18 hlen rfl rfl
  have hs21 : zsz T17 = zsz T + (4) := zsz2 (l := 4) e18 hzs0 rfl (by omega)
  have ht22 := zlk2 e18 ht
  refine q_putRF C dX2_init_53 (n := 56) rfl f_X2_40 ht22 rfl rfl (fun Cn Tn hq => by cases hq; rfl) ⟨rfl, rfl⟩ (fun R23 e24 => ?_)
  have hz25 := (hz19.le (n2 := a + 2) (by omega)).R e24 (by omega)
  refine q_aload_n C dX2_init_56 (n := 57) rfl rfl ?_
  refine q_iconst C dX2_init_57 (n := 58) rfl ?_
  have hz28 := hz25.le (n2 := a + 2) (by omega)
  refine q_newI C dX2_init_58 (n := 60) rfl (N := 4) (q := a + 2) (by omega) (by omega) hl20 hz28 ⟨by omega, by omega⟩ (fun T26 e27 => ?_)
  have hl29 : T26.length = a + 3 := zlen2 e27 hl20 rfl rfl
  have hs30 : zsz T26 = zsz T + (8) := zsz2 (l := 4) e27 hs21 rfl (by omega)
  have ht31 := zlk2 e27 ht22
  clear hl20 hs21 ht22
  refine q_putRF C dX2_init_60 (n := 63) rfl f_X2_44 ht31 rfl rfl (fun Cn Tn hq => by cases hq; rfl) ⟨rfl, rfl⟩ (fun R32 e33 => ?_)
  have hz34 := (hz28.le (n2 := a + 3) (by omega)).R e33 (by omega)
  refine q_aload_n C dX2_init_63 (n := 64) rfl rfl ?_
  have hz37 := hz34.le (n2 := a + 3) (by omega)
  refine q_new C dX2_init_64 (n := 67) rfl (q := a + 3) nw_X2_47 hl29 hz37 ⟨by omega, by omega⟩ (fun T35 e36 => ?_)
  have hl38 : T35.length = a + 4 := zlen2 e36 hl29 rfl rfl
  have hs39 : zsz T35 = zsz T + (8 + 4) := zsz2 (l := 4) e36 hs30 rfl (by omega)
  have ht40 := zlk2 e36 ht31
  refine q_dup C dX2_init_67 (n := 68) rfl rfl ?_
  refine q_bipush C dX2_init_68 (n := 70) rfl (x := 32) (by decide) ?_
  refine q_ctor C dX2_init_70 (n := 73) rfl m_X2_49 i_yX5_init e36 (n_X5 (n := 32) hI15 hl29 hz37 (by omega)) (Nat.le_of_ble_eq_true rfl) rfl rfl (Nat.le_of_ble_eq_true rfl) ⟨by omega, by omega⟩ (fun T41 M42 R43 e44 hI45 hz46 hm47 hr48 hE49 => ?_)
  clear hl38 hs39
  have hl50 : T41.length = a + 7 := zlen2 e44 hl29 (zL5_len _) rfl
  have hs51 : zsz T41 = zsz T + (108) := zsz2 e44 hs30 (zL5_sz _) (by omega)
  have ht52 := zlk2 e44 ht31
  clear hl29 hs30 ht31
  refine q_putRF C dX2_init_73 (n := 76) rfl f_X2_52 ht52 rfl rfl (fun Cn Tn hq => by cases hq; rfl) ⟨rfl, rfl⟩ (fun R53 e54 => ?_)
  have hz55 := (hz46.le (n2 := a + 7) (by omega)).R e54 (by omega)
  refine q_aload_n C dX2_init_76 (n := 77) rfl rfl ?_
  refine q_iconst C dX2_init_77 (n := 78) rfl ?_
  refine q_put0 C dX2_init_78 (n := 81) rfl f_X2_56 rfl ht52 ((hm47 _ _ (by omega)).trans ((zup_n e14 (by omega)).trans ((zup_n e10 (by omega)).trans ((zup_n e6 (by omega)).trans ((zup_n e2 (by omega)).trans ((hz a (Nat.le_refl _) 12).1)))))) ⟨rfl, rfl⟩ ?_
  refine q_aload_n C dX2_init_81 (n := 82) rfl rfl ?_
  refine q_iconst C dX2_init_82 (n := 83) rfl ?_
  refine q_put0 C dX2_init_83 (n := 86) rfl f_X2_59 rfl ht52 ((hm47 _ _ (by omega)).trans ((zup_n e14 (by omega)).trans ((zup_n e10 (by omega)).trans ((zup_n e6 (by omega)).trans ((zup_n e2 (by omega)).trans ((hz a (Nat.le_refl _) 13).1)))))) ⟨rfl, rfl⟩ ?_
  refine q_aload_n C dX2_init_86 (n := 87) rfl rfl ?_
  refine q_iconst C dX2_init_87 (n := 88) rfl ?_
  refine q_put0 C dX2_init_88 (n := 91) rfl f_X2_62 rfl ht52 ((hm47 _ _ (by omega)).trans ((zup_n e14 (by omega)).trans ((zup_n e10 (by omega)).trans ((zup_n e6 (by omega)).trans ((zup_n e2 (by omega)).trans ((hz a (Nat.le_refl _) 14).1)))))) ⟨rfl, rfl⟩ ?_
  refine q_aload_n C dX2_init_91 (n := 92) rfl rfl ?_
  refine q_iconst C dX2_init_92 (n := 93) rfl ?_
  refine q_put0 C dX2_init_93 (n := 96) rfl f_X2_65 rfl ht52 ((hm47 _ _ (by omega)).trans ((zup_n e14 (by omega)).trans ((zup_n e10 (by omega)).trans ((zup_n e6 (by omega)).trans ((zup_n e2 (by omega)).trans ((hz a (Nat.le_refl _) 15).1)))))) ⟨rfl, rfl⟩ ?_
  refine q_aload_n C dX2_init_96 (n := 97) rfl rfl ?_
  refine q_iconst C dX2_init_97 (n := 98) rfl ?_
  refine q_put0 C dX2_init_98 (n := 101) rfl f_X2_68 rfl ht52 ((hm47 _ _ (by omega)).trans ((zup_n e14 (by omega)).trans ((zup_n e10 (by omega)).trans ((zup_n e6 (by omega)).trans ((zup_n e2 (by omega)).trans ((hz a (Nat.le_refl _) 16).1)))))) ⟨rfl, rfl⟩ ?_
  refine q_aload_n C dX2_init_101 (n := 102) rfl rfl ?_
  refine q_iconst C dX2_init_102 (n := 103) rfl ?_
  refine q_put0 C dX2_init_103 (n := 106) rfl f_X2_71 rfl ht52 ((hm47 _ _ (by omega)).trans ((zup_n e14 (by omega)).trans ((zup_n e10 (by omega)).trans ((zup_n e6 (by omega)).trans ((zup_n e2 (by omega)).trans ((hz a (Nat.le_refl _) 17).1)))))) ⟨rfl, rfl⟩ ?_
  refine q_vret C dX2_init_106 ⟨by omega, by omega⟩ ?_
  rw [hPo]
  refine ⟨rfl, M42, R53, ?_, hI45, hz55.le (by omega), ?_, ?_, ?_⟩
  · subst e44 e27 e18
    rw [eT]
    simp [zL2]
  · intro c q hc
    exact (hm47 _ _ (by omega)).trans ((zup_p e14 (by omega) _).trans ((zup_p e10 (by omega) _).trans ((zup_p e6 (by omega) _).trans (zup_p e2 (by omega) _))))
  · intro c q hc
    exact (zup_p e54 (by omega) _).trans ((hr48 _ _ (by omega)).trans ((zup_p e33 (by omega) _).trans (zup_p e24 (by omega) _)))
  · exact ⟨(zup_n e54 (fun z => absurd z.2 (by decide))).trans ((hr48 _ _ (by omega)).trans ((zup_n e33 (fun z => absurd z.2 (by decide))).trans (zup_s e24))), (zup_n e54 (fun z => absurd z.2 (by decide))).trans ((hr48 _ _ (by omega)).trans (zup_s e33)), zup_s e54, zN5.cg (fun c z h1 h2 => zup_p e54 (by omega) _) hE49⟩
