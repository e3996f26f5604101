theorem n_X7 {w : zWp} {P : zTl} {M : zMm} {J : zJm} {R : zRm'} {G : zGt} {a : Nat}  (hI : zI G M) (hP : P.length = a) (hz : zFr a M J R)  : zCt w 2 24 (2062) yX7_init cX7_init 2 none [.ref (w.2.1 + a)] (P ++ [(7, 7)], M, J, R) (zPn G P zL7 a 25 M J R (fun R2 : zRm' => zN7 R2 a)) := by
  refine zCt.of rfl (Nat.le_of_ble_eq_true rfl) ?_
  intro p e s m args below meth c C
  obtain ⟨Po, hPo⟩ : ∃ Po, Po = (zPn G P zL7 a 25 M J R (fun R2 : zRm' => zN7 R2 a)) := ⟨_, rfl⟩
  rw [← hPo]
  obtain ⟨T, eT⟩ : ∃ T : zTl, T = P ++ [(7, 7)] := ⟨_, rfl⟩
  have ht := zlast2 eT hP
  have hlen : T.length = a + 1 := zlen2 eT hP rfl rfl
  rw [← eT]
  show zK w p e 2 24 (2062) s m args below meth c 2 T Po 0 [.ref (w.2.1 + a), .null] [] (T, M, J, R)
  clear hP
  have hzs0 : zsz T = zsz T + 0 := rfl
  refine q_aload_n C dX7_init_0 (n := 1) rfl rfl ?_
  refine q_objI C dX7_init_1 (n := 4) rfl mo_X7 (Nat.le_of_ble_eq_true rfl) (Nat.le_of_ble_eq_true rfl) ?_
  refine q_aload_n C dX7_init_4 (n := 5) rfl rfl ?_
  refine q_iconst C dX7_init_5 (n := 6) rfl ?_
  have hz3 := hz.le (n2 := a + 1) (by omega)
  refine q_newQ C dX7_init_6 (n := 9) rfl (N := 4) (q := a + 1) (kd := 54) (Cn := RX4) (by omega) rfl cl_X7_9 (by decide +kernel) (by omega) (by omega) hlen hz3 ⟨by omega, by omega⟩ (fun T1 e2 => ?_)
  have laQ := zlast2 e2 hlen
  have hl4 : T1.length = a + 2 := zlen2 e2 hlen rfl rfl
  have hs5 : zsz T1 = zsz T + (4) := zsz2 (l := 4) e2 hzs0 rfl (by omega)
  have ht6 := zlk2 e2 ht
  refine q_putRF C dX7_init_9 (n := 12) rfl f_X7_11 ht6 rfl rfl (fun Cn Tn hq => by cases hq; rfl) ⟨rfl, rfl⟩ (fun R7 e8 => ?_)
  have hz9 := (hz3.le (n2 := a + 2) (by omega)).R e8 (by omega)
  refine q_aload_n C dX7_init_12 (n := 13) rfl rfl ?_
  refine q_iconst C dX7_init_13 (n := 14) rfl ?_
  refine q_bipush C dX7_init_14 (n := 16) rfl (x := 30) (by decide) ?_
  have hz16 := hz9.le (n2 := a + 2) (by omega)
  refine q_multi C dX7_init_16 cl_X7_17 (n := 20) rfl (q := a + 2) hl4 hz16 ⟨by omega, by omega⟩ (fun T10 R11 e12 hz15 hb13 hj14 => ?_)
  have hl17 : T10.length = a + 6 := zlen2 e12 hl4 rfl rfl
  have hs18 : zsz T10 = zsz T + (97) := zsz2 (l := 93) e12 hs5 rfl (by omega)
  have ht19 := zlk2 e12 ht6
  clear hl4 hs5 ht6
  refine q_putRF C dX7_init_20 (n := 23) rfl f_X7_19 ht19 rfl rfl (fun Cn Tn hq => by cases hq; rfl) ⟨rfl, rfl⟩ (fun R20 e21 => ?_)
  have hz22 := (hz15.le (n2 := a + 6) (by omega)).R e21 (by omega)
  refine q_aload_n C dX7_init_23 (n := 24) rfl rfl ?_
  refine q_iconst C dX7_init_24 (n := 25) rfl ?_
  have hz25 := hz22.le (n2 := a + 6) (by omega)
  refine q_newI C dX7_init_25 (n := 27) rfl (N := 3) (q := a + 6) (by omega) (by omega) hl17 hz25 ⟨by omega, by omega⟩ (fun T23 e24 => ?_)
  have hl26 : T23.length = a + 7 := zlen2 e24 hl17 rfl rfl
  have hs27 : zsz T23 = zsz T + (100) := zsz2 (l := 3) e24 hs18 rfl (by omega)
  have ht28 := zlk2 e24 ht19
  clear hl17 hs18 ht19
  refine q_putRF C dX7_init_27 (n := 30) rfl f_X7_22 ht28 rfl rfl (fun Cn Tn hq => by cases hq; rfl) ⟨rfl, rfl⟩ (fun R29 e30 => ?_)
  have hz31 := (hz25.le (n2 := a + 7) (by omega)).R e30 (by omega)
  refine q_aload_n C dX7_init_30 (n := 31) rfl rfl ?_
  refine q_iconst C dX7_init_31 (n := 32) rfl ?_
  refine q_put0 C dX7_init_32 (n := 35) rfl f_X7_26 rfl ht28 ((hz a (Nat.le_refl _) 3).1) ⟨rfl, rfl⟩ ?_
  refine q_aload_n C dX7_init_35 (n := 36) rfl rfl ?_
  refine q_iconst C dX7_init_36 (n := 37) rfl ?_
  refine q_put0 C dX7_init_37 (n := 40) rfl f_X7_30 rfl ht28 ((hz a (Nat.le_refl _) 4).1) ⟨rfl, rfl⟩ ?_
  refine q_aload_n C dX7_init_40 (n := 41) rfl rfl ?_
  refine q_iconst C dX7_init_41 (n := 42) rfl ?_
  have hz34 := hz31.le (n2 := a + 7) (by omega)
  refine q_newI C dX7_init_42 (n := 44) rfl (N := 3) (q := a + 7) (by omega) (by omega) hl26 hz34 ⟨by omega, by omega⟩ (fun T32 e33 => ?_)
  have hl35 : T32.length = a + 8 := zlen2 e33 hl26 rfl rfl
  have hs36 : zsz T32 = zsz T + (103) := zsz2 (l := 3) e33 hs27 rfl (by omega)
  have ht37 := zlk2 e33 ht28
  clear hl26 hs27 ht28
  refine q_putRF C dX7_init_44 (n := 47) rfl f_X7_33 ht37 rfl rfl (fun Cn Tn hq => by cases hq; rfl) ⟨rfl, rfl⟩ (fun R38 e39 => ?_)
  have hz40 := (hz34.le (n2 := a + 8) (by omega)).R e39 (by omega)
  refine q_aload_n C dX7_init_47 (n := 48) rfl rfl ?_
  refine q_iconst C dX7_init_48 (n := 49) rfl ?_
  have hz43 := hz40.le (n2 := a + 8) (by omega)
  refine q_newI C dX7_init_49 (n := 51) rfl (N := 3) (q := a + 8) (by omega) (by omega) hl35 hz43 ⟨by omega, by omega⟩ (fun T41 e42 => ?_)
  have hl44 : T41.length = a + 9 := zlen2 e42 hl35 rfl rfl
  have hs45 : zsz T41 = zsz T + (106) := zsz2 (l := 3) e42 hs36 rfl (by omega)
  have ht46 := zlk2 e42 ht37
  clear hl35 hs36 ht37
  refine q_putRF C dX7_init_51 (n := 54) rfl f_X7_36 ht46 rfl rfl (fun Cn Tn hq => by cases hq; rfl) ⟨rfl, rfl⟩ (fun R47 e48 => ?_)
  have hz49 := (hz43.le (n2 := a + 9) (by omega)).R e48 (by omega)
  have laQ := zlk2 e12 laQ
  have laQ := zlk2 e24 laQ
  have laQ := zlk2 e33 laQ
  have laQ := zlk2 e42 laQ
  refine q_iconst C dX7_init_54 (n := 55) rfl ?_
  refine q_istore_n C [.ref (w.2.1 + a), zi 0] dX7_init_55 (n := 56) rfl rfl rfl ?_
  have hQ : R47 a 0 = some (a + 1) := (zup_n e48 (fun z => absurd z.2 (by decide))).trans ((zup_n e39 (fun z => absurd z.2 (by decide))).trans ((zup_n e30 (fun z => absurd z.2 (by decide))).trans ((zup_n e21 (fun z => absurd z.2 (by decide))).trans ((hb13 _ _ (by omega)).trans (zup_s e8)))))
  obtain ⟨sB, esB⟩ : ∃ x, x = 106 := ⟨_, rfl⟩
  have hsB : zsz T41 = zsz T + sB := by rw [esB]; exact hs45
  have loop : ∀ (r_ i : Nat), i + r_ = 4 → ∀ (Ti : zTl) (Mi : zMm) (Ri : zRm'), Ti = T41 ++ zRep zL4 i → zI G Mi → zFr (a + 9 + 4 * i) Mi J Ri → (∀ c q, c < a + 9 → Mi c q = M c q) → (∀ c q, c < a + 9 → c ≠ a + 1 → Ri c q = R47 c q) → (∀ j : Int, 0 ≤ j → j < i → Ri (a + 1) j = some (a + 9 + 4 * j.toNat) ∧ zN4 Ri (a + 9 + 4 * j.toNat)) → zK w p e 2 24 (2062) s m args below meth c 2 T Po 56 [.ref (w.2.1 + a), zi (i : Int)] [] (Ti, Mi, J, Ri) := by
    intro r_
    induction r_ with
    | zero =>
      intro i hi Ti Mi Ri eTi hIi hzi hMi hRi hji
      have hli : Ti.length = a + 9 + 4 * i := zlen2 eTi hl44 (zRep_len zL4_len i) rfl
      have hsi : zsz Ti = zsz T + (sB + 489 * i) := zsz2 eTi hsB (zRep_sz zL4_sz i) rfl
      have hta := zlk2 eTi ht46
      have hla := zlk2 eTi laQ
      have hQi : Ri a 0 = some (a + 1) := (hRi a 0 (by omega) (by omega)).trans hQ
      refine q_iload_n C dX7_init_56 (n := 57) rfl rfl ?_
      refine q_iconst C dX7_init_57 (n := 58) rfl ?_
      refine q_icmp_ge C 80 dX7_init_58 (n := 61) rfl rfl (by omega) (fun hc => ?_) (fun hc => ?_)
      · refine q_vret C dX7_init_80 ⟨by omega, by omega⟩ ?_
        rw [hPo]
        refine ⟨rfl, Mi, Ri, ?_, hIi, hzi.le (by omega), ?_, ?_, ?_⟩
        · rw [eTi, show i = 4 from by omega]
          subst e42 e33 e24 e12 e2
          rw [eT]
          simp [zL7, zRep]
        · intro c q hc
          exact hMi _ _ (by omega)
        · intro c q hc
          exact (hRi _ _ (by omega) (by omega)).trans ((zup_p e48 (by omega) _).trans ((zup_p e39 (by omega) _).trans ((zup_p e30 (by omega) _).trans ((zup_p e21 (by omega) _).trans ((hb13 _ _ (by omega)).trans (zup_p e8 (by omega) _))))))
        · exact ⟨(hRi _ _ (by omega) (by omega)).trans ((zup_n e48 (fun z => absurd z.2 (by decide))).trans ((zup_n e39 (fun z => absurd z.2 (by decide))).trans ((zup_n e30 (fun z => absurd z.2 (by decide))).trans ((zup_n e21 (fun z => absurd z.2 (by decide))).trans ((hb13 _ _ (by omega)).trans (zup_s e8)))))), (hRi _ _ (by omega) (by omega)).trans ((zup_n e48 (fun z => absurd z.2 (by decide))).trans ((zup_n e39 (fun z => absurd z.2 (by decide))).trans ((zup_n e30 (fun z => absurd z.2 (by decide))).trans (zup_s e21)))), (hRi _ _ (by omega) (by omega)).trans ((zup_n e48 (fun z => absurd z.2 (by decide))).trans ((zup_n e39 (fun z => absurd z.2 (by decide))).trans (zup_s e30))), (hRi _ _ (by omega) (by omega)).trans ((zup_n e48 (fun z => absurd z.2 (by decide))).trans (zup_s e39)), (hRi _ _ (by omega) (by omega)).trans (zup_s e48), fun j j1 j2 => (hRi _ _ (by omega) (by omega)).trans ((zup_p e48 (by omega) _).trans ((zup_p e39 (by omega) _).trans ((zup_p e30 (by omega) _).trans ((zup_p e21 (by omega) _).trans (hj14 j j1 j2))))), fun j j1 j2 => hji j j1 (by omega)⟩
      · exact absurd hc (by omega)
    | succ r_ ih =>
      intro i hi Ti Mi Ri eTi hIi hzi hMi hRi hji
      have hli : Ti.length = a + 9 + 4 * i := zlen2 eTi hl44 (zRep_len zL4_len i) rfl
      have hsi : zsz Ti = zsz T + (sB + 489 * i) := zsz2 eTi hsB (zRep_sz zL4_sz i) rfl
      have hta := zlk2 eTi ht46
      have hla := zlk2 eTi laQ
      have hQi : Ri a 0 = some (a + 1) := (hRi a 0 (by omega) (by omega)).trans hQ
      refine q_iload_n C dX7_init_56 (n := 57) rfl rfl ?_
      refine q_iconst C dX7_init_57 (n := 58) rfl ?_
      refine q_icmp_ge C 80 dX7_init_58 (n := 61) rfl rfl (by omega) (fun hc => ?_) (fun hc => ?_)
      · exact absurd hc (by omega)
      · refine q_aload_n C dX7_init_61 (n := 62) rfl rfl ?_
        refine q_getR C dX7_init_62 (n := 65) rfl f_X7_11 hta hQi ?_
        refine q_iload_n C dX7_init_65 (n := 66) rfl rfl ?_
        refine q_new C dX7_init_66 (n := 69) rfl (q := a + 9 + 4 * i) nw_X7_9 hli hzi ⟨by omega, by omega⟩ (fun T1 e1 => ?_)
        have hl1 : T1.length = a + 9 + 4 * i + 1 := zlen2 e1 hli rfl rfl
        have hs1 : zsz T1 = zsz T + (sB + 489 * i + 7) := zsz2 (l := 7) e1 hsi rfl (by omega)
        refine q_dup C dX7_init_69 (n := 70) rfl rfl ?_
        refine q_ctorN C dX7_init_70 (n := 73) rfl nl_X4 nn_X4 i_yX4_init e1 (n_X4 hIi hli hzi) (Nat.le_of_ble_eq_true rfl) rfl rfl (Nat.le_of_ble_eq_true rfl) ⟨by omega, by omega⟩ (fun T2 M2 R2 e2 hI2 hz2 hm2 hr2 hE2 => ?_)
        have hv : T2[a + 9 + 4 * i]? = some (4, 7) := by
          subst e2
          have hq := zIn.hd (i := 0) (zIn.of (P := Ti) (L := zL4) (X := []) hli) rfl
          simpa using hq
        have hl2 := zlk2 e2 hla
        refine q_aast C dX7_init_73 (n := 74) rfl (Cn := RX4) (Tn := TX4) (by omega) rfl rfl (by decide) hl2 hv ⟨by omega, by omega, by omega⟩ (fun R3 e3 => ?_)
        refine q_iinc C [.ref (w.2.1 + a), zi ((i + 1 : Nat) : Int)] dX7_init_74 (n := 77) rfl rfl rfl rfl ?_
        refine q_goto C 56 dX7_init_77 rfl ?_
        refine ih (i + 1) (by omega) T2 M2 R3 ?_ hI2 ((hz2.le (n2 := a + 9 + 4 * (i + 1)) (by omega)).R e3 (by omega)) (fun c q hc => (hm2 c q (by omega)).trans (hMi c q hc)) (fun c q hc hn => (zup_p e3 hn q).trans ((hr2 c q (by omega)).trans (hRi c q hc hn))) (fun j j1 j2 => ?_)
        · rw [e2, eTi, List.append_assoc]
          rfl
        · by_cases hji2 : j = (i : Int)
          · subst hji2
            rw [Int.toNat_natCast]
            exact ⟨zup_s e3, zN4.cg (fun c zz h1 h2 => zup_p e3 (by omega) zz) hE2⟩
          · have h3 := hji j j1 (by omega)
            exact ⟨(zup_n e3 (by omega)).trans ((hr2 _ _ (by omega)).trans h3.1), zN4.cg (fun c zz h1 h2 => (zup_p e3 (by omega) zz).trans (hr2 c zz (by omega))) h3.2⟩
  exact loop 4 0 rfl T41 M R47 (by simp [zRep]) hI (hz49.le (by omega)) (fun _ _ _ => rfl) (fun _ _ _ _ => rfl) (fun j j1 j2 => absurd j2 (by omega))
theorem n_X11 {w : zWp} {P : zTl} {M : zMm} {J : zJm} {R : zRm'} {G : zGt} {a : Nat}  (hI : zI G M) (hP : P.length = a) (hz : zFr a M J R) (hg : zG6 G (a + 30) 62576)  : zCt w 5 835 (126592) yX11_init cX11_init 2 none [.ref (w.2.1 + a)] (P ++ [(11, 9)], M, J, R) (zPn G P zL11 a 836 M J R (fun R2 : zRm' => zN11 R2 a ∧ R2 (a + 69) 7 = some (a + 38) ∧ R2 a 8 = none)) := by
  refine zCt.of rfl (Nat.le_of_ble_eq_true rfl) ?_
  intro p e s m args below meth c C
  obtain ⟨Po, hPo⟩ : ∃ Po, Po = (zPn G P zL11 a 836 M J R (fun R2 : zRm' => zN11 R2 a ∧ R2 (a + 69) 7 = some (a + 38) ∧ R2 a 8 = none)) := ⟨_, rfl⟩
  rw [← hPo]
  obtain ⟨T, eT⟩ : ∃ T : zTl, T = P ++ [(11, 9)] := ⟨_, rfl⟩
  have ht := zlast2 eT hP
  have hlen : T.length = a + 1 := zlen2 eT hP rfl rfl
  rw [← eT]
  show zK w p e 5 835 (126592) s m args below meth c 2 T Po 0 [.ref (w.2.1 + a), .null] [] (T, M, J, R)
  clear hP
  have hzs0 : zsz T = zsz T + 0 := rfl
  refine q_aload_n C dX11_init_0 (n := 1) rfl rfl ?_
  refine q_objI C dX11_init_1 (n := 4) rfl mo_X11 (Nat.le_of_ble_eq_true rfl) (Nat.le_of_ble_eq_true rfl) ?_
  refine q_aload_n C dX11_init_4 (n := 5) rfl rfl ?_
  refine q_sipush C dX11_init_5 (n := 8) rfl (x := 440) (by decide) ?_
  have hz3 := hz.le (n2 := a + 1) (by omega)
  refine q_newB C dX11_init_8 (n := 10) rfl (N := 440) (q := a + 1) (by omega) (by omega) hlen hz3 ⟨by omega, by omega⟩ (fun T1 e2 => ?_)
  have hl4 : T1.length = a + 2 := zlen2 e2 hlen rfl rfl
  have hs5 : zsz T1 = zsz T + (440) := zsz2 (l := 440) e2 hzs0 rfl (by omega)
  have ht6 := zlk2 e2 ht
  refine q_putRF C dX11_init_10 (n := 13) rfl f_X11_9 ht6 rfl rfl (fun Cn Tn hq => by cases hq; rfl) ⟨rfl, rfl⟩ (fun R7 e8 => ?_)
  have hz9 := (hz3.le (n2 := a + 2) (by omega)).R e8 (by omega)
  refine q_aload_n C dX11_init_13 (n := 14) rfl rfl ?_
  refine q_iconst C dX11_init_14 (n := 15) rfl ?_
  refine q_put0 C dX11_init_15 (n := 18) rfl f_X11_13 rfl ht6 ((hz a (Nat.le_refl _) 1).1) ⟨rfl, rfl⟩ ?_
  refine q_aload_n C dX11_init_18 (n := 19) rfl rfl ?_
  have hz12 := hz9.le (n2 := a + 2) (by omega)
  refine q_new C dX11_init_19 (n := 22) rfl (q := a + 2) nw_X11_17 hl4 hz12 ⟨by omega, by omega⟩ (fun T10 e11 => ?_)
  have hl13 : T10.length = a + 3 := zlen2 e11 hl4 rfl rfl
  have hs14 : zsz T10 = zsz T + (440 + 7) := zsz2 (l := 7) e11 hs5 rfl (by omega)
  have ht15 := zlk2 e11 ht6
  refine q_dup C dX11_init_22 (n := 23) rfl rfl ?_
  refine q_ctor C dX11_init_23 (n := 26) rfl m_X11_19 i_yX7_init e11 (n_X7 hI hl4 hz12) (Nat.le_of_ble_eq_true rfl) rfl rfl (Nat.le_of_ble_eq_true rfl) ⟨by omega, by omega⟩ (fun T16 M17 R18 e19 hI20 hz21 hm22 hr23 hE24 => ?_)
  clear hl13 hs14
  have hl25 : T16.length = a + 27 := zlen2 e19 hl4 (zL7_len) rfl
  have hs26 : zsz T16 = zsz T + (2509) := zsz2 e19 hs5 (zL7_sz) (by omega)
  have ht27 := zlk2 e19 ht6
  clear hl4 hs5 ht6
  refine q_putRF C dX11_init_26 (n := 29) rfl f_X11_20 ht27 rfl rfl (fun Cn Tn hq => by cases hq; rfl) ⟨rfl, rfl⟩ (fun R28 e29 => ?_)
  have hz30 := (hz21.le (n2 := a + 27) (by omega)).R e29 (by omega)
  refine q_aload_n C dX11_init_29 (n := 30) rfl rfl ?_
  refine q_iconst C dX11_init_30 (n := 31) rfl ?_
  have hz33 := hz30.le (n2 := a + 27) (by omega)
  refine q_newQ C dX11_init_31 (n := 34) rfl (N := 2) (q := a + 27) (kd := 55) (Cn := RX7) (by omega) rfl cl_X11_17 (by decide +kernel) (by omega) (by omega) hl25 hz33 ⟨by omega, by omega⟩ (fun T31 e32 => ?_)
  have laQ := zlast2 e32 hl25
  have hl34 : T31.length = a + 28 := zlen2 e32 hl25 rfl rfl
  have hs35 : zsz T31 = zsz T + (2511) := zsz2 (l := 2) e32 hs26 rfl (by omega)
  have ht36 := zlk2 e32 ht27
  clear hl25 hs26 ht27
  refine q_putRF C dX11_init_34 (n := 37) rfl f_X11_24 ht36 rfl rfl (fun Cn Tn hq => by cases hq; rfl) ⟨rfl, rfl⟩ (fun R37 e38 => ?_)
  have hz39 := (hz33.le (n2 := a + 28) (by omega)).R e38 (by omega)
  refine q_aload_n C dX11_init_37 (n := 38) rfl rfl ?_
  refine q_iconst C dX11_init_38 (n := 39) rfl ?_
  have hz42 := hz39.le (n2 := a + 28) (by omega)
  refine q_newZ C dX11_init_39 (n := 41) rfl (N := 2) (q := a + 28) (by omega) (by omega) hl34 hz42 ⟨by omega, by omega⟩ (fun T40 e41 => ?_)
  have hl43 : T40.length = a + 29 := zlen2 e41 hl34 rfl rfl
  have hs44 : zsz T40 = zsz T + (2513) := zsz2 (l := 2) e41 hs35 rfl (by omega)
  have ht45 := zlk2 e41 ht36
  clear hl34 hs35 ht36
  refine q_putRF C dX11_init_41 (n := 44) rfl f_X11_28 ht45 rfl rfl (fun Cn Tn hq => by cases hq; rfl) ⟨rfl, rfl⟩ (fun R46 e47 => ?_)
  have hz48 := (hz42.le (n2 := a + 29) (by omega)).R e47 (by omega)
  refine q_aload_n C dX11_init_44 (n := 45) rfl rfl ?_
  refine q_bipush C dX11_init_45 (n := 47) rfl (x := 30) (by decide) ?_
  have hz51 := hz48.le (n2 := a + 29) (by omega)
  refine q_newB C dX11_init_47 (n := 49) rfl (N := 30) (q := a + 29) (by omega) (by omega) hl43 hz51 ⟨by omega, by omega⟩ (fun T49 e50 => ?_)
  have hl52 : T49.length = a + 30 := zlen2 e50 hl43 rfl rfl
  have hs53 : zsz T49 = zsz T + (2543) := zsz2 (l := 30) e50 hs44 rfl (by omega)
  have ht54 := zlk2 e50 ht45
  clear hl43 hs44 ht45
  refine q_putRF C dX11_init_49 (n := 52) rfl f_X11_32 ht54 rfl rfl (fun Cn Tn hq => by cases hq; rfl) ⟨rfl, rfl⟩ (fun R55 e56 => ?_)
  have hz57 := (hz51.le (n2 := a + 30) (by omega)).R e56 (by omega)
  refine q_aload_n C dX11_init_52 (n := 53) rfl rfl ?_
  refine q_iconst C dX11_init_53 (n := 54) rfl ?_
  refine q_put0 C dX11_init_54 (n := 57) rfl f_X11_35 rfl ht54 ((hm22 _ _ (by omega)).trans ((hz a (Nat.le_refl _) 6).1)) ⟨rfl, rfl⟩ ?_
  refine q_aload_n C dX11_init_57 (n := 58) rfl rfl ?_
  have hz60 := hz57.le (n2 := a + 30) (by omega)
  refine q_new C dX11_init_58 (n := 61) rfl (q := a + 30) nw_X11_38 hl52 hz60 ⟨by omega, by omega⟩ (fun T58 e59 => ?_)
  have hl61 : T58.length = a + 31 := zlen2 e59 hl52 rfl rfl
  have hs62 : zsz T58 = zsz T + (2543 + 20) := zsz2 (l := 20) e59 hs53 rfl (by omega)
  have ht63 := zlk2 e59 ht54
  refine q_dup C dX11_init_61 (n := 62) rfl rfl ?_
  refine q_iconst C dX11_init_62 (n := 63) rfl ?_
  refine q_ctor C dX11_init_63 (n := 66) rfl m_X11_40 i_yX6_init e59 (n_X6 (r := 2) hI20 hl52 hz60 hg (by omega)) (Nat.le_of_ble_eq_true rfl) rfl rfl (Nat.le_of_ble_eq_true rfl) ⟨by omega, by omega⟩ (fun T64 M65 R66 e67 hI68 hz69 hm70 hr71 hE72 => ?_)
  clear hl61 hs62
  have hl73 : T64.length = a + 786 := zlen2 e67 hl52 (zL6_len _) rfl
  have hs74 : zsz T64 = zsz T + (122454) := zsz2 e67 hs53 (zL6_sz _) (by omega)
  have ht75 := zlk2 e67 ht54
  clear hl52 hs53 ht54
  refine q_putRF C dX11_init_66 (n := 69) rfl f_X11_43 ht75 rfl rfl (fun Cn Tn hq => by cases hq; rfl) ⟨rfl, rfl⟩ (fun R76 e77 => ?_)
  have hz78 := (hz69.le (n2 := a + 786) (by omega)).R e77 (by omega)
  refine q_aload_n C dX11_init_69 (n := 70) rfl rfl ?_
  refine q_null C dX11_init_70 (n := 71) rfl ?_
  have h8n : R76 a 8 = none := ((zup_n e77 (fun z => absurd z.2 (by decide))).trans ((hr71 _ _ (by omega)).trans ((zup_n e56 (fun z => absurd z.2 (by decide))).trans ((zup_n e47 (fun z => absurd z.2 (by decide))).trans ((zup_n e38 (fun z => absurd z.2 (by decide))).trans ((zup_n e29 (fun z => absurd z.2 (by decide))).trans ((hr23 _ _ (by omega)).trans ((zup_n e8 (fun z => absurd z.2 (by decide))).trans ((hz a (Nat.le_refl _) 8).2.2)))))))))
  refine q_putN C dX11_init_71 (n := 74) rfl f_X11_47 rfl ht75 h8n ⟨rfl, rfl⟩ ?_
  have laQ := zlk2 e41 laQ
  have laQ := zlk2 e50 laQ
  have laQ := zlk2 e67 laQ
  refine q_iconst C dX11_init_74 (n := 75) rfl ?_
  refine q_istore_n C [.ref (w.2.1 + a), zi 0] dX11_init_75 (n := 76) rfl rfl rfl ?_
  have hQ : R76 a 3 = some (a + 27) := (zup_n e77 (fun z => absurd z.2 (by decide))).trans ((hr71 _ _ (by omega)).trans ((zup_n e56 (fun z => absurd z.2 (by decide))).trans ((zup_n e47 (fun z => absurd z.2 (by decide))).trans (zup_s e38))))
  obtain ⟨sB, esB⟩ : ∃ x, x = 122454 := ⟨_, rfl⟩
  have hsB : zsz T64 = zsz T + sB := by rw [esB]; exact hs74
  have loop : ∀ (r_ i : Nat), i + r_ = 2 → ∀ (Ti : zTl) (Mi : zMm) (Ri : zRm'), Ti = T64 ++ zRep zL7 i → zI G Mi → zFr (a + 786 + 25 * i) Mi J Ri → (∀ c q, c < a + 786 → Mi c q = M65 c q) → (∀ c q, c < a + 786 → c ≠ a + 27 → Ri c q = R76 c q) → (∀ j : Int, 0 ≤ j → j < i → Ri (a + 27) j = some (a + 786 + 25 * j.toNat) ∧ zN7 Ri (a + 786 + 25 * j.toNat)) → zK w p e 5 835 (126592) s m args below meth c 2 T Po 76 [.ref (w.2.1 + a), zi (i : Int)] [] (Ti, Mi, J, Ri) := by
    intro r_
    induction r_ with
    | zero =>
      intro i hi Ti Mi Ri eTi hIi hzi hMi hRi hji
      have hli : Ti.length = a + 786 + 25 * i := zlen2 eTi hl73 (zRep_len zL7_len i) rfl
      have hsi : zsz Ti = zsz T + (sB + 2069 * i) := zsz2 eTi hsB (zRep_sz zL7_sz i) rfl
      have hta := zlk2 eTi ht75
      have hla := zlk2 eTi laQ
      have hQi : Ri a 3 = some (a + 27) := (hRi a 3 (by omega) (by omega)).trans hQ
      refine q_iload_n C dX11_init_76 (n := 77) rfl rfl ?_
      refine q_aload_n C dX11_init_77 (n := 78) rfl rfl ?_
      refine q_getR C dX11_init_78 (n := 81) rfl f_X11_24 hta hQi ?_
      refine q_alen C dX11_init_81 (n := 82) rfl (by decide) hla ?_
      refine q_icmp_ge C 104 dX11_init_82 (n := 85) rfl rfl (by omega) (fun hc => ?_) (fun hc => ?_)
      · refine q_vret C dX11_init_104 ⟨by omega, by omega⟩ ?_
        rw [hPo]
        refine ⟨rfl, Mi, Ri, ?_, hIi, hzi.le (by omega), ?_, ?_, ?_⟩
        · rw [eTi, show i = 2 from by omega]
          subst e67 e50 e41 e32 e19 e2
          rw [eT]
          simp [zL11]
        · intro c q hc
          exact (hMi _ _ (by omega)).trans ((hm70 _ _ (by omega)).trans (hm22 _ _ (by omega)))
        · intro c q hc
          exact (hRi _ _ (by omega) (by omega)).trans ((zup_p e77 (by omega) _).trans ((hr71 _ _ (by omega)).trans ((zup_p e56 (by omega) _).trans ((zup_p e47 (by omega) _).trans ((zup_p e38 (by omega) _).trans ((zup_p e29 (by omega) _).trans ((hr23 _ _ (by omega)).trans (zup_p e8 (by omega) _))))))))
        · exact ⟨⟨(hRi _ _ (by omega) (by omega)).trans ((zup_n e77 (fun z => absurd z.2 (by decide))).trans ((hr71 _ _ (by omega)).trans ((zup_n e56 (fun z => absurd z.2 (by decide))).trans ((zup_n e47 (fun z => absurd z.2 (by decide))).trans ((zup_n e38 (fun z => absurd z.2 (by decide))).trans ((zup_n e29 (fun z => absurd z.2 (by decide))).trans ((hr23 _ _ (by omega)).trans (zup_s e8)))))))), (hRi _ _ (by omega) (by omega)).trans ((zup_n e77 (fun z => absurd z.2 (by decide))).trans ((hr71 _ _ (by omega)).trans ((zup_n e56 (fun z => absurd z.2 (by decide))).trans ((zup_n e47 (fun z => absurd z.2 (by decide))).trans ((zup_n e38 (fun z => absurd z.2 (by decide))).trans (zup_s e29)))))), (hRi _ _ (by omega) (by omega)).trans ((zup_n e77 (fun z => absurd z.2 (by decide))).trans ((hr71 _ _ (by omega)).trans ((zup_n e56 (fun z => absurd z.2 (by decide))).trans ((zup_n e47 (fun z => absurd z.2 (by decide))).trans (zup_s e38))))), (hRi _ _ (by omega) (by omega)).trans ((zup_n e77 (fun z => absurd z.2 (by decide))).trans ((hr71 _ _ (by omega)).trans ((zup_n e56 (fun z => absurd z.2 (by decide))).trans (zup_s e47)))), (hRi _ _ (by omega) (by omega)).trans ((zup_n e77 (fun z => absurd z.2 (by decide))).trans ((hr71 _ _ (by omega)).trans (zup_s e56))), (hRi _ _ (by omega) (by omega)).trans (zup_s e77), zN7.cg (fun c z h1 h2 => (hRi _ _ (by omega) (by omega)).trans ((zup_p e77 (by omega) _).trans ((hr71 _ _ (by omega)).trans ((zup_p e56 (by omega) _).trans ((zup_p e47 (by omega) _).trans ((zup_p e38 (by omega) _).trans (zup_p e29 (by omega) _))))))) hE24, zN6.cg (fun c z h1 h2 => (hRi _ _ (by omega) (by omega)).trans (zup_p e77 (by omega) _)) hE72.1, fun j j1 j2 => hji j j1 (by omega)⟩, (hRi _ _ (by omega) (by omega)).trans ((zup_p e77 (by omega) _).trans (hE72.2)), (hRi _ _ (by omega) (by omega)).trans h8n⟩
      · exact absurd hc (by omega)
    | succ r_ ih =>
      intro i hi Ti Mi Ri eTi hIi hzi hMi hRi hji
      have hli : Ti.length = a + 786 + 25 * i := zlen2 eTi hl73 (zRep_len zL7_len i) rfl
      have hsi : zsz Ti = zsz T + (sB + 2069 * i) := zsz2 eTi hsB (zRep_sz zL7_sz i) rfl
      have hta := zlk2 eTi ht75
      have hla := zlk2 eTi laQ
      have hQi : Ri a 3 = some (a + 27) := (hRi a 3 (by omega) (by omega)).trans hQ
      refine q_iload_n C dX11_init_76 (n := 77) rfl rfl ?_
      refine q_aload_n C dX11_init_77 (n := 78) rfl rfl ?_
      refine q_getR C dX11_init_78 (n := 81) rfl f_X11_24 hta hQi ?_
      refine q_alen C dX11_init_81 (n := 82) rfl (by decide) hla ?_
      refine q_icmp_ge C 104 dX11_init_82 (n := 85) rfl rfl (by omega) (fun hc => ?_) (fun hc => ?_)
      · exact absurd hc (by omega)
      · refine q_aload_n C dX11_init_85 (n := 86) rfl rfl ?_
        refine q_getR C dX11_init_86 (n := 89) rfl f_X11_24 hta hQi ?_
        refine q_iload_n C dX11_init_89 (n := 90) rfl rfl ?_
        refine q_new C dX11_init_90 (n := 93) rfl (q := a + 786 + 25 * i) nw_X11_17 hli hzi ⟨by omega, by omega⟩ (fun T1 e1 => ?_)
        have hl1 : T1.length = a + 786 + 25 * i + 1 := zlen2 e1 hli rfl rfl
        have hs1 : zsz T1 = zsz T + (sB + 2069 * i + 7) := zsz2 (l := 7) e1 hsi rfl (by omega)
        refine q_dup C dX11_init_93 (n := 94) rfl rfl ?_
        refine q_ctor C dX11_init_94 (n := 97) rfl m_X11_19 i_yX7_init e1 (n_X7 hIi hli hzi) (Nat.le_of_ble_eq_true rfl) rfl rfl (Nat.le_of_ble_eq_true rfl) ⟨by omega, by omega⟩ (fun T2 M2 R2 e2 hI2 hz2 hm2 hr2 hE2 => ?_)
        have hv : T2[a + 786 + 25 * i]? = some (7, 7) := by
          subst e2
          have hq := zIn.hd (i := 0) (zIn.of (P := Ti) (L := zL7) (X := []) hli) rfl
          simpa using hq
        have hl2 := zlk2 e2 hla
        refine q_aast C dX11_init_97 (n := 98) rfl (Cn := RX7) (Tn := TX7) (by omega) rfl rfl (by decide) hl2 hv ⟨by omega, by omega, by omega⟩ (fun R3 e3 => ?_)
        refine q_iinc C [.ref (w.2.1 + a), zi ((i + 1 : Nat) : Int)] dX11_init_98 (n := 101) rfl rfl rfl rfl ?_
        refine q_goto C 76 dX11_init_101 rfl ?_
        refine ih (i + 1) (by omega) T2 M2 R3 ?_ hI2 ((hz2.le (n2 := a + 786 + 25 * (i + 1)) (by omega)).R e3 (by omega)) (fun c q hc => (hm2 c q (by omega)).trans (hMi c q hc)) (fun c q hc hn => (zup_p e3 hn q).trans ((hr2 c q (by omega)).trans (hRi c q hc hn))) (fun j j1 j2 => ?_)
        · rw [e2, eTi, List.append_assoc]
          rfl
        · by_cases hji2 : j = (i : Int)
          · subst hji2
            rw [Int.toNat_natCast]
            exact ⟨zup_s e3, zN7.cg (fun c zz h1 h2 => zup_p e3 (by omega) zz) hE2⟩
          · have h3 := hji j j1 (by omega)
            exact ⟨(zup_n e3 (by omega)).trans ((hr2 _ _ (by omega)).trans h3.1), zN7.cg (fun c zz h1 h2 => (zup_p e3 (by omega) zz).trans (hr2 c zz (by omega))) h3.2⟩
  exact loop 2 0 rfl T64 M65 R76 (by simp [zRep]) hI68 (hz78.le (by omega)) (fun _ _ _ => rfl) (fun _ _ _ _ => rfl) (fun j j1 j2 => absurd j2 (by omega))
