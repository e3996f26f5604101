theorem n_X0 {w : zWp} {P : zTl} {M : zMm} {J : zJm} {R : zRm'} {G : zGt} {a : Nat} {t : Nat} {mm : Nat} {q : Nat} {tl : Nat} {L : Nat} (hI : zI G M) (hP : P.length = a) (hz : zFr a M J R) (hg : zG0 G a L)  (p_t : t < a)  (p_mm : mm < a)  (p_q : q < a)  (p_tl : tl < a) : zCt w 3 713 (26591) yX0_init cX0_init 6 none [.ref (w.2.1 + a), .ref (w.2.1 + t), .ref (w.2.1 + mm), .ref (w.2.1 + q), .ref (w.2.1 + tl)] (P ++ [(0, 9)], M, J, R) (zPn G P zL0 a 714 M J R (fun R2 : zRm' => zN0 R2 a t mm q ∧ R2 a 7 = some tl)) := by
  refine zCt.of rfl (Nat.le_of_ble_eq_true rfl) ?_
  intro p e s m args below meth c C
  obtain ⟨Po, hPo⟩ : ∃ Po, Po = (zPn G P zL0 a 714 M J R (fun R2 : zRm' => zN0 R2 a t mm q ∧ R2 a 7 = some tl)) := ⟨_, rfl⟩
  rw [← hPo]
  obtain ⟨T, eT⟩ : ∃ T : zTl, T = P ++ [(0, 9)] := ⟨_, rfl⟩
  have ht := zlast2 eT hP
  have hlen : T.length = a + 1 := zlen2 eT hP rfl rfl
  rw [← eT]
  show zK w p e 3 713 (26591) s m args below meth c 6 T Po 0 [.ref (w.2.1 + a), .ref (w.2.1 + t), .ref (w.2.1 + mm), .ref (w.2.1 + q), .ref (w.2.1 + tl), .null] [] (T, M, J, R)
  clear hP
  have hzs0 : zsz T = zsz T + 0 := rfl
  refine q_aload_n C dX0_init_0 (n := 1) rfl rfl ?_
  refine q_objI C dX0_init_1 (n := 4) rfl mo_X0 (Nat.le_of_ble_eq_true rfl) (Nat.le_of_ble_eq_true rfl) ?_
  refine q_aload_n C dX0_init_4 (n := 5) rfl rfl ?_
  have hz3 := hz.le (n2 := a + 1) (by omega)
  refine q_new C dX0_init_5 (n := 8) rfl (q := a + 1) nw_X0_9 hlen hz3 ⟨by omega, by omega⟩ (fun T1 e2 => ?_)
  have hl4 : T1.length = a + 2 := zlen2 e2 hlen rfl rfl
  have hs5 : zsz T1 = zsz T + (0 + 4) := zsz2 (l := 4) e2 hzs0 rfl (by omega)
  have ht6 := zlk2 e2 ht
  refine q_dup C dX0_init_8 (n := 9) rfl rfl ?_
  refine q_sipush C dX0_init_9 (n := 12) rfl (x := 3440) (by decide) ?_
  refine q_ctor C dX0_init_12 (n := 15) rfl m_X0_11 i_yX5_init e2 (n_X5 (n := 3440) hI hlen hz3 (by omega)) (Nat.le_of_ble_eq_true rfl) rfl rfl (Nat.le_of_ble_eq_true rfl) ⟨by omega, by omega⟩ (fun T7 M8 R9 e10 hI11 hz12 hm13 hr14 hE15 => ?_)
  clear hl4 hs5
  have hl16 : T7.length = a + 5 := zlen2 e10 hlen (zL5_len _) rfl
  have hs17 : zsz T7 = zsz T + (10324) := zsz2 e10 hzs0 (zL5_sz _) (by omega)
  have ht18 := zlk2 e10 ht
  refine q_putRF C dX0_init_15 (n := 18) rfl f_X0_14 ht18 rfl rfl (fun Cn Tn hq => by cases hq; rfl) ⟨rfl, rfl⟩ (fun R19 e20 => ?_)
  have hz21 := (hz12.le (n2 := a + 5) (by omega)).R e20 (by omega)
  refine q_aload_n C dX0_init_18 (n := 19) rfl rfl ?_
  refine q_sipush C dX0_init_19 (n := 22) rfl (x := 3440) (by decide) ?_
  have hz24 := hz21.le (n2 := a + 5) (by omega)
  refine q_newI C dX0_init_22 (n := 24) rfl (N := 3440) (q := a + 5) (by omega) (by omega) hl16 hz24 ⟨by omega, by omega⟩ (fun T22 e23 => ?_)
  have hl25 : T22.length = a + 6 := zlen2 e23 hl16 rfl rfl
  have hs26 : zsz T22 = zsz T + (13764) := zsz2 (l := 3440) e23 hs17 rfl (by omega)
  have ht27 := zlk2 e23 ht18
  clear hl16 hs17 ht18
  refine q_putRF C dX0_init_24 (n := 27) rfl f_X0_20 ht27 rfl rfl (fun Cn Tn hq => by cases hq; rfl) ⟨rfl, rfl⟩ (fun R28 e29 => ?_)
  have hz30 := (hz24.le (n2 := a + 6) (by omega)).R e29 (by omega)
  refine q_aload_n C dX0_init_27 (n := 28) rfl rfl ?_
  refine q_bipush C dX0_init_28 (n := 30) rfl (x := 101) (by decide) ?_
  have hz33 := hz30.le (n2 := a + 6) (by omega)
  refine q_newQ C dX0_init_30 (n := 33) rfl (N := 101) (q := a + 6) (kd := 56) (Cn := RX2) (by omega) rfl cl_X0_24 (by decide +kernel) (by omega) (by omega) hl25 hz33 ⟨by omega, by omega⟩ (fun T31 e32 => ?_)
  have laQ := zlast2 e32 hl25
  have hl34 : T31.length = a + 7 := zlen2 e32 hl25 rfl rfl
  have hs35 : zsz T31 = zsz T + (13865) := zsz2 (l := 101) e32 hs26 rfl (by omega)
  have ht36 := zlk2 e32 ht27
  clear hl25 hs26 ht27
  refine q_putRF C dX0_init_33 (n := 36) rfl f_X0_26 ht36 rfl rfl (fun Cn Tn hq => by cases hq; rfl) ⟨rfl, rfl⟩ (fun R37 e38 => ?_)
  have hz39 := (hz33.le (n2 := a + 7) (by omega)).R e38 (by omega)
  refine q_aload_n C dX0_init_36 (n := 37) rfl rfl ?_
  refine q_iconst C dX0_init_37 (n := 38) rfl ?_
  refine q_put0 C dX0_init_38 (n := 41) rfl f_X0_30 rfl ht36 ((hm13 _ _ (by omega)).trans ((hz a (Nat.le_refl _) 6).1)) ⟨rfl, rfl⟩ ?_
  refine q_aload_n C dX0_init_41 (n := 42) rfl rfl ?_
  refine q_iconst C dX0_init_42 (n := 43) rfl ?_
  refine q_put0 C dX0_init_43 (n := 46) rfl f_X0_34 rfl ht36 ((hm13 _ _ (by omega)).trans ((hz a (Nat.le_refl _) 8).1)) ⟨rfl, rfl⟩ ?_
  refine q_aload_n C dX0_init_46 (n := 47) rfl rfl ?_
  refine q_aload_n C dX0_init_47 (n := 48) rfl rfl ?_
  refine q_putRF C dX0_init_48 (n := 51) rfl f_X0_38 ht36 rfl rfl (fun Cn Tn hq => by cases hq; rfl) ⟨rfl, rfl⟩ (fun R40 e41 => ?_)
  have hz42 := (hz39.le (n2 := a + 7) (by omega)).R e41 (by omega)
  refine q_aload_n C dX0_init_51 (n := 52) rfl rfl ?_
  refine q_aload_n C dX0_init_52 (n := 53) rfl rfl ?_
  refine q_putRF C dX0_init_53 (n := 56) rfl f_X0_42 ht36 rfl rfl (fun Cn Tn hq => by cases hq; rfl) ⟨rfl, rfl⟩ (fun R43 e44 => ?_)
  have hz45 := (hz42.le (n2 := a + 7) (by omega)).R e44 (by omega)
  refine q_aload_n C dX0_init_56 (n := 57) rfl rfl ?_
  refine q_aload_n C dX0_init_57 (n := 58) rfl rfl ?_
  refine q_putRF C dX0_init_58 (n := 61) rfl f_X0_46 ht36 rfl rfl (fun Cn Tn hq => by cases hq; rfl) ⟨rfl, rfl⟩ (fun R46 e47 => ?_)
  have hz48 := (hz45.le (n2 := a + 7) (by omega)).R e47 (by omega)
  refine q_aload_n C dX0_init_61 (n := 62) rfl rfl ?_
  refine q_aload C dX0_init_62 (n := 64) rfl rfl ?_
  refine q_putR C dX0_init_64 (n := 67) rfl f_X0_50 ht36 rfl ⟨rfl, rfl⟩ (fun R49 e50 => ?_)
  have hz51 := (hz48.le (n2 := a + 7) (by omega)).R e50 (by omega)
  refine q_iconst C dX0_init_67 (n := 68) rfl ?_
  refine q_istore C [.ref (w.2.1 + a), .ref (w.2.1 + t), .ref (w.2.1 + mm), .ref (w.2.1 + q), .ref (w.2.1 + tl), zi 0] dX0_init_68 (n := 70) rfl rfl rfl ?_
  have hQ : R49 a 5 = some (a + 6) := (zup_n e50 (fun z => absurd z.2 (by decide))).trans ((zup_n e47 (fun z => absurd z.2 (by decide))).trans ((zup_n e44 (fun z => absurd z.2 (by decide))).trans ((zup_n e41 (fun z => absurd z.2 (by decide))).trans (zup_s e38))))
  obtain ⟨sB, esB⟩ : ∃ x, x = 13865 := ⟨_, rfl⟩
  have hsB : zsz T31 = zsz T + sB := by rw [esB]; exact hs35
  have loop : ∀ (r_ i : Nat), i + r_ = 101 → ∀ (Ti : zTl) (Mi : zMm) (Ri : zRm'), Ti = T31 ++ zRep zL2 i → zI G Mi → zFr (a + 7 + 7 * i) Mi J Ri → (∀ c q, c < a + 7 → Mi c q = M8 c q) → (∀ c q, c < a + 7 → c ≠ a + 6 → Ri c q = R49 c q) → (∀ j : Int, 0 ≤ j → j < i → Ri (a + 6) j = some (a + 7 + 7 * j.toNat) ∧ zN2 Ri (a + 7 + 7 * j.toNat)) → zK w p e 3 713 (26591) s m args below meth c 6 T Po 70 [.ref (w.2.1 + a), .ref (w.2.1 + t), .ref (w.2.1 + mm), .ref (w.2.1 + q), .ref (w.2.1 + tl), zi (i : Int)] [] (Ti, Mi, J, Ri) := by
    intro r_
    induction r_ with
    | zero =>
      intro i hi Ti Mi Ri eTi hIi hzi hMi hRi hji
      have hli : Ti.length = a + 7 + 7 * i := zlen2 eTi hl34 (zRep_len zL2_len i) rfl
      have hsi : zsz Ti = zsz T + (sB + 126 * i) := zsz2 eTi hsB (zRep_sz zL2_sz i) rfl
      have hta := zlk2 eTi ht36
      have hla := zlk2 eTi laQ
      have hQi : Ri a 5 = some (a + 6) := (hRi a 5 (by omega) (by omega)).trans hQ
      refine q_iload C dX0_init_70 (n := 72) rfl rfl ?_
      refine q_aload_n C dX0_init_72 (n := 73) rfl rfl ?_
      refine q_getR C dX0_init_73 (n := 76) rfl f_X0_26 hta hQi ?_
      refine q_alen C dX0_init_76 (n := 77) rfl (by decide) hla ?_
      refine q_icmp_ge C 100 dX0_init_77 (n := 80) rfl rfl (by omega) (fun hc => ?_) (fun hc => ?_)
      · refine q_vret C dX0_init_100 ⟨by omega, by omega⟩ ?_
        rw [hPo]
        refine ⟨rfl, Mi, Ri, ?_, hIi, hzi.le (by omega), ?_, ?_, ?_⟩
        · rw [eTi, show i = 101 from by omega]
          subst e32 e23 e10
          rw [eT]
          simp [zL0]
        · intro c q hc
          exact (hMi _ _ (by omega)).trans (hm13 _ _ (by omega))
        · intro c q hc
          exact (hRi _ _ (by omega) (by omega)).trans ((zup_p e50 (by omega) _).trans ((zup_p e47 (by omega) _).trans ((zup_p e44 (by omega) _).trans ((zup_p e41 (by omega) _).trans ((zup_p e38 (by omega) _).trans ((zup_p e29 (by omega) _).trans ((zup_p e20 (by omega) _).trans (hr14 _ _ (by omega)))))))))
        · exact ⟨⟨(hRi _ _ (by omega) (by omega)).trans ((zup_n e50 (fun z => absurd z.2 (by decide))).trans ((zup_n e47 (fun z => absurd z.2 (by decide))).trans ((zup_n e44 (fun z => absurd z.2 (by decide))).trans ((zup_n e41 (fun z => absurd z.2 (by decide))).trans ((zup_n e38 (fun z => absurd z.2 (by decide))).trans ((zup_n e29 (fun z => absurd z.2 (by decide))).trans (zup_s e20))))))), (hRi _ _ (by omega) (by omega)).trans ((zup_n e50 (fun z => absurd z.2 (by decide))).trans ((zup_n e47 (fun z => absurd z.2 (by decide))).trans ((zup_n e44 (fun z => absurd z.2 (by decide))).trans ((zup_n e41 (fun z => absurd z.2 (by decide))).trans ((zup_n e38 (fun z => absurd z.2 (by decide))).trans (zup_s e29)))))), (hRi _ _ (by omega) (by omega)).trans ((zup_n e50 (fun z => absurd z.2 (by decide))).trans ((zup_n e47 (fun z => absurd z.2 (by decide))).trans ((zup_n e44 (fun z => absurd z.2 (by decide))).trans ((zup_n e41 (fun z => absurd z.2 (by decide))).trans (zup_s e38))))), (hRi _ _ (by omega) (by omega)).trans ((zup_n e50 (fun z => absurd z.2 (by decide))).trans ((zup_n e47 (fun z => absurd z.2 (by decide))).trans ((zup_n e44 (fun z => absurd z.2 (by decide))).trans (zup_s e41)))), (hRi _ _ (by omega) (by omega)).trans ((zup_n e50 (fun z => absurd z.2 (by decide))).trans ((zup_n e47 (fun z => absurd z.2 (by decide))).trans (zup_s e44))), (hRi _ _ (by omega) (by omega)).trans ((zup_n e50 (fun z => absurd z.2 (by decide))).trans (zup_s e47)), zN5.cg (fun c z h1 h2 => (hRi _ _ (by omega) (by omega)).trans ((zup_p e50 (by omega) _).trans ((zup_p e47 (by omega) _).trans ((zup_p e44 (by omega) _).trans ((zup_p e41 (by omega) _).trans ((zup_p e38 (by omega) _).trans ((zup_p e29 (by omega) _).trans (zup_p e20 (by omega) _)))))))) hE15, fun j j1 j2 => hji j j1 (by omega)⟩, (hRi _ _ (by omega) (by omega)).trans (zup_s e50)⟩
      · exact absurd hc (by omega)
    | succ r_ ih =>
      intro i hi Ti Mi Ri eTi hIi hzi hMi hRi hji
      have hli : Ti.length = a + 7 + 7 * i := zlen2 eTi hl34 (zRep_len zL2_len i) rfl
      have hsi : zsz Ti = zsz T + (sB + 126 * i) := zsz2 eTi hsB (zRep_sz zL2_sz i) rfl
      have hta := zlk2 eTi ht36
      have hla := zlk2 eTi laQ
      have hQi : Ri a 5 = some (a + 6) := (hRi a 5 (by omega) (by omega)).trans hQ
      refine q_iload C dX0_init_70 (n := 72) rfl rfl ?_
      refine q_aload_n C dX0_init_72 (n := 73) rfl rfl ?_
      refine q_getR C dX0_init_73 (n := 76) rfl f_X0_26 hta hQi ?_
      refine q_alen C dX0_init_76 (n := 77) rfl (by decide) hla ?_
      refine q_icmp_ge C 100 dX0_init_77 (n := 80) rfl rfl (by omega) (fun hc => ?_) (fun hc => ?_)
      · exact absurd hc (by omega)
      · refine q_aload_n C dX0_init_80 (n := 81) rfl rfl ?_
        refine q_getR C dX0_init_81 (n := 84) rfl f_X0_26 hta hQi ?_
        refine q_iload C dX0_init_84 (n := 86) rfl rfl ?_
        refine q_new C dX0_init_86 (n := 89) rfl (q := a + 7 + 7 * i) nw_X0_24 hli hzi ⟨by omega, by omega⟩ (fun T1 e1 => ?_)
        have hl1 : T1.length = a + 7 + 7 * i + 1 := zlen2 e1 hli rfl rfl
        have hs1 : zsz T1 = zsz T + (sB + 126 * i + 18) := zsz2 (l := 18) e1 hsi rfl (by omega)
        refine q_dup C dX0_init_89 (n := 90) rfl rfl ?_
        have hgi := (hg.2.2.1) (i : Int) (by omega) (by omega)
        rw [Int.toNat_natCast] at hgi
        refine q_ctorN C dX0_init_90 (n := 93) rfl nl_X2 nn_X2 i_yX2_init e1 (n_X2 hIi hli hzi hgi) (Nat.le_of_ble_eq_true rfl) rfl rfl (Nat.le_of_ble_eq_true rfl) ⟨by omega, by omega⟩ (fun T2 M2 R2 e2 hI2 hz2 hm2 hr2 hE2 => ?_)
        have hv : T2[a + 7 + 7 * i]? = some (2, 18) := by
          subst e2
          have hq := zIn.hd (i := 0) (zIn.of (P := Ti) (L := zL2) (X := []) hli) rfl
          simpa using hq
        have hl2 := zlk2 e2 hla
        refine q_aast C dX0_init_93 (n := 94) rfl (Cn := RX2) (Tn := TX2) (by omega) rfl rfl (by decide) hl2 hv ⟨by omega, by omega, by omega⟩ (fun R3 e3 => ?_)
        refine q_iinc C [.ref (w.2.1 + a), .ref (w.2.1 + t), .ref (w.2.1 + mm), .ref (w.2.1 + q), .ref (w.2.1 + tl), zi ((i + 1 : Nat) : Int)] dX0_init_94 (n := 97) rfl rfl rfl rfl ?_
        refine q_goto C 70 dX0_init_97 rfl ?_
        refine ih (i + 1) (by omega) T2 M2 R3 ?_ hI2 ((hz2.le (n2 := a + 7 + 7 * (i + 1)) (by omega)).R e3 (by omega)) (fun c q hc => (hm2 c q (by omega)).trans (hMi c q hc)) (fun c q hc hn => (zup_p e3 hn q).trans ((hr2 c q (by omega)).trans (hRi c q hc hn))) (fun j j1 j2 => ?_)
        · rw [e2, eTi, List.append_assoc]
          rfl
        · by_cases hji2 : j = (i : Int)
          · subst hji2
            rw [Int.toNat_natCast]
            exact ⟨zup_s e3, zN2.cg (fun c zz h1 h2 => zup_p e3 (by omega) zz) hE2⟩
          · have h3 := hji j j1 (by omega)
            exact ⟨(zup_n e3 (by omega)).trans ((hr2 _ _ (by omega)).trans h3.1), zN2.cg (fun c zz h1 h2 => (zup_p e3 (by omega) zz).trans (hr2 c zz (by omega))) h3.2⟩
  exact loop 101 0 rfl T31 M8 R49 (by simp [zRep]) hI11 (hz51.le (by omega)) (fun _ _ _ => rfl) (fun _ _ _ _ => rfl) (fun j j1 j2 => absurd j2 (by omega))
