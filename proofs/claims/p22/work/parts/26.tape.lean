theorem c_X6_readTape {w : zWp} {T : zTl} {M : zMm} {J : zJm} {R : zRm'} {G : zGt} {F : zRm'} {a L b tb : Nat} (hI : zI G M) (hF : zF F R) (h0 : zRunner T F G a L) (t_b0 : T[b]? = some (51, 440)) (g_b0 : ∀ k, G b k = (tb, (-128), 127)) (v2 : Int) (v3 : Int) (p1 : L ≤ 1000000) (p2 : 10000 ≤ L) (p3 : 0 ≤ v2 ∧ v2 ≤ 440) (p4 : 0 ≤ v3 ∧ v3 ≤ 2600) : zCt w 4 0 0 yX6_readTape cX6_readTape 5 (some .boolean) [.ref (w.2.1 + a), .ref (w.2.1 + b), zi v2, zi v3] (T, M, J, R) (zPiE T G (fun x M2 R2 => (zKp G 13 M M2) ∧ (x = 0 ∨ x = 1) ∧ (zRo R R2 a) ∧ (x = 0 ∨ R2 (a + 39) 7 = some (a + 8)))) := by
  refine zCt.of rfl (Nat.le_of_ble_eq_true rfl) ?_
  intro p e s m args below meth c C
  obtain ⟨Po, hPo⟩ : ∃ Po, Po = zPiE T G (fun x M2 R2 => (zKp G 13 M M2) ∧ (x = 0 ∨ x = 1) ∧ (zRo R R2 a) ∧ (x = 0 ∨ R2 (a + 39) 7 = some (a + 8))) := ⟨_, rfl⟩
  rw [← hPo]
  have hK0 : zKp G 13 M M := zKp.rf
  show zK w p e 4 0 0 s m args below meth c 5 T Po 0 [.ref (w.2.1 + a), .ref (w.2.1 + b), zi v2, zi v3, .null] [] (T, M, J, R)
  refine q_aload_n C dX6_readTape_0 (n := 1) rfl rfl ?_
  refine q_getR C dX6_readTape_1 (n := 4) rfl f_X6_12 h0.1 (hF _ _ _ h0.2.2.2.1) ?_
  refine q_callVv C dX6_readTape_4 (n := 7) rfl m_X6_100 v_yX1_clear h0.2.2.2.2.1.1 ⟨by decide, rfl⟩ (c_X1_clear (w := w) (J := J) hI hF h0.2.2.2.2.1) (Nat.le_of_ble_eq_true rfl) rfl rfl (Nat.le_of_ble_eq_true rfl) ⟨Nat.le_refl _, Nat.le_refl _⟩ (fun M1 J2  hI3 h4 => ?_)
  have hK6 := hK0.tr h4 (by decide)
  refine q_aload_n C dX6_readTape_7 (n := 8) rfl rfl ?_
  refine q_iconst C dX6_readTape_8 (n := 9) rfl ?_
  refine q_iconst C dX6_readTape_9 (n := 10) rfl ?_
  refine q_iload_n C dX6_readTape_10 (n := 11) rfl rfl ?_
  refine q_callSp C dX6_readTape_11 (n := 14) rfl m_X6_165 s_yX5_origin (c_X5_origin (w := w) (J := J2) hI3 hF (-1) (-1) v2) (Nat.le_of_ble_eq_true rfl) rfl rfl (Nat.le_of_ble_eq_true rfl) ⟨Nat.le_refl _, Nat.le_refl _⟩ (fun x9 h10 => ?_)
  obtain ⟨h7, h8⟩ := h10
  refine q_putI C dX6_readTape_14 (n := 17) rfl f_X6_65 h0.1 ⟨rfl, rfl⟩ (fun M11 (e12 : M11 = zup M1 a 19 x9) => ?_)
  have hI13 : zI G M11 := hI3.put e12 h0.2.2.2.2.2.2.2.2.2.2.2.2.2.2.2.2.2.2.2.2.2.2.2.2.2.2.2.2.2.2.2.2.2.2.2.2.2.2.2.2.2.2.2.2 rfl (by omega)
  have hK14 := hK6.put e12 h0.2.2.2.2.2.2.2.2.2.2.2.2.2.2.2.2.2.2.2.2.2.2.2.2.2.2.2.2.2.2.2.2.2.2.2.2.2.2.2.2.2.2.2.2 (by decide)
  refine q_iconst C dX6_readTape_17 (n := 18) rfl ?_
  refine q_istore C [.ref (w.2.1 + a), .ref (w.2.1 + b), zi v2, zi v3, zi 0] dX6_readTape_18 (n := 20) rfl rfl rfl ?_
  have L_22 : ∀ n23 : Nat, ∀ (u15 : Int) (M16 : zMm) (J17 : zJm), zI G M16 → zKp G 13 M M16 → (-2147483648 ≤ u15 ∧ u15 ≤ 2147483647) → (0 ≤ u15 ∧ u15 ≤ v2) → (v2 - u15 + 1 ≤ (n23 : Int)) → zK w p e 4 0 0 s m args below meth c 5 T Po 20 [.ref (w.2.1 + a), .ref (w.2.1 + b), zi v2, zi v3, zi u15] [] (T, M16, J17, R) := by
    intro n23
    induction n23 with
    | zero =>
      intro u15 M16 J17 hI18 hK19 h20 h21 hm25
      exfalso
      omega
    | succ n23 ih24 =>
      intro u15 M16 J17 hI18 hK19 h20 h21 hm25
      refine q_iload C dX6_readTape_20 (n := 22) rfl rfl ?_
      refine q_iload_n C dX6_readTape_22 (n := 23) rfl rfl ?_
      refine q_icmp_ge C 83 dX6_readTape_23 (n := 26) rfl rfl (by omega) (fun h26 => ?_) (fun h26 => ?_)
      · refine q_aload_n C dX6_readTape_83 (n := 84) rfl rfl ?_
        refine q_getR C dX6_readTape_84 (n := 87) rfl f_X6_89 h0.1 (hF _ _ _ h0.2.2.2.2.2.2.2.2.2.2.2.2.2.2.2.2.2.2.1) ?_
        refine q_aload_n C dX6_readTape_87 (n := 88) rfl rfl ?_
        refine q_getR C dX6_readTape_88 (n := 91) rfl f_X6_34 h0.1 (hF _ _ _ h0.2.2.2.2.2.2.2.2.2.2.2.2.2.2.2.1) ?_
        refine q_iconst C dX6_readTape_91 (n := 92) rfl ?_
        refine q_callVvR C dX6_readTape_92 (n := 95) rfl m_X6_151 v_yX0_tallyInto h0.2.2.2.2.2.2.2.2.2.2.2.2.2.2.2.2.2.2.2.1.1 ⟨by decide, rfl⟩ (c_X0_tallyInto (w := w) (J := J17) hI18 hF h0.2.2.2.2.2.2.2.2.2.2.2.2.2.2.2.2.2.2.2.1 h0.2.2.2.2.2.2.2.2.2.2.2.2.2.2.2.2.1 h0.2.2.2.2.2.2.2.2.2.2.2.2.2.2.2.2.2.1 0 (by omega)) (Nat.le_of_ble_eq_true rfl) rfl rfl (Nat.le_of_ble_eq_true rfl) ⟨Nat.le_refl _, Nat.le_refl _⟩ (fun M27 J28  hI29 h30 => ?_)
        have hK32 := hK19.tr h30 (by decide)
        obtain ⟨R33, e34⟩ : ∃ q, q = zup R (a + 39) 7 (some (a + 8)) := ⟨_, rfl⟩
        rw [← e34]
        have hF := hF.put e34 h0.2.2.2.2.2.2.2.2.2.2.2.2.2.2.2.2.2.2.2.1.2.2.2.2.2.2.2.2.2.2.2.2.2.2.2.2.1
        refine q_aload_n C dX6_readTape_95 (n := 96) rfl rfl ?_
        refine q_iload_n C dX6_readTape_96 (n := 97) rfl rfl ?_
        refine q_iload_n C dX6_readTape_97 (n := 98) rfl rfl ?_
        refine q_callVi C dX6_readTape_98 (n := 101) rfl m_X6_225 v_yX6_cutLine h0.1 ⟨by decide, rfl⟩ (c_X6_cutLine (w := w) (J := J28) hI29 hF h0 v3 v2 (by omega) (by omega) (by omega)) (Nat.le_of_ble_eq_true rfl) rfl rfl (Nat.le_of_ble_eq_true rfl) ⟨Nat.le_refl _, Nat.le_refl _⟩ (fun x40 M36 J37  hI38 h39 => ?_)
        obtain ⟨hk41, h35⟩ := h39
        have hK42 := hK32.tr hk41 (by decide)
        exact q_zret C dX6_readTape_101 ⟨rfl, rfl⟩ (by omega) (by rw [hPo]; exact ⟨x40, M36, J37, R33, rfl, rfl, hI38, hK42, by omega, (zRo.rf.tal e34), (Or.inr (zup_s e34))⟩)
      · refine q_aload_n C dX6_readTape_26 (n := 27) rfl rfl ?_
        refine q_iload C dX6_readTape_27 (n := 29) rfl rfl ?_
        have g43 := zI.at hI18 (g_b0 u15)
        refine q_bald C dX6_readTape_29 (n := 30) rfl t_b0 (by omega) (v := M16 b u15) rfl ?_
        refine q_bipush C dX6_readTape_30 (n := 32) rfl (x := 32) (by decide) ?_
        have J_44 : zK w p e 4 0 0 s m args below meth c 5 T Po 44 [.ref (w.2.1 + a), .null, .null, .null, zi u15] [] (T, M16, J17, R) := by
          refine q_aload_n C dX6_readTape_44 (n := 45) rfl rfl ?_
          refine q_getR C dX6_readTape_45 (n := 48) rfl f_X6_12 h0.1 (hF _ _ _ h0.2.2.2.1) ?_
          refine q_iconst C dX6_readTape_48 (n := 49) rfl ?_
          refine q_iconst C dX6_readTape_49 (n := 50) rfl ?_
          refine q_iconst C dX6_readTape_50 (n := 51) rfl ?_
          refine q_iload C dX6_readTape_51 (n := 53) rfl rfl ?_
          refine q_callSp C dX6_readTape_53 (n := 56) rfl m_X6_165 s_yX5_origin (c_X5_origin (w := w) (J := J17) hI18 hF (-1) (-1) u15) (Nat.le_of_ble_eq_true rfl) rfl rfl (Nat.le_of_ble_eq_true rfl) ⟨Nat.le_refl _, Nat.le_refl _⟩ (fun x47 h48 => ?_)
          obtain ⟨h45, h46⟩ := h48
          refine q_callVv C dX6_readTape_56 (n := 59) rfl m_X6_180 v_yX1_meet h0.2.2.2.2.1.1 ⟨by decide, rfl⟩ (c_X1_meet (w := w) (J := J17) hI18 hF h0.2.2.2.2.1 1 x47 (by omega) (by omega)) (Nat.le_of_ble_eq_true rfl) rfl rfl (Nat.le_of_ble_eq_true rfl) ⟨Nat.le_refl _, Nat.le_refl _⟩ (fun M49 J50  hI51 h52 => ?_)
          have hK54 := hK19.tr h52 (by decide)
          refine q_iconst C dX6_readTape_59 (n := 60) rfl ?_
          exact q_zret C dX6_readTape_60 ⟨rfl, rfl⟩ (by omega) (by rw [hPo]; exact ⟨0, M49, J50, R, rfl, rfl, hI51, hK54, by omega, zRo.rf, (Or.inl rfl)⟩)
        refine q_icmp_lt C 44 dX6_readTape_32 (n := 35) rfl rfl (by omega) (fun h55 => ?_) (fun h55 => ?_)
        · exact zK.weak (J_44) (zwk_c (zwk_n (zwk_n (zwk_n (zwk_c zwk_e)))))
        · refine q_aload_n C dX6_readTape_35 (n := 36) rfl rfl ?_
          refine q_iload C dX6_readTape_36 (n := 38) rfl rfl ?_
          refine q_bald C dX6_readTape_38 (n := 39) rfl t_b0 (by omega) (v := M16 b u15) rfl ?_
          refine q_bipush C dX6_readTape_39 (n := 41) rfl (x := 126) (by decide) ?_
          refine q_icmp_le C 61 dX6_readTape_41 (n := 44) rfl rfl (by omega) (fun h56 => ?_) (fun h56 => ?_)
          · refine q_aload_n C dX6_readTape_61 (n := 62) rfl rfl ?_
            refine q_getR C dX6_readTape_62 (n := 65) rfl f_X6_71 h0.1 (hF _ _ _ h0.2.1) ?_
            refine q_getR C dX6_readTape_65 (n := 68) rfl f_X6_127 h0.2.2.1.1 (hF _ _ _ h0.2.2.1.2.1) ?_
            refine q_iload_n C dX6_readTape_68 (n := 69) rfl rfl ?_
            refine q_iload C dX6_readTape_69 (n := 71) rfl rfl ?_
            refine q_iadd C dX6_readTape_71 (n := 72) rfl (v := v3 + u15) rfl ?_
            refine q_aload_n C dX6_readTape_72 (n := 73) rfl rfl ?_
            refine q_iload C dX6_readTape_73 (n := 75) rfl rfl ?_
            refine q_bald C dX6_readTape_75 (n := 76) rfl t_b0 (by omega) (v := M16 b u15) rfl ?_
            refine q_bast C dX6_readTape_76 (n := 77) rfl h0.2.2.1.2.2.1 (by omega) (by omega) (fun M57 e58 => ?_)
            have hI59 : zI G M57 := hI18.put e58 (h0.2.2.1.2.2.2.1 (v3 + u15)) rfl (by omega)
            have hK60 := hK19.put e58 (h0.2.2.1.2.2.2.1 (v3 + u15)) (by decide)
            refine q_iinc C [.ref (w.2.1 + a), .ref (w.2.1 + b), zi v2, zi v3, zi (u15 + 1)] dX6_readTape_77 (n := 80) rfl rfl rfl rfl ?_
            refine q_goto C 20 dX6_readTape_80 rfl ?_
            exact zK.weak (ih24 (u15 + 1) M57 J17 hI59 hK60 (by omega) (by omega) (by omega)) (zwk_c (zwk_c (zwk_c (zwk_c (zwk_c zwk_e)))))
          · exact zK.weak (J_44) (zwk_c (zwk_n (zwk_n (zwk_n (zwk_c zwk_e)))))
  exact zK.weak (L_22 _ 0 M11 J2 hI13 hK14 (by omega) (by omega) (Int.self_le_toNat _)) (zwk_c (zwk_c (zwk_c (zwk_c (zwk_c zwk_e)))))
theorem c_X6_spread {w : zWp} {T : zTl} {M : zMm} {J : zJm} {R : zRm'} {G : zGt} {F : zRm'} {a L b tb : Nat} (hI : zI G M) (hF : zF F R) (h0 : zRunner T F G a L) (t_b0 : T[b]? = some (51, 440)) (g_b0 : ∀ k, G b k = (tb, (-128), 127)) (v2 : Int) (p1 : L ≤ 1000000) (p2 : 10000 ≤ L) (p3 : 0 ≤ v2 ∧ v2 ≤ 440) : zCt w 6 0 0 yX6_spread cX6_spread 3 (some .boolean) [.ref (w.2.1 + a), .ref (w.2.1 + b), zi v2] (T, M, J, R) (zPiE T G (fun x M2 R2 => (zKp G 13 M M2) ∧ (x = 0 ∨ x = 1) ∧ (zRo R R2 a))) := by
  refine zCt.of rfl (Nat.le_of_ble_eq_true rfl) ?_
  intro p e s m args below meth c C
  obtain ⟨Po, hPo⟩ : ∃ Po, Po = zPiE T G (fun x M2 R2 => (zKp G 13 M M2) ∧ (x = 0 ∨ x = 1) ∧ (zRo R R2 a)) := ⟨_, rfl⟩
  rw [← hPo]
  have hK0 : zKp G 13 M M := zKp.rf
  show zK w p e 6 0 0 s m args below meth c 3 T Po 0 [.ref (w.2.1 + a), .ref (w.2.1 + b), zi v2] [] (T, M, J, R)
  refine q_aload_n C dX6_spread_0 (n := 1) rfl rfl ?_
  refine q_getR C dX6_spread_1 (n := 4) rfl f_X6_23 h0.1 (hF _ _ _ h0.2.2.2.2.2.2.2.1) ?_
  refine q_iconst C dX6_spread_4 (n := 5) rfl ?_
  refine q_putI C dX6_spread_5 (n := 8) rfl f_X6_103 h0.2.2.2.2.2.2.2.2.1.1 ⟨rfl, rfl⟩ (fun M1 (e2 : M1 = zup M (a + 2) 3 0) => ?_)
  have hI3 : zI G M1 := hI.put e2 h0.2.2.2.2.2.2.2.2.1.2.2.2.2.2.2.2.2.2.2 rfl (by omega)
  have hK4 := hK0.put e2 h0.2.2.2.2.2.2.2.2.1.2.2.2.2.2.2.2.2.2.2 (by decide)
  refine q_aload_n C dX6_spread_8 (n := 9) rfl rfl ?_
  refine q_getR C dX6_spread_9 (n := 12) rfl f_X6_71 h0.1 (hF _ _ _ h0.2.1) ?_
  refine q_sipush C dX6_spread_12 (n := 15) rfl (x := 2576) (by decide) ?_
  refine q_putI C dX6_spread_15 (n := 18) rfl f_X6_106 h0.2.2.1.1 ⟨rfl, rfl⟩ (fun M5 (e6 : M5 = zup M1 (a + 22) 1 2576) => ?_)
  have hI7 : zI G M5 := hI3.put e6 h0.2.2.1.2.2.2.2 rfl (by omega)
  have hK8 := hK4.put e6 h0.2.2.1.2.2.2.2 (by decide)
  refine q_aload_n C dX6_spread_18 (n := 19) rfl rfl ?_
  refine q_aload_n C dX6_spread_19 (n := 20) rfl rfl ?_
  refine q_iload_n C dX6_spread_20 (n := 21) rfl rfl ?_
  refine q_sipush C dX6_spread_21 (n := 24) rfl (x := 1696) (by decide) ?_
  refine q_callViE C dX6_spread_24 (n := 27) rfl m_X6_368 v_yX6_readTape h0.1 ⟨by decide, rfl⟩ (c_X6_readTape (w := w) (J := J) hI7 hF h0 t_b0 g_b0 v2 1696 (by omega) (by omega) (by omega) (by omega)) (Nat.le_of_ble_eq_true rfl) rfl rfl (Nat.le_of_ble_eq_true rfl) ⟨Nat.le_refl _, Nat.le_refl _⟩ (fun x17 M12 J13 R16 hI14 h15 => ?_)
  obtain ⟨hk18, h9, h10, h11⟩ := h15
  have hK19 := hK8.tr hk18 (by decide)
  have hF : zF F R16 := h10.F hF h0.2.2.2.2.2.2.2.2.2.2.2.2.2.2.2.2.2.2.2.1.2.2.2.2.2.2.2.2.2.2.2.2.2.2.2.2.1 h0.2.2.2.2.2.2.2.2.2.2.2.2.2.2.2.2.2.2.2.2.2.1.2.2.2.2.2.1
  have J_24 : ∀ (M20 : zMm) (J21 : zJm), zI G M20 → zKp G 13 M M20 → zK w p e 6 0 0 s m args below meth c 3 T Po 46 [.ref (w.2.1 + a), .null, .null] [] (T, M20, J21, R16) := by
    intro M20 J21 hI22 hK23
    refine q_aload_n C dX6_spread_46 (n := 47) rfl rfl ?_
    refine q_getR C dX6_spread_47 (n := 50) rfl f_X6_12 h0.1 (hF _ _ _ h0.2.2.2.1) ?_
    have g25 := zI.at hI22 h0.2.2.2.2.1.2.1
    refine q_getI C dX6_spread_50 (n := 53) rfl f_X6_155 h0.2.2.2.2.1.1 (v := M20 (a + 1) 0) rfl ?_
    have J_30 : ∀ (M26 : zMm) (J27 : zJm), zI G M26 → zKp G 13 M M26 → zK w p e 6 0 0 s m args below meth c 3 T Po 64 [.ref (w.2.1 + a), .null, .null] [] (T, M26, J27, R16) := by
      intro M26 J27 hI28 hK29
      refine q_aload_n C dX6_spread_64 (n := 65) rfl rfl ?_
      refine q_getR C dX6_spread_65 (n := 68) rfl f_X6_12 h0.1 (hF _ _ _ h0.2.2.2.1) ?_
      have g31 := zI.at hI28 h0.2.2.2.2.1.2.1
      refine q_getI C dX6_spread_68 (n := 71) rfl f_X6_155 h0.2.2.2.2.1.1 (v := M26 (a + 1) 0) rfl ?_
      refine q_if_ne C 78 dX6_spread_71 (n := 74) rfl rfl (by omega) (fun h32 => ?_) (fun h32 => ?_)
      · refine q_iconst C dX6_spread_78 (n := 79) rfl ?_
        exact q_zret C dX6_spread_79 ⟨rfl, rfl⟩ (by omega) (by rw [hPo]; exact ⟨0, M26, J27, R16, rfl, rfl, hI28, hK29, by omega, h10⟩)
      · refine q_iconst C dX6_spread_74 (n := 75) rfl ?_
        refine q_goto C 79 dX6_spread_75 rfl ?_
        exact q_zret C dX6_spread_79 ⟨rfl, rfl⟩ (by omega) (by rw [hPo]; exact ⟨1, M26, J27, R16, rfl, rfl, hI28, hK29, by omega, h10⟩)
    refine q_if_eq C 64 dX6_spread_53 (n := 56) rfl rfl (by omega) (fun h33 => ?_) (fun h33 => ?_)
    · exact zK.weak (J_30 M20 J21 hI22 hK23) (zwk_c (zwk_n (zwk_n zwk_e)))
    · refine q_aload_n C dX6_spread_56 (n := 57) rfl rfl ?_
      refine q_getR C dX6_spread_57 (n := 60) rfl f_X6_23 h0.1 (hF _ _ _ h0.2.2.2.2.2.2.2.1) ?_
      refine q_iconst C dX6_spread_60 (n := 61) rfl ?_
      refine q_putI C dX6_spread_61 (n := 64) rfl f_X6_103 h0.2.2.2.2.2.2.2.2.1.1 ⟨rfl, rfl⟩ (fun M34 (e35 : M34 = zup M20 (a + 2) 3 0) => ?_)
      have hI36 : zI G M34 := hI22.put e35 h0.2.2.2.2.2.2.2.2.1.2.2.2.2.2.2.2.2.2.2 rfl (by omega)
      have hK37 := hK23.put e35 h0.2.2.2.2.2.2.2.2.1.2.2.2.2.2.2.2.2.2.2 (by decide)
      exact zK.weak (J_30 M34 J21 hI36 hK37) (zwk_c (zwk_n (zwk_n zwk_e)))
  refine q_if_eq C 46 dX6_spread_27 (n := 30) rfl rfl (by omega) (fun h38 => ?_) (fun h38 => ?_)
  · exact zK.weak (J_24 M12 J13 hI14 hK19) (zwk_c (zwk_n (zwk_n zwk_e)))
  · have htal := h11.resolve_left (by omega)
    have t_tl := h0.2.2.2.2.2.2.2.2.2.2.2.2.2.2.2.2.1
    have g_tl := h0.2.2.2.2.2.2.2.2.2.2.2.2.2.2.2.2.2.1
    refine q_aload_n C dX6_spread_30 (n := 31) rfl rfl ?_
    refine q_iconst C dX6_spread_31 (n := 32) rfl ?_
    refine q_callVv C dX6_spread_32 (n := 35) rfl m_X6_232 v_yX6_loadFrom h0.1 ⟨by decide, rfl⟩ (c_X6_loadFrom (w := w) (J := J13) hI14 hF h0 0 (by omega)) (Nat.le_of_ble_eq_true rfl) rfl rfl (Nat.le_of_ble_eq_true rfl) ⟨Nat.le_refl _, Nat.le_refl _⟩ (fun M39 J40  hI41 h42 => ?_)
    have hK44 := hK19.tr h42 (by decide)
    refine q_aload_n C dX6_spread_35 (n := 36) rfl rfl ?_
    refine q_getR C dX6_spread_36 (n := 39) rfl f_X6_89 h0.1 (hF _ _ _ h0.2.2.2.2.2.2.2.2.2.2.2.2.2.2.2.2.2.2.1) ?_
    refine q_aload_n C dX6_spread_39 (n := 40) rfl rfl ?_
    refine q_getR C dX6_spread_40 (n := 43) rfl f_X6_23 h0.1 (hF _ _ _ h0.2.2.2.2.2.2.2.1) ?_
    refine q_callVv C dX6_spread_43 (n := 46) rfl m_X6_201 v_yX0_go h0.2.2.2.2.2.2.2.2.2.2.2.2.2.2.2.2.2.2.2.1.1 ⟨by decide, rfl⟩ (c_X0_go (w := w) (J := J40) hI41 hF h0.2.2.2.2.2.2.2.2.2.2.2.2.2.2.2.2.2.2.2.1 h0.2.2.2.2.2.2.2.2.1 (by assumption) (by assumption) (by assumption) (by omega) (by omega)) (Nat.le_of_ble_eq_true rfl) rfl rfl (Nat.le_of_ble_eq_true rfl) ⟨Nat.le_refl _, Nat.le_refl _⟩ (fun M45 J46  hI47 h48 => ?_)
    have hK50 := hK44.tr h48 (by decide)
    exact zK.weak (J_24 M45 J46 hI47 hK50) (zwk_c (zwk_n (zwk_n zwk_e)))
theorem c_X6_worth {w : zWp} {T : zTl} {M : zMm} {J : zJm} {R : zRm'} {G : zGt} {F : zRm'} {a L b tb : Nat} (hI : zI G M) (hF : zF F R) (h0 : zRunner T F G a L) (t_b0 : T[b]? = some (51, 440)) (g_b0 : ∀ k, G b k = (tb, (-128), 127)) (v2 : Int) (p1 : L ≤ 1000000) (p2 : 10000 ≤ L) (p3 : 0 ≤ v2 ∧ v2 ≤ 440) : zCt w 123 0 0 yX6_worth cX6_worth 6 (some .long) [.ref (w.2.1 + a), .ref (w.2.1 + b), zi v2] (T, M, J, R) (zPlE T G (fun M2 R2 => (zKp G 13 M M2) ∧ (zRo R R2 a))) := by
  refine zCt.of rfl (Nat.le_of_ble_eq_true rfl) ?_
  intro p e s m args below meth c C
  obtain ⟨Po, hPo⟩ : ∃ Po, Po = zPlE T G (fun M2 R2 => (zKp G 13 M M2) ∧ (zRo R R2 a)) := ⟨_, rfl⟩
  rw [← hPo]
  have hK0 : zKp G 13 M M := zKp.rf
  show zK w p e 123 0 0 s m args below meth c 6 T Po 0 [.ref (w.2.1 + a), .ref (w.2.1 + b), zi v2, .null, .null, .null] [] (T, M, J, R)
  refine q_aload_n C dX6_worth_0 (n := 1) rfl rfl ?_
  refine q_getR C dX6_worth_1 (n := 4) rfl f_X6_71 h0.1 (hF _ _ _ h0.2.1) ?_
  have g1 := zI.at hI h0.2.2.1.2.2.2.2
  refine q_getI C dX6_worth_4 (n := 7) rfl f_X6_106 h0.2.2.1.1 (v := M (a + 22) 1) rfl ?_
  refine q_istore_n C [.ref (w.2.1 + a), .ref (w.2.1 + b), zi v2, zi (M (a + 22) 1), .null, .null] dX6_worth_7 (n := 8) rfl rfl rfl ?_
  refine q_lconst C dX6_worth_8 (n := 9) rfl ?_
  refine q_lstore C [.ref (w.2.1 + a), .ref (w.2.1 + b), zi v2, zi (M (a + 22) 1), .long (Int64.ofNat ((0 : Fin 2) : Nat)), .null] dX6_worth_9 (n := 11) rfl rfl rfl ?_
  refine q_aload_n C dX6_worth_11 (n := 12) rfl rfl ?_
  refine q_aload_n C dX6_worth_12 (n := 13) rfl rfl ?_
  refine q_iload_n C dX6_worth_13 (n := 14) rfl rfl ?_
  refine q_sipush C dX6_worth_14 (n := 17) rfl (x := 2136) (by decide) ?_
  refine q_callViE C dX6_worth_17 (n := 20) rfl m_X6_368 v_yX6_readTape h0.1 ⟨by decide, rfl⟩ (c_X6_readTape (w := w) (J := J) hI hF h0 t_b0 g_b0 v2 2136 (by omega) (by omega) (by omega) (by omega)) (Nat.le_of_ble_eq_true rfl) rfl rfl (Nat.le_of_ble_eq_true rfl) ⟨Nat.le_refl _, Nat.le_refl _⟩ (fun x10 M5 J6 R9 hI7 h8 => ?_)
  obtain ⟨hk11, h2, h3, h4⟩ := h8
  have hK12 := hK0.tr hk11 (by decide)
  have hF : zF F R9 := h3.F hF h0.2.2.2.2.2.2.2.2.2.2.2.2.2.2.2.2.2.2.2.1.2.2.2.2.2.2.2.2.2.2.2.2.2.2.2.2.1 h0.2.2.2.2.2.2.2.2.2.2.2.2.2.2.2.2.2.2.2.2.2.1.2.2.2.2.2.1
  have J_17 : ∀ (M13 : zMm) (J14 : zJm), zI G M13 → zKp G 13 M M13 → zK w p e 123 0 0 s m args below meth c 6 T Po 47 [.ref (w.2.1 + a), .null, .null, zi (M (a + 22) 1), .long (Int64.ofNat ((0 : Fin 2) : Nat)), .null] [] (T, M13, J14, R9) := by
    intro M13 J14 hI15 hK16
    refine q_aload_n C dX6_worth_47 (n := 48) rfl rfl ?_
    refine q_getR C dX6_worth_48 (n := 51) rfl f_X6_12 h0.1 (hF _ _ _ h0.2.2.2.1) ?_
    have g18 := zI.at hI15 h0.2.2.2.2.1.2.1
    refine q_getI C dX6_worth_51 (n := 54) rfl f_X6_155 h0.2.2.2.2.1.1 (v := M13 (a + 1) 0) rfl ?_
    refine q_if_ne C 74 dX6_worth_54 (n := 57) rfl rfl (by omega) (fun h19 => ?_) (fun h19 => ?_)
    · refine q_aload_n C dX6_worth_74 (n := 75) rfl rfl ?_
      refine q_getR C dX6_worth_75 (n := 78) rfl f_X6_71 h0.1 (hF _ _ _ h0.2.1) ?_
      refine q_iload_n C dX6_worth_78 (n := 79) rfl rfl ?_
      refine q_putI C dX6_worth_79 (n := 82) rfl f_X6_106 h0.2.2.1.1 ⟨rfl, rfl⟩ (fun M20 (e21 : M20 = zup M13 (a + 22) 1 (M (a + 22) 1)) => ?_)
      have hI22 : zI G M20 := hI15.put e21 h0.2.2.1.2.2.2.2 rfl (by omega)
      have hK23 := hK16.put e21 h0.2.2.1.2.2.2.2 (by decide)
      refine q_lload C dX6_worth_82 (n := 84) rfl rfl ?_
      exact q_lret C dX6_worth_84 ⟨rfl, rfl⟩ (by rw [hPo]; exact ⟨Int64.ofNat ((0 : Fin 2) : Nat), M20, J14, R9, rfl, rfl, hI22, hK23, h3⟩)
    · refine q_aload_n C dX6_worth_57 (n := 58) rfl rfl ?_
      refine q_getR C dX6_worth_58 (n := 61) rfl f_X6_96 h0.1 (hF _ _ _ h0.2.2.2.2.2.2.2.2.2.2.2.2.2.2.2.2.2.2.2.2.1) ?_
      refine q_aload_n C dX6_worth_61 (n := 62) rfl rfl ?_
      refine q_getR C dX6_worth_62 (n := 65) rfl f_X6_40 h0.1 (hF _ _ _ h0.2.2.2.2.2.2.2.2.2.2.2.2.2.2.2.2.2.2.2.2.2.2.2.2.1) ?_
      refine q_aload_n C dX6_worth_65 (n := 66) rfl rfl ?_
      have g24 := zI.at hI15 h0.2.2.2.2.2.2.2.2.2.2.2.2.2.2.2.2.2.2.2.2.2.2.2.2.2.2.2.2.2.2.2.2.2.2.2.2.2.2.2.2.2.2.2.2
      refine q_getI C dX6_worth_66 (n := 69) rfl f_X6_65 h0.1 (v := M13 a 19) rfl ?_
      refine q_callVlR C dX6_worth_69 (n := 72) rfl m_X6_208 v_yX9_whole h0.2.2.2.2.2.2.2.2.2.2.2.2.2.2.2.2.2.2.2.2.2.1.1 ⟨by decide, rfl⟩ (c_X9_whole (w := w) (J := J14) hI15 hF h0.2.2.2.2.2.2.2.2.2.2.2.2.2.2.2.2.2.2.2.2.2.1 h0.2.2.2.2.2.2.2.2.2.2.2.2.2.2.2.2.2.2.2.2.2.2.2.2.2.1 (M13 a 19) (by omega) (by omega)) (Nat.le_of_ble_eq_true rfl) rfl rfl (Nat.le_of_ble_eq_true rfl) ⟨Nat.le_refl _, Nat.le_refl _⟩ (fun l29 M25 J26  hI27 h28 => ?_)
      have hK31 := hK16.tr h28 (by decide)
      obtain ⟨R32, e33⟩ : ∃ q, q = zup R9 (a + 753) 2 (some (a + 13)) := ⟨_, rfl⟩
      rw [← e33]
      have hF := hF.put e33 h0.2.2.2.2.2.2.2.2.2.2.2.2.2.2.2.2.2.2.2.2.2.1.2.2.2.2.2.1
      refine q_lstore C [.ref (w.2.1 + a), .null, .null, zi (M (a + 22) 1), .long l29, .null] dX6_worth_72 (n := 74) rfl rfl rfl ?_
      refine q_aload_n C dX6_worth_74 (n := 75) rfl rfl ?_
      refine q_getR C dX6_worth_75 (n := 78) rfl f_X6_71 h0.1 (hF _ _ _ h0.2.1) ?_
      refine q_iload_n C dX6_worth_78 (n := 79) rfl rfl ?_
      refine q_putI C dX6_worth_79 (n := 82) rfl f_X6_106 h0.2.2.1.1 ⟨rfl, rfl⟩ (fun M34 (e35 : M34 = zup M25 (a + 22) 1 (M (a + 22) 1)) => ?_)
      have hI36 : zI G M34 := hI27.put e35 h0.2.2.1.2.2.2.2 rfl (by omega)
      have hK37 := hK31.put e35 h0.2.2.1.2.2.2.2 (by decide)
      refine q_lload C dX6_worth_82 (n := 84) rfl rfl ?_
      exact q_lret C dX6_worth_84 ⟨rfl, rfl⟩ (by rw [hPo]; exact ⟨l29, M34, J26, R32, rfl, rfl, hI36, hK37, (h3.row e33)⟩)
  refine q_if_eq C 47 dX6_worth_20 (n := 23) rfl rfl (by omega) (fun h38 => ?_) (fun h38 => ?_)
  · exact zK.weak (J_17 M5 J6 hI7 hK12) (zwk_c (zwk_n (zwk_n (zwk_c (zwk_c (zwk_n zwk_e))))))
  · have htal := h4.resolve_left (by omega)
    have t_tl := h0.2.2.2.2.2.2.2.2.2.2.2.2.2.2.2.2.1
    have g_tl := h0.2.2.2.2.2.2.2.2.2.2.2.2.2.2.2.2.2.1
    refine q_aload_n C dX6_worth_23 (n := 24) rfl rfl ?_
    refine q_iconst C dX6_worth_24 (n := 25) rfl ?_
    refine q_callVv C dX6_worth_25 (n := 28) rfl m_X6_310 v_yX6_loadSum h0.1 ⟨by decide, rfl⟩ (c_X6_loadSum (w := w) (J := J6) hI7 hF h0 0 (by omega) (by omega) (by omega)) (Nat.le_of_ble_eq_true rfl) rfl rfl (Nat.le_of_ble_eq_true rfl) ⟨Nat.le_refl _, Nat.le_refl _⟩ (fun M39 J40  hI41 h42 => ?_)
    have hK44 := hK12.tr h42 (by decide)
    refine q_aload_n C dX6_worth_28 (n := 29) rfl rfl ?_
    refine q_getR C dX6_worth_29 (n := 32) rfl f_X6_40 h0.1 (hF _ _ _ h0.2.2.2.2.2.2.2.2.2.2.2.2.2.2.2.2.2.2.2.2.2.2.2.2.1) ?_
    refine q_iconst C dX6_worth_32 (n := 33) rfl ?_
    refine q_putI C dX6_worth_33 (n := 36) rfl f_X6_103 h0.2.2.2.2.2.2.2.2.2.2.2.2.2.2.2.2.2.2.2.2.2.2.2.2.2.1.1 ⟨rfl, rfl⟩ (fun M45 (e46 : M45 = zup M39 (a + 13) 3 0) => ?_)
    have hI47 : zI G M45 := hI41.put e46 h0.2.2.2.2.2.2.2.2.2.2.2.2.2.2.2.2.2.2.2.2.2.2.2.2.2.1.2.2.2.2.2.2.2.2.2.2 rfl (by omega)
    have hK48 := hK44.put e46 h0.2.2.2.2.2.2.2.2.2.2.2.2.2.2.2.2.2.2.2.2.2.2.2.2.2.1.2.2.2.2.2.2.2.2.2.2 (by decide)
    refine q_aload_n C dX6_worth_36 (n := 37) rfl rfl ?_
    refine q_getR C dX6_worth_37 (n := 40) rfl f_X6_89 h0.1 (hF _ _ _ h0.2.2.2.2.2.2.2.2.2.2.2.2.2.2.2.2.2.2.1) ?_
    refine q_aload_n C dX6_worth_40 (n := 41) rfl rfl ?_
    refine q_getR C dX6_worth_41 (n := 44) rfl f_X6_40 h0.1 (hF _ _ _ h0.2.2.2.2.2.2.2.2.2.2.2.2.2.2.2.2.2.2.2.2.2.2.2.2.1) ?_
    refine q_callVv C dX6_worth_44 (n := 47) rfl m_X6_201 v_yX0_go h0.2.2.2.2.2.2.2.2.2.2.2.2.2.2.2.2.2.2.2.1.1 ⟨by decide, rfl⟩ (c_X0_go (w := w) (J := J40) hI47 hF h0.2.2.2.2.2.2.2.2.2.2.2.2.2.2.2.2.2.2.2.1 h0.2.2.2.2.2.2.2.2.2.2.2.2.2.2.2.2.2.2.2.2.2.2.2.2.2.1 (by assumption) (by assumption) (by assumption) (by omega) (by omega)) (Nat.le_of_ble_eq_true rfl) rfl rfl (Nat.le_of_ble_eq_true rfl) ⟨Nat.le_refl _, Nat.le_refl _⟩ (fun M49 J50  hI51 h52 => ?_)
    have hK54 := hK48.tr h52 (by decide)
    exact zK.weak (J_17 M49 J50 hI51 hK54) (zwk_c (zwk_n (zwk_n (zwk_c (zwk_c (zwk_n zwk_e))))))
