theorem c_X8_look {w : zWp} {T : zTl} {M : zMm} {J : zJm} {R : zRm'} {G : zGt} {F : zRm'} {a so : Nat} (hI : zI G M) (hF : zF F R) (h0 : zStudy T F G a) (h_src : zSource T F G so) (v2 : Int) (p1 : 0 ≤ v2 ∧ v2 ≤ 3) (p2 : zSA M so) : zCt w 124 0 0 yX8_look cX8_look 6 none [.ref (w.2.1 + a), .ref (w.2.1 + so), zi v2] (T, M, J, R) (zPvE T G (fun M2 R2 => (zKp G 17 M M2) ∧ (zRz R R2 (a + 1)))) := by
  refine zCt.of rfl (Nat.le_of_ble_eq_true rfl) ?_
  intro p e s m args below meth c C
  obtain ⟨Po, hPo⟩ : ∃ Po, Po = zPvE T G (fun M2 R2 => (zKp G 17 M M2) ∧ (zRz R R2 (a + 1))) := ⟨_, rfl⟩
  rw [← hPo]
  have hK0 : zKp G 17 M M := zKp.rf
  show zK w p e 124 0 0 s m args below meth c 6 T Po 0 [.ref (w.2.1 + a), .ref (w.2.1 + so), zi v2, .null, .null, .null] [] (T, M, J, R)
  refine q_aload_n C dX8_look_0 (n := 1) rfl rfl ?_
  have g1 := zI.at hI h0.2.2.2.2.2.2.2.2.2.2.2.2.2.2.2
  refine q_getI C dX8_look_1 (n := 4) rfl f_X8_35 h0.1 (v := M a 5) rfl ?_
  refine q_iload_n C dX8_look_4 (n := 5) rfl rfl ?_
  refine q_icmp_ne C 9 dX8_look_5 (n := 8) rfl rfl (by omega) (fun h2 => ?_) (fun h2 => ?_)
  · refine q_aload_n C dX8_look_9 (n := 10) rfl rfl ?_
    refine q_iload_n C dX8_look_10 (n := 11) rfl rfl ?_
    refine q_putI C dX8_look_11 (n := 14) rfl f_X8_35 h0.1 ⟨rfl, rfl⟩ (fun M3 (e4 : M3 = zup M a 5 v2) => ?_)
    have hI5 : zI G M3 := hI.put e4 h0.2.2.2.2.2.2.2.2.2.2.2.2.2.2.2 rfl (by omega)
    have hK6 := hK0.put e4 h0.2.2.2.2.2.2.2.2.2.2.2.2.2.2.2 (by decide)
    refine q_aload_n C dX8_look_14 (n := 15) rfl rfl ?_
    refine q_getR C dX8_look_15 (n := 18) rfl f_X8_32 h0.1 (hF _ _ _ h0.2.2.2.2.2.2.2.2.2.2.2.2.1) ?_
    refine q_iconst C dX8_look_18 (n := 19) rfl ?_
    refine q_callSv C dX8_look_19 (n := 22) rfl m_X8_39 s_yJ7_fill_53178 (c_J7_fill (w := w) (J := J) hI5 hF h0.2.2.2.2.2.2.2.2.2.2.2.2.2.1 h0.2.2.2.2.2.2.2.2.2.2.2.2.2.2.1 0 (by omega) (by omega)) (Nat.le_of_ble_eq_true rfl) rfl rfl (Nat.le_of_ble_eq_true rfl) ⟨Nat.le_refl _, Nat.le_refl _⟩ (fun M7 J8  hI9 h10 => ?_)
    have hK12 := hK6.tr h10 (by decide)
    refine q_iconst C dX8_look_22 (n := 23) rfl ?_
    refine q_istore_n C [.ref (w.2.1 + a), .ref (w.2.1 + so), zi v2, zi 0, .null, .null] dX8_look_23 (n := 24) rfl rfl rfl ?_
    have L_22 : ∀ n23 : Nat, ∀ (u13 : Int) (R14 : zRm') (M15 : zMm) (J16 : zJm), zF F R14 → zI G M15 → zKp G 17 M M15 → (-2147483648 ≤ u13 ∧ u13 ≤ 2147483647) → (0 ≤ u13 ∧ u13 ≤ 8) → (zRz R R14 (a + 1)) → (8 - u13 + 1 ≤ (n23 : Int)) → zK w p e 124 0 0 s m args below meth c 6 T Po 24 [.ref (w.2.1 + a), .ref (w.2.1 + so), zi v2, zi u13, .null, .null] [] (T, M15, J16, R14) := by
      intro n23
      induction n23 with
      | zero =>
        intro u13 R14 M15 J16 hF hI17 hK18 h19 h20 h21 hm25
        exfalso
        omega
      | succ n23 ih24 =>
        intro u13 R14 M15 J16 hF hI17 hK18 h19 h20 h21 hm25
        refine q_iload_n C dX8_look_24 (n := 25) rfl rfl ?_
        refine q_iconst C dX8_look_25 (n := 26) rfl ?_
        refine q_aload_n C dX8_look_26 (n := 27) rfl rfl ?_
        have g26 := zI.at hI h_src.2.2.2.2.2.2.2.2.2.2.1
        refine q_getI C dX8_look_27 (n := 30) rfl f_X8_45 h_src.1 (v := M so 3) (hK18 _ _ (zle_t h_src.2.2.2.2.2.2.2.2.2.2.1 (by decide))) ?_
        refine q_ishl C dX8_look_30 (n := 31) rfl (v := zshl 1 (M so 3)) rfl ?_
        have g27 := zr_shl 1 (M so 3)
        have g28 : 0 ≤ M so 3 ∧ M so 3 ≤ 3 → 1 ≤ zshl 1 (M so 3) ∧ zshl 1 (M so 3) ≤ 8 := fun h => zshl1 h
        refine q_icmp_ge C 152 dX8_look_31 (n := 34) rfl rfl (by omega) (fun h29 => ?_) (fun h29 => ?_)
        · exact q_vret C dX8_look_152 ⟨rfl, rfl⟩ (by rw [hPo]; exact ⟨M15, J16, R14, rfl, rfl, hI17, hK18, h21⟩)
        · refine q_iload_n C dX8_look_34 (n := 35) rfl rfl ?_
          refine q_bipush C dX8_look_35 (n := 37) rfl (x := 8) (by decide) ?_
          refine q_icmp_ge C 152 dX8_look_37 (n := 40) rfl rfl (by omega) (fun h30 => ?_) (fun h30 => ?_)
          · exact q_vret C dX8_look_152 ⟨rfl, rfl⟩ (by rw [hPo]; exact ⟨M15, J16, R14, rfl, rfl, hI17, hK18, h21⟩)
          · refine q_aload_n C dX8_look_40 (n := 41) rfl rfl ?_
            refine q_getR C dX8_look_41 (n := 44) rfl f_X8_14 h0.1 (hF _ _ _ h0.2.1) ?_
            refine q_aload_n C dX8_look_44 (n := 45) rfl rfl ?_
            refine q_iload_n C dX8_look_45 (n := 46) rfl rfl ?_
            refine q_iload_n C dX8_look_46 (n := 47) rfl rfl ?_
            refine q_callVvR C dX8_look_47 (n := 50) rfl m_X8_50 v_yX6_start h0.2.2.1.1 ⟨by decide, rfl⟩ (c_X6_start (w := w) (J := J16) hI17 hF h0.2.2.1 h_src v2 u13 (by omega) (by omega) (by omega) (by omega)) (Nat.le_of_ble_eq_true rfl) rfl rfl (Nat.le_of_ble_eq_true rfl) ⟨Nat.le_refl _, Nat.le_refl _⟩ (fun M32 J33  hI34 h35 => ?_)
            obtain ⟨hk36, h31⟩ := h35
            have hK37 := hK18.tr hk36 (by decide)
            obtain ⟨R38, e39⟩ : ∃ q, q = zup R14 (a + 1) 11 (some (so + 1)) := ⟨_, rfl⟩
            rw [← e39]
            have hF := hF.put e39 h0.2.2.1.2.2.2.2.2.2.2.2.2.2.2.2.2.2.2.2.2.2.2.2.2.2.2.2.2.2.1
            obtain ⟨R40, e41⟩ : ∃ q, q = zup R38 ((a + 1) + 39) 7 (some ((a + 1) + 6)) := ⟨_, rfl⟩
            rw [← e41]
            have hF := hF.put e41 h0.2.2.1.2.2.2.2.2.2.2.2.2.2.2.2.2.2.2.2.2.2.2.1.2.2.2.2.2.2.2.2.2.2.2.2.2.2.2.2.1
            refine q_iconst C dX8_look_50 (n := 51) rfl ?_
            refine q_istore C [.ref (w.2.1 + a), .ref (w.2.1 + so), zi v2, zi u13, zi 1, .null] dX8_look_51 (n := 53) rfl rfl rfl ?_
            refine q_iconst C dX8_look_53 (n := 54) rfl ?_
            refine q_istore C [.ref (w.2.1 + a), .ref (w.2.1 + so), zi v2, zi u13, zi 1, zi 0] dX8_look_54 (n := 56) rfl rfl rfl ?_
            have L_56 : ∀ n57 : Nat, ∀ (u42 : Int) (u43 : Int) (R44 : zRm') (M45 : zMm) (J46 : zJm), zF F R44 → zI G M45 → zKp G 17 M M45 → (-2147483648 ≤ u42 ∧ u42 ≤ 2147483647) → (-2147483648 ≤ u43 ∧ u43 ≤ 2147483647) → ((u42 = 0 ∨ u42 = 1) ∧ 0 ≤ u43 ∧ u43 ≤ 1000000) → (zLn M45 (a + 1)) → (zRz R R44 (a + 1)) → (R44 (a + 1) 11 = some (so + 1)) → (R44 (a + 1 + 39) 7 = some (a + 1 + 6)) → (1000001 - u43 ≤ (n57 : Int)) → zK w p e 124 0 0 s m args below meth c 6 T Po 56 [.ref (w.2.1 + a), .ref (w.2.1 + so), zi v2, zi u13, zi u42, zi u43] [] (T, M45, J46, R44) := by
              intro n57
              induction n57 with
              | zero =>
                intro u42 u43 R44 M45 J46 hF hI47 hK48 h49 h50 h51 h52 h53 h54 h55 hm59
                exfalso
                omega
              | succ n57 ih58 =>
                intro u42 u43 R44 M45 J46 hF hI47 hK48 h49 h50 h51 h52 h53 h54 h55 hm59
                refine q_iload C dX8_look_56 (n := 58) rfl rfl ?_
                refine q_ldc C dX8_look_58 (n := 60) rfl (x := 1000000) k_X8_54 ?_
                have J_61 : (zRz R R44 (a + 1)) → zK w p e 124 0 0 s m args below meth c 6 T Po 83 [.ref (w.2.1 + a), .ref (w.2.1 + so), zi v2, zi u13, .null, .null] [] (T, M45, J46, R44) := by
                  intro h60
                  refine q_iconst C dX8_look_83 (n := 84) rfl ?_
                  refine q_istore C [.ref (w.2.1 + a), .ref (w.2.1 + so), zi v2, zi u13, .null, zi 0] dX8_look_84 (n := 86) rfl rfl rfl ?_
                  have L_69 : ∀ n70 : Nat, ∀ (u62 : Int) (M63 : zMm) (J64 : zJm), zI G M63 → zKp G 17 M M63 → (-2147483648 ≤ u62 ∧ u62 ≤ 2147483647) → (0 ≤ u62 ∧ u62 ≤ 160) → (160 - u62 + 1 ≤ (n70 : Int)) → zK w p e 124 0 0 s m args below meth c 6 T Po 86 [.ref (w.2.1 + a), .ref (w.2.1 + so), zi v2, zi u13, .null, zi u62] [] (T, M63, J64, R44) := by
                    intro n70
                    induction n70 with
                    | zero =>
                      intro u62 M63 J64 hI65 hK66 h67 h68 hm72
                      exfalso
                      omega
                    | succ n70 ih71 =>
                      intro u62 M63 J64 hI65 hK66 h67 h68 hm72
                      refine q_iload C dX8_look_86 (n := 88) rfl rfl ?_
                      refine q_sipush C dX8_look_88 (n := 91) rfl (x := 160) (by decide) ?_
                      refine q_icmp_ge C 130 dX8_look_91 (n := 94) rfl rfl (by omega) (fun h73 => ?_) (fun h73 => ?_)
                      · refine q_aload_n C dX8_look_130 (n := 131) rfl rfl ?_
                        refine q_iload_n C dX8_look_131 (n := 132) rfl rfl ?_
                        refine q_callVv C dX8_look_132 (n := 135) rfl m_X8_62 v_yX8_keep h0.1 ⟨by decide, rfl⟩ (c_X8_keep (w := w) (J := J64) hI65 hF h0 u13 (by omega)) (Nat.le_of_ble_eq_true rfl) rfl rfl (Nat.le_of_ble_eq_true rfl) ⟨Nat.le_refl _, Nat.le_refl _⟩ (fun M74 J75  hI76 h77 => ?_)
                        have hK79 := hK66.tr h77 (by decide)
                        refine q_aload_n C dX8_look_135 (n := 136) rfl rfl ?_
                        refine q_getR C dX8_look_136 (n := 139) rfl f_X8_29 h0.1 (hF _ _ _ h0.2.2.2.2.2.2.2.2.2.1) ?_
                        refine q_iload_n C dX8_look_139 (n := 140) rfl rfl ?_
                        refine q_aload_n C dX8_look_140 (n := 141) rfl rfl ?_
                        refine q_iload_n C dX8_look_141 (n := 142) rfl rfl ?_
                        refine q_callVp C dX8_look_142 (n := 145) rfl m_X8_65 v_yX8_leastLike h0.1 ⟨by decide, rfl⟩ (c_X8_leastLike (w := w) (J := J75) hI76 hF h0 u13 (by omega)) (Nat.le_of_ble_eq_true rfl) rfl rfl (Nat.le_of_ble_eq_true rfl) ⟨Nat.le_refl _, Nat.le_refl _⟩ (fun x81 h82 => ?_)
                        refine q_iast C dX8_look_145 (n := 146) rfl h0.2.2.2.2.2.2.2.2.2.2.1 (by omega)  (fun M83 e84 => ?_)
                        have hI85 : zI G M83 := hI76.put e84 (h0.2.2.2.2.2.2.2.2.2.2.2.1 u13) rfl (by omega)
                        have hK86 := hK79.put e84 (h0.2.2.2.2.2.2.2.2.2.2.2.1 u13) (by decide)
                        refine q_iinc C [.ref (w.2.1 + a), .ref (w.2.1 + so), zi v2, zi (u13 + 1), .null, zi u62] dX8_look_146 (n := 149) rfl rfl rfl rfl ?_
                        refine q_goto C 24 dX8_look_149 rfl ?_
                        exact zK.weak (ih24 (u13 + 1) R44 M83 J75 hF hI85 hK86 (by omega) (by omega) h60 (by omega)) (zwk_c (zwk_c (zwk_c (zwk_c (zwk_n (zwk_n zwk_e))))))
                      · refine q_aload_n C dX8_look_94 (n := 95) rfl rfl ?_
                        refine q_getR C dX8_look_95 (n := 98) rfl f_X8_32 h0.1 (hF _ _ _ h0.2.2.2.2.2.2.2.2.2.2.2.2.1) ?_
                        refine q_iload C dX8_look_98 (n := 100) rfl rfl ?_
                        refine q_dup2 C dX8_look_100 (n := 101) rfl ⟨rfl, rfl⟩ ?_
                        have g87 := zI.at hI65 (h0.2.2.2.2.2.2.2.2.2.2.2.2.2.2.1 u62)
                        refine q_iald C dX8_look_101 (n := 102) rfl h0.2.2.2.2.2.2.2.2.2.2.2.2.2.1 (by omega) (v := M63 (a + 760) u62) rfl ?_
                        refine q_aload_n C dX8_look_102 (n := 103) rfl rfl ?_
                        refine q_getR C dX8_look_103 (n := 106) rfl f_X8_14 h0.1 (hF _ _ _ h0.2.1) ?_
                        refine q_getR C dX8_look_106 (n := 109) rfl f_X8_59 h0.2.2.1.1 (hF _ _ _ h0.2.2.1.2.2.2.2.2.2.2.2.2.2.2.2.1) ?_
                        refine q_iload C dX8_look_109 (n := 111) rfl rfl ?_
                        have g88 := zI.at hI65 (h0.2.2.1.2.2.2.2.2.2.2.2.2.2.2.2.2.2.1 u62)
                        refine q_iald C dX8_look_111 (n := 112) rfl h0.2.2.1.2.2.2.2.2.2.2.2.2.2.2.2.2.1 (by omega) (v := M63 (a + 1 + 7) u62) rfl ?_
                        have J_91 : ∀ (u89 : Int), (-2147483648 ≤ u89 ∧ u89 ≤ 2147483647) → zK w p e 124 0 0 s m args below meth c 6 T Po 122 [.ref (w.2.1 + a), .ref (w.2.1 + so), zi v2, zi u13, .null, zi u62] [zi u89, zi (M63 (a + 760) u62), zi u62, .ref (w.2.1 + (a + 760))] (T, M63, J64, R44) := by
                          intro u89 h90
                          refine q_ior C dX8_look_122 (n := 123) rfl (v := zor (M63 (a + 760) u62) u89) rfl ?_
                          have g92 := zr_or (M63 (a + 760) u62) u89
                          have g93 : zand (M63 (a + 760) u62) 31 = 0 → zand (zor (M63 (a + 760) u62) u89) 31 = zand u89 31 := fun h => zl_or h
                          refine q_iast C dX8_look_123 (n := 124) rfl h0.2.2.2.2.2.2.2.2.2.2.2.2.2.1 (by omega)  (fun M94 e95 => ?_)
                          have hI96 : zI G M94 := hI65.put e95 (h0.2.2.2.2.2.2.2.2.2.2.2.2.2.2.1 u62) rfl (by omega)
                          have hK97 := hK66.put e95 (h0.2.2.2.2.2.2.2.2.2.2.2.2.2.2.1 u62) (by decide)
                          refine q_iinc C [.ref (w.2.1 + a), .ref (w.2.1 + so), zi v2, zi u13, .null, zi (u62 + 1)] dX8_look_124 (n := 127) rfl rfl rfl rfl ?_
                          refine q_goto C 86 dX8_look_127 rfl ?_
                          exact zK.weak (ih71 (u62 + 1) M94 J64 hI96 hK97 (by omega) (by omega) (by omega)) (zwk_c (zwk_c (zwk_c (zwk_c (zwk_n (zwk_c zwk_e))))))
                        refine q_if_le C 121 dX8_look_112 (n := 115) rfl rfl (by omega) (fun h98 => ?_) (fun h98 => ?_)
                        · refine q_iconst C dX8_look_121 (n := 122) rfl ?_
                          exact zK.weak (J_91 0 (by omega)) (zwk_c (zwk_c (zwk_c (zwk_c (zwk_n (zwk_c zwk_e))))))
                        · refine q_iconst C dX8_look_115 (n := 116) rfl ?_
                          refine q_iload_n C dX8_look_116 (n := 117) rfl rfl ?_
                          refine q_ishl C dX8_look_117 (n := 118) rfl (v := zshl 1 u13) rfl ?_
                          have g99 := zr_shl 1 u13
                          have g100 : 0 ≤ u13 ∧ u13 ≤ 3 → 1 ≤ zshl 1 u13 ∧ zshl 1 u13 ≤ 8 := fun h => zshl1 h
                          refine q_goto C 122 dX8_look_118 rfl ?_
                          exact zK.weak (J_91 (zshl 1 u13) (by omega)) (zwk_c (zwk_c (zwk_c (zwk_c (zwk_n (zwk_c zwk_e))))))
                  exact zK.weak (L_69 _ 0 M45 J46 hI47 hK48 (by omega) (by omega) (Int.self_le_toNat _)) (zwk_c (zwk_c (zwk_c (zwk_c (zwk_n (zwk_c zwk_e))))))
                refine q_icmp_ge C 83 dX8_look_60 (n := 63) rfl rfl (by omega) (fun h101 => ?_) (fun h101 => ?_)
                · exact zK.weak (J_61 h53) (zwk_c (zwk_c (zwk_c (zwk_c (zwk_n (zwk_n zwk_e))))))
                · refine q_iload C dX8_look_63 (n := 65) rfl rfl ?_
                  refine q_if_eq C 83 dX8_look_65 (n := 68) rfl rfl (by omega) (fun h102 => ?_) (fun h102 => ?_)
                  · exact zK.weak (J_61 h53) (zwk_c (zwk_c (zwk_c (zwk_c (zwk_n (zwk_n zwk_e))))))
                  · refine q_aload_n C dX8_look_68 (n := 69) rfl rfl ?_
                    refine q_getR C dX8_look_69 (n := 72) rfl f_X8_14 h0.1 (hF _ _ _ h0.2.1) ?_
                    refine q_callViE C dX8_look_72 (n := 75) rfl m_X8_55 v_yX6_doLine h0.2.2.1.1 ⟨by decide, rfl⟩ (c_X6_doLine (w := w) (J := J46) hI47 hF h0.2.2.1 h54 h_src.2.2.1 h_src.2.2.2.1 h55 h0.2.2.1.2.2.2.2.2.2.2.2.2.2.1 h0.2.2.1.2.2.2.2.2.2.2.2.2.2.2.1 (by omega) (by omega) h52 (fun j j0 j1 => (zSA.kp p2 h_src hK48 (by decide) j j0 j1).1)) (Nat.le_of_ble_eq_true rfl) rfl rfl (Nat.le_of_ble_eq_true rfl) ⟨Nat.le_refl _, Nat.le_refl _⟩ (fun x111 M106 J107 R110 hI108 h109 => ?_)
                    obtain ⟨hk112, h103, h104, h105⟩ := h109
                    have hK113 := hK48.tr hk112 (by decide)
                    have hz114 : zRz R R110 (a + 1) := h105.elim (fun e => e ▸ h53) (fun e => zRz.up2 h53 e)
                    have hF : zF F R110 := h105.elim (fun e => e ▸ hF) (fun e => hF.put e h0.2.2.1.2.2.2.2.2.2.2.2.2.2.2.2.2.2.2.2.2.2.2.2.2.1.2.2.2.2.2.1)
                    have hz115 : R110 (a + 1) 11 = some (so + 1) := h105.elim (fun e => e ▸ h54) (fun e => (zup_p e (by omega) _).trans h54)
                    have hz116 : R110 (a + 1 + 39) 7 = some (a + 1 + 6) := h105.elim (fun e => e ▸ h55) (fun e => (zup_p e (by omega) _).trans h55)
                    refine q_istore C [.ref (w.2.1 + a), .ref (w.2.1 + so), zi v2, zi u13, zi x111, zi u43] dX8_look_75 (n := 77) rfl rfl rfl ?_
                    refine q_iinc C [.ref (w.2.1 + a), .ref (w.2.1 + so), zi v2, zi u13, zi x111, zi (u43 + 1)] dX8_look_77 (n := 80) rfl rfl rfl rfl ?_
                    refine q_goto C 56 dX8_look_80 rfl ?_
                    exact zK.weak (ih58 x111 (u43 + 1) R110 M106 J107 hF hI108 hK113 (by omega) (by omega) (by omega) h104 hz114 hz115 hz116 (by omega)) (zwk_c (zwk_c (zwk_c (zwk_c (zwk_c (zwk_c zwk_e))))))
            exact zK.weak (L_56 _ 1 0 R40 M32 J33 hF hI34 hK37 (by omega) (by omega) (by omega) h31 ((zRz.up7 (zRz.up11 h21 e39) e41)) ((zup_p e41 (by omega) _).trans (zup_s e39)) (zup_s e41) (Int.self_le_toNat _)) (zwk_c (zwk_c (zwk_c (zwk_c (zwk_c (zwk_c zwk_e))))))
    exact zK.weak (L_22 _ 0 R M7 J8 hF hI9 hK12 (by omega) (by omega) zRz.rf (Int.self_le_toNat _)) (zwk_c (zwk_c (zwk_c (zwk_c (zwk_n (zwk_n zwk_e))))))
  · exact q_vret C dX8_look_8 ⟨rfl, rfl⟩ (by rw [hPo]; exact ⟨M, J, R, rfl, rfl, hI, hK0, zRz.rf⟩)
