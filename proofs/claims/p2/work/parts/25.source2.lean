theorem c_X7_findNames {w : zWp} {T : zTl} {M : zMm} {J : zJm} {R : zRm'} {G : zGt} {F : zRm'} {a b tb : Nat} (hI : zI G M) (hF : zF F R) (h0 : zSource T F G a) (t_b0 : T[b]? = some (51, 440)) (g_b0 : ∀ k, G b k = (tb, (-128), 127)) (v2 : Int) (p1 : 0 ≤ v2 ∧ v2 ≤ 440) : zCt w 11 0 0 yX7_findNames cX7_findNames 6 (some .int) [.ref (w.2.1 + a), .ref (w.2.1 + b), zi v2] (T, M, J, R) (zPi T R G (fun x M2 => (zKp G 19 M M2) ∧ (-1 ≤ x ∧ x ≤ 3) ∧ (x = -1 ∨ zNm M2 a x))) := by
  refine zCt.of rfl (Nat.le_of_ble_eq_true rfl) ?_
  intro p e s m args below meth c C
  obtain ⟨Po, hPo⟩ : ∃ Po, Po = zPi T R G (fun x M2 => (zKp G 19 M M2) ∧ (-1 ≤ x ∧ x ≤ 3) ∧ (x = -1 ∨ zNm M2 a x)) := ⟨_, rfl⟩
  rw [← hPo]
  have hK0 : zKp G 19 M M := zKp.rf
  show zK w p e 11 0 0 s m args below meth c 6 T Po 0 [.ref (w.2.1 + a), .ref (w.2.1 + b), zi v2, .null, .null, .null] [] (T, M, J, R)
  refine q_iconst C dX7_findNames_0 (n := 1) rfl ?_
  refine q_istore_n C [.ref (w.2.1 + a), .ref (w.2.1 + b), zi v2, zi 0, .null, .null] dX7_findNames_1 (n := 2) rfl rfl rfl ?_
  refine q_iconst C dX7_findNames_2 (n := 3) rfl ?_
  refine q_istore C [.ref (w.2.1 + a), .ref (w.2.1 + b), zi v2, zi 0, zi 0, .null] dX7_findNames_3 (n := 5) rfl rfl rfl ?_
  have L_12 : ∀ n13 : Nat, ∀ (u1 : Int) (u2 : Int) (M3 : zMm) (J4 : zJm), zI G M3 → zKp G 19 M M3 → (-2147483648 ≤ u1 ∧ u1 ≤ 2147483647) → (-2147483648 ≤ u2 ∧ u2 ≤ 2147483647) → (0 ≤ u1 ∧ u1 ≤ 3) → (0 ≤ u2 ∧ u2 ≤ 440) → (zNm M3 a u1) → (440 - u2 + 1 ≤ (n13 : Int)) → zK w p e 11 0 0 s m args below meth c 6 T Po 5 [.ref (w.2.1 + a), .ref (w.2.1 + b), zi v2, zi u1, zi u2, .null] [] (T, M3, J4, R) := by
    intro n13
    induction n13 with
    | zero =>
      intro u1 u2 M3 J4 hI5 hK6 h7 h8 h9 h10 h11 hm15
      exfalso
      omega
    | succ n13 ih14 =>
      intro u1 u2 M3 J4 hI5 hK6 h7 h8 h9 h10 h11 hm15
      refine q_iload C dX7_findNames_5 (n := 7) rfl rfl ?_
      refine q_iload_n C dX7_findNames_7 (n := 8) rfl rfl ?_
      refine q_icmp_ge C 120 dX7_findNames_8 (n := 11) rfl rfl (by omega) (fun h16 => ?_) (fun h16 => ?_)
      · refine q_iload_n C dX7_findNames_120 (n := 121) rfl rfl ?_
        exact q_iret C dX7_findNames_121 ⟨rfl, rfl⟩ (by rw [hPo]; exact ⟨u1, M3, J4, rfl, rfl, hI5, hK6, by omega, (Or.inr h11)⟩)
      · refine q_iload C dX7_findNames_11 (n := 13) rfl rfl ?_
        refine q_aload_n C dX7_findNames_13 (n := 14) rfl rfl ?_
        refine q_alen C dX7_findNames_14 (n := 15) rfl ⟨by decide, by decide⟩ t_b0 ?_
        show zK w p e 11 0 0 s m args below meth c 6 T Po 15 [.ref (w.2.1 + a), .ref (w.2.1 + b), zi v2, zi u1, zi u2, .null] [zi 440, zi u2] (T, M3, J4, R)
        refine q_icmp_ge C 120 dX7_findNames_15 (n := 18) rfl rfl (by omega) (fun h17 => ?_) (fun h17 => ?_)
        · refine q_iload_n C dX7_findNames_120 (n := 121) rfl rfl ?_
          exact q_iret C dX7_findNames_121 ⟨rfl, rfl⟩ (by rw [hPo]; exact ⟨u1, M3, J4, rfl, rfl, hI5, hK6, by omega, (Or.inr h11)⟩)
        · refine q_iload C dX7_findNames_18 (n := 20) rfl rfl ?_
          refine q_istore C [.ref (w.2.1 + a), .ref (w.2.1 + b), zi v2, zi u1, zi u2, zi u2] dX7_findNames_20 (n := 22) rfl rfl rfl ?_
          have L_21 : ∀ n22 : Nat, ∀ (u18 : Int), (-2147483648 ≤ u18 ∧ u18 ≤ 2147483647) → (u2 ≤ u18 ∧ u18 ≤ v2) → (441 - u18 ≤ (n22 : Int)) → zK w p e 11 0 0 s m args below meth c 6 T Po 22 [.ref (w.2.1 + a), .ref (w.2.1 + b), zi v2, zi u1, zi u18, zi u2] [] (T, M3, J4, R) := by
            intro n22
            induction n22 with
            | zero =>
              intro u18 h19 h20 hm24
              exfalso
              omega
            | succ n22 ih23 =>
              intro u18 h19 h20 hm24
              refine q_iload C dX7_findNames_22 (n := 24) rfl rfl ?_
              refine q_iload_n C dX7_findNames_24 (n := 25) rfl rfl ?_
              have J_25 : zK w p e 11 0 0 s m args below meth c 6 T Po 44 [.ref (w.2.1 + a), .ref (w.2.1 + b), zi v2, zi u1, zi u18, zi u2] [] (T, M3, J4, R) := by
                refine q_iload C dX7_findNames_44 (n := 46) rfl rfl ?_
                refine q_iload C dX7_findNames_46 (n := 48) rfl rfl ?_
                have J_26 : zK w p e 11 0 0 s m args below meth c 6 T Po 62 [.ref (w.2.1 + a), .ref (w.2.1 + b), zi v2, zi u1, zi u18, zi u2] [] (T, M3, J4, R) := by
                  refine q_iload C dX7_findNames_62 (n := 64) rfl rfl ?_
                  refine q_iload C dX7_findNames_64 (n := 66) rfl rfl ?_
                  have J_38 : ∀ (u27 : Int) (u28 : Int) (M29 : zMm) (J30 : zJm), zI G M29 → zKp G 19 M M29 → (-2147483648 ≤ u27 ∧ u27 ≤ 2147483647) → (-2147483648 ≤ u28 ∧ u28 ≤ 2147483647) → (0 ≤ u27 ∧ u27 ≤ 3) → (u2 < u28 ∧ u28 ≤ 440) → (zNm M29 a u27) → zK w p e 11 0 0 s m args below meth c 6 T Po 117 [.ref (w.2.1 + a), .ref (w.2.1 + b), zi v2, zi u27, zi u28, .null] [] (T, M29, J30, R) := by
                    intro u27 u28 M29 J30 hI31 hK32 h33 h34 h35 h36 h37
                    refine q_goto C 5 dX7_findNames_117 rfl ?_
                    exact zK.weak (ih14 u27 u28 M29 J30 hI31 hK32 (by omega) (by omega) (by omega) (by omega) h37 (by omega)) (zwk_c (zwk_c (zwk_c (zwk_c (zwk_c (zwk_n zwk_e))))))
                  refine q_icmp_ne C 75 dX7_findNames_66 (n := 69) rfl rfl (by omega) (fun h39 => ?_) (fun h39 => ?_)
                  · refine q_iload_n C dX7_findNames_75 (n := 76) rfl rfl ?_
                    refine q_iconst C dX7_findNames_76 (n := 77) rfl ?_
                    refine q_icmp_ge C 115 dX7_findNames_77 (n := 80) rfl rfl (by omega) (fun h40 => ?_) (fun h40 => ?_)
                    · refine q_iconst C dX7_findNames_115 (n := 116) rfl ?_
                      exact q_iret C dX7_findNames_116 ⟨rfl, rfl⟩ (by rw [hPo]; exact ⟨(-1), M3, J4, rfl, rfl, hI5, hK6, by omega, (Or.inl rfl)⟩)
                    · refine q_aload_n C dX7_findNames_80 (n := 81) rfl rfl ?_
                      refine q_aload_n C dX7_findNames_81 (n := 82) rfl rfl ?_
                      refine q_iload C dX7_findNames_82 (n := 84) rfl rfl ?_
                      refine q_iload C dX7_findNames_84 (n := 86) rfl rfl ?_
                      refine q_iload_n C dX7_findNames_86 (n := 87) rfl rfl ?_
                      refine q_callVp C dX7_findNames_87 (n := 90) rfl m_X7_66 v_yX7_isNewName h0.1 ⟨by decide, rfl⟩ (c_X7_isNewName (w := w) (J := J4) hI5 hF h0 t_b0 g_b0 u2 u18 u1 (by omega) (by omega)) (Nat.le_of_ble_eq_true rfl) rfl rfl (Nat.le_of_ble_eq_true rfl) ⟨Nat.le_refl _, Nat.le_refl _⟩ (fun x43 h44 => ?_)
                      obtain ⟨h41, h42⟩ := h44
                      refine q_if_eq C 115 dX7_findNames_90 (n := 93) rfl rfl (by omega) (fun h45 => ?_) (fun h45 => ?_)
                      · refine q_iconst C dX7_findNames_115 (n := 116) rfl ?_
                        exact q_iret C dX7_findNames_116 ⟨rfl, rfl⟩ (by rw [hPo]; exact ⟨(-1), M3, J4, rfl, rfl, hI5, hK6, by omega, (Or.inl rfl)⟩)
                      · refine q_aload_n C dX7_findNames_93 (n := 94) rfl rfl ?_
                        refine q_getR C dX7_findNames_94 (n := 97) rfl f_X7_33 h0.1 (hF _ _ _ h0.2.2.2.2.2.2.2.2.2.2.2.2.1) ?_
                        refine q_iload_n C dX7_findNames_97 (n := 98) rfl rfl ?_
                        refine q_iload C dX7_findNames_98 (n := 100) rfl rfl ?_
                        refine q_iast C dX7_findNames_100 (n := 101) rfl h0.2.2.2.2.2.2.2.2.2.2.2.2.2.1 (by omega)  (fun M46 e47 => ?_)
                        have hI48 : zI G M46 := hI5.put e47 (h0.2.2.2.2.2.2.2.2.2.2.2.2.2.2.1 u1) rfl (by omega)
                        have hK49 := hK6.put e47 (h0.2.2.2.2.2.2.2.2.2.2.2.2.2.2.1 u1) (by decide)
                        refine q_aload_n C dX7_findNames_101 (n := 102) rfl rfl ?_
                        refine q_getR C dX7_findNames_102 (n := 105) rfl f_X7_36 h0.1 (hF _ _ _ h0.2.2.2.2.2.2.2.2.2.2.2.2.2.2.2.1) ?_
                        refine q_iload_n C dX7_findNames_105 (n := 106) rfl rfl ?_
                        refine q_iload C dX7_findNames_106 (n := 108) rfl rfl ?_
                        refine q_iast C dX7_findNames_108 (n := 109) rfl h0.2.2.2.2.2.2.2.2.2.2.2.2.2.2.2.2.1 (by omega)  (fun M50 e51 => ?_)
                        have hI52 : zI G M50 := hI48.put e51 (h0.2.2.2.2.2.2.2.2.2.2.2.2.2.2.2.2.2 u1) rfl (by omega)
                        have hK53 := hK49.put e51 (h0.2.2.2.2.2.2.2.2.2.2.2.2.2.2.2.2.2 u1) (by decide)
                        refine q_iinc C [.ref (w.2.1 + a), .ref (w.2.1 + b), zi v2, zi (u1 + 1), zi u18, zi u2] dX7_findNames_109 (n := 112) rfl rfl rfl rfl ?_
                        refine q_goto C 117 dX7_findNames_112 rfl ?_
                        exact zK.weak (J_38 (u1 + 1) u18 M50 J4 hI52 hK53 (by omega) (by omega) (by omega) (by omega) (h11.put e47 e51 (by omega))) (zwk_c (zwk_c (zwk_c (zwk_c (zwk_c (zwk_n zwk_e))))))
                  · refine q_iinc C [.ref (w.2.1 + a), .ref (w.2.1 + b), zi v2, zi u1, zi (u18 + 1), zi u2] dX7_findNames_69 (n := 72) rfl rfl rfl rfl ?_
                    refine q_goto C 117 dX7_findNames_72 rfl ?_
                    exact zK.weak (J_38 u1 (u18 + 1) M3 J4 hI5 hK6 (by omega) (by omega) (by omega) (by omega) h11) (zwk_c (zwk_c (zwk_c (zwk_c (zwk_c (zwk_n zwk_e))))))
                refine q_icmp_ne C 62 dX7_findNames_48 (n := 51) rfl rfl (by omega) (fun h54 => ?_) (fun h54 => ?_)
                · exact zK.weak (J_26) (zwk_c (zwk_c (zwk_c (zwk_c (zwk_c (zwk_c zwk_e))))))
                · refine q_aload_n C dX7_findNames_51 (n := 52) rfl rfl ?_
                  refine q_iload C dX7_findNames_52 (n := 54) rfl rfl ?_
                  have g55 := zI.at hI5 (g_b0 u18)
                  refine q_bald C dX7_findNames_54 (n := 55) rfl t_b0 (by omega) (v := M3 b u18) rfl ?_
                  refine q_bipush C dX7_findNames_55 (n := 57) rfl (x := 32) (by decide) ?_
                  refine q_icmp_eq C 62 dX7_findNames_57 (n := 60) rfl rfl (by omega) (fun h56 => ?_) (fun h56 => ?_)
                  · exact zK.weak (J_26) (zwk_c (zwk_c (zwk_c (zwk_c (zwk_c (zwk_c zwk_e))))))
                  · refine q_iconst C dX7_findNames_60 (n := 61) rfl ?_
                    exact q_iret C dX7_findNames_61 ⟨rfl, rfl⟩ (by rw [hPo]; exact ⟨(-1), M3, J4, rfl, rfl, hI5, hK6, by omega, (Or.inl rfl)⟩)
              refine q_icmp_ge C 44 dX7_findNames_25 (n := 28) rfl rfl (by omega) (fun h57 => ?_) (fun h57 => ?_)
              · exact zK.weak (J_25) (zwk_c (zwk_c (zwk_c (zwk_c (zwk_c (zwk_c zwk_e))))))
              · refine q_aload_n C dX7_findNames_28 (n := 29) rfl rfl ?_
                refine q_iload C dX7_findNames_29 (n := 31) rfl rfl ?_
                have g58 := zI.at hI5 (g_b0 u18)
                refine q_bald C dX7_findNames_31 (n := 32) rfl t_b0 (by omega) (v := M3 b u18) rfl ?_
                refine q_callSp C dX7_findNames_32 (n := 35) rfl m_X7_61 s_yX10_isWord (c_X10_isWord (w := w) (J := J4) hI5 hF (M3 b u18) (by omega)) (Nat.le_of_ble_eq_true rfl) rfl rfl (Nat.le_of_ble_eq_true rfl) ⟨Nat.le_refl _, Nat.le_refl _⟩ (fun x60 h61 => ?_)
                refine q_if_eq C 44 dX7_findNames_35 (n := 38) rfl rfl (by omega) (fun h62 => ?_) (fun h62 => ?_)
                · exact zK.weak (J_25) (zwk_c (zwk_c (zwk_c (zwk_c (zwk_c (zwk_c zwk_e))))))
                · refine q_iinc C [.ref (w.2.1 + a), .ref (w.2.1 + b), zi v2, zi u1, zi (u18 + 1), zi u2] dX7_findNames_38 (n := 41) rfl rfl rfl rfl ?_
                  refine q_goto C 22 dX7_findNames_41 rfl ?_
                  exact zK.weak (ih23 (u18 + 1) (by omega) (by omega) (by omega)) (zwk_c (zwk_c (zwk_c (zwk_c (zwk_c (zwk_c zwk_e))))))
          exact zK.weak (L_21 _ u2 (by omega) (by omega) (Int.self_le_toNat _)) (zwk_c (zwk_c (zwk_c (zwk_c (zwk_c (zwk_c zwk_e))))))
  exact zK.weak (L_12 _ 0 0 M J hI hK0 (by omega) (by omega) (by omega) (by omega) (fun j j0 j1 => by omega) (Int.self_le_toNat _)) (zwk_c (zwk_c (zwk_c (zwk_c (zwk_c (zwk_n zwk_e))))))
theorem c_X7_readSwitches {w : zWp} {T : zTl} {M : zMm} {J : zJm} {R : zRm'} {G : zGt} {F : zRm'} {a b tb : Nat} (hI : zI G M) (hF : zF F R) (h0 : zSource T F G a) (t_b0 : T[b]? = some (51, 440)) (g_b0 : ∀ k, G b k = (tb, (-128), 127)) (v2 : Int) (p1 : 0 ≤ v2 ∧ v2 ≤ 440) : zCt w 12 0 0 yX7_readSwitches cX7_readSwitches 5 (some .int) [.ref (w.2.1 + a), .ref (w.2.1 + b), zi v2] (T, M, J, R) (zPi T R G (fun x M2 => (zKp G 19 M M2) ∧ (-1 ≤ x ∧ x ≤ 3))) := by
  refine zCt.of rfl (Nat.le_of_ble_eq_true rfl) ?_
  intro p e s m args below meth c C
  obtain ⟨Po, hPo⟩ : ∃ Po, Po = zPi T R G (fun x M2 => (zKp G 19 M M2) ∧ (-1 ≤ x ∧ x ≤ 3)) := ⟨_, rfl⟩
  rw [← hPo]
  have hK0 : zKp G 19 M M := zKp.rf
  show zK w p e 12 0 0 s m args below meth c 5 T Po 0 [.ref (w.2.1 + a), .ref (w.2.1 + b), zi v2, .null, .null] [] (T, M, J, R)
  refine q_aload_n C dX7_readSwitches_0 (n := 1) rfl rfl ?_
  refine q_aload_n C dX7_readSwitches_1 (n := 2) rfl rfl ?_
  refine q_iload_n C dX7_readSwitches_2 (n := 3) rfl rfl ?_
  refine q_callVi C dX7_readSwitches_3 (n := 6) rfl m_X7_51 v_yX7_findNames h0.1 ⟨by decide, rfl⟩ (c_X7_findNames (w := w) (J := J) hI hF h0 t_b0 g_b0 v2 (by omega)) (Nat.le_of_ble_eq_true rfl) rfl rfl (Nat.le_of_ble_eq_true rfl) ⟨Nat.le_refl _, Nat.le_refl _⟩ (fun x7 M3 J4  hI5 h6 => ?_)
  obtain ⟨hk8, h1, h2⟩ := h6
  have hK9 := hK0.tr hk8 (by decide)
  refine q_istore_n C [.ref (w.2.1 + a), .ref (w.2.1 + b), zi v2, zi x7, .null] dX7_readSwitches_6 (n := 7) rfl rfl rfl ?_
  refine q_iload_n C dX7_readSwitches_7 (n := 8) rfl rfl ?_
  refine q_iconst C dX7_readSwitches_8 (n := 9) rfl ?_
  refine q_icmp_ne C 14 dX7_readSwitches_9 (n := 12) rfl rfl (by omega) (fun h10 => ?_) (fun h10 => ?_)
  · have nm := h2.resolve_left (by omega)
    refine q_iconst C dX7_readSwitches_14 (n := 15) rfl ?_
    refine q_istore C [.ref (w.2.1 + a), .ref (w.2.1 + b), zi v2, zi x7, zi 0] dX7_readSwitches_15 (n := 17) rfl rfl rfl ?_
    have L_19 : ∀ n20 : Nat, ∀ (u11 : Int) (M12 : zMm) (J13 : zJm), zI G M12 → zKp G 19 M M12 → (-2147483648 ≤ u11 ∧ u11 ≤ 2147483647) → (0 ≤ u11 ∧ u11 ≤ 3) → (zNm M12 a x7) → (3 - u11 + 1 ≤ (n20 : Int)) → zK w p e 12 0 0 s m args below meth c 5 T Po 17 [.ref (w.2.1 + a), .ref (w.2.1 + b), .null, zi x7, zi u11] [] (T, M12, J13, R) := by
      intro n20
      induction n20 with
      | zero =>
        intro u11 M12 J13 hI14 hK15 h16 h17 h18 hm22
        exfalso
        omega
      | succ n20 ih21 =>
        intro u11 M12 J13 hI14 hK15 h16 h17 h18 hm22
        refine q_iload C dX7_readSwitches_17 (n := 19) rfl rfl ?_
        refine q_iload_n C dX7_readSwitches_19 (n := 20) rfl rfl ?_
        refine q_icmp_ge C 77 dX7_readSwitches_20 (n := 23) rfl rfl (by omega) (fun h23 => ?_) (fun h23 => ?_)
        · refine q_aload_n C dX7_readSwitches_77 (n := 78) rfl rfl ?_
          refine q_iload_n C dX7_readSwitches_78 (n := 79) rfl rfl ?_
          refine q_putI C dX7_readSwitches_79 (n := 82) rfl f_X7_26 h0.1 ⟨rfl, rfl⟩ (fun M24 (e25 : M24 = zup M12 a 3 x7) => ?_)
          have hI26 : zI G M24 := hI14.put e25 h0.2.2.2.2.2.2.2.2.2.2.1 rfl (by omega)
          have hK27 := hK15.put e25 h0.2.2.2.2.2.2.2.2.2.2.1 (by decide)
          refine q_aload_n C dX7_readSwitches_82 (n := 83) rfl rfl ?_
          refine q_iconst C dX7_readSwitches_83 (n := 84) rfl ?_
          refine q_putI C dX7_readSwitches_84 (n := 87) rfl f_X7_30 h0.1 ⟨rfl, rfl⟩ (fun M28 (e29 : M28 = zup M24 a 4 0) => ?_)
          have hI30 : zI G M28 := hI26.put e29 h0.2.2.2.2.2.2.2.2.2.2.2.1 rfl (by omega)
          have hK31 := hK27.put e29 h0.2.2.2.2.2.2.2.2.2.2.2.1 (by decide)
          refine q_iload_n C dX7_readSwitches_87 (n := 88) rfl rfl ?_
          exact q_iret C dX7_readSwitches_88 ⟨rfl, rfl⟩ (by rw [hPo]; exact ⟨x7, M28, J13, rfl, rfl, hI30, hK31, by omega⟩)
        · have q1 := h18 (u11) (by omega) (by omega)
          refine q_aload_n C dX7_readSwitches_23 (n := 24) rfl rfl ?_
          refine q_getR C dX7_readSwitches_24 (n := 27) rfl f_X7_22 h0.1 (hF _ _ _ h0.2.2.2.2.2.2.2.1) ?_
          refine q_iload C dX7_readSwitches_27 (n := 29) rfl rfl ?_
          refine q_aload_n C dX7_readSwitches_29 (n := 30) rfl rfl ?_
          refine q_getR C dX7_readSwitches_30 (n := 33) rfl f_X7_36 h0.1 (hF _ _ _ h0.2.2.2.2.2.2.2.2.2.2.2.2.2.2.2.1) ?_
          refine q_iload C dX7_readSwitches_33 (n := 35) rfl rfl ?_
          have g32 := zI.at hI14 (h0.2.2.2.2.2.2.2.2.2.2.2.2.2.2.2.2.2 u11)
          refine q_iald C dX7_readSwitches_35 (n := 36) rfl h0.2.2.2.2.2.2.2.2.2.2.2.2.2.2.2.2.1 (by omega) (v := M12 (a + 8) u11) rfl ?_
          refine q_aload_n C dX7_readSwitches_36 (n := 37) rfl rfl ?_
          refine q_getR C dX7_readSwitches_37 (n := 40) rfl f_X7_33 h0.1 (hF _ _ _ h0.2.2.2.2.2.2.2.2.2.2.2.2.1) ?_
          refine q_iload C dX7_readSwitches_40 (n := 42) rfl rfl ?_
          have g33 := zI.at hI14 (h0.2.2.2.2.2.2.2.2.2.2.2.2.2.2.1 u11)
          refine q_iald C dX7_readSwitches_42 (n := 43) rfl h0.2.2.2.2.2.2.2.2.2.2.2.2.2.1 (by omega) (v := M12 (a + 7) u11) rfl ?_
          refine q_isub C dX7_readSwitches_43 (n := 44) rfl (v := (M12 (a + 8) u11) - (M12 (a + 7) u11)) rfl ?_
          refine q_iast C dX7_readSwitches_44 (n := 45) rfl h0.2.2.2.2.2.2.2.2.1 (by omega)  (fun M34 e35 => ?_)
          have hI36 : zI G M34 := hI14.put e35 (h0.2.2.2.2.2.2.2.2.2.1 u11) rfl (by omega)
          have hK37 := hK15.put e35 (h0.2.2.2.2.2.2.2.2.2.1 u11) (by decide)
          refine q_aload_n C dX7_readSwitches_45 (n := 46) rfl rfl ?_
          refine q_aload_n C dX7_readSwitches_46 (n := 47) rfl rfl ?_
          refine q_getR C dX7_readSwitches_47 (n := 50) rfl f_X7_33 h0.1 (hF _ _ _ h0.2.2.2.2.2.2.2.2.2.2.2.2.1) ?_
          refine q_iload C dX7_readSwitches_50 (n := 52) rfl rfl ?_
          refine q_iald C dX7_readSwitches_52 (n := 53) rfl h0.2.2.2.2.2.2.2.2.2.2.2.2.2.1 (by omega) (v := M12 (a + 7) u11) (zup_p e35 (by omega) _) ?_
          refine q_aload_n C dX7_readSwitches_53 (n := 54) rfl rfl ?_
          refine q_getR C dX7_readSwitches_54 (n := 57) rfl f_X7_19 h0.1 (hF _ _ _ h0.2.2.2.2.1) ?_
          refine q_iload C dX7_readSwitches_57 (n := 59) rfl rfl ?_
          refine q_aald7 C dX7_readSwitches_59 (n := 60) rfl h0.2.2.2.2.2.1 (by omega) (hF _ _ _ (h0.2.2.2.2.2.2.1 u11 (by omega) (by omega)).1) ?_
          refine q_iconst C dX7_readSwitches_60 (n := 61) rfl ?_
          refine q_aload_n C dX7_readSwitches_61 (n := 62) rfl rfl ?_
          refine q_getR C dX7_readSwitches_62 (n := 65) rfl f_X7_22 h0.1 (hF _ _ _ h0.2.2.2.2.2.2.2.1) ?_
          refine q_iload C dX7_readSwitches_65 (n := 67) rfl rfl ?_
          refine q_iald C dX7_readSwitches_67 (n := 68) rfl h0.2.2.2.2.2.2.2.2.1 (by omega) (v := (M12 (a + 8) u11) - (M12 (a + 7) u11)) (zup_s e35) ?_
          refine q_copyB C dX7_readSwitches_68 (n := 71) rfl x_X7_55 t_b0 (h0.2.2.2.2.2.2.1 u11 (by omega) (by omega)).2.1 (by omega) (fun j => by have := zI.at hI36 (g_b0 j); omega) (Nat.le_of_ble_eq_true rfl) (Nat.le_of_ble_eq_true rfl) (fun M38 e39 => ?_)
          have hI40 : zI G M38 := hI36.cp e39 g_b0 (h0.2.2.2.2.2.2.1 u11 (by omega) (by omega)).2.2 rfl (by omega)
          have hK41 := hK37.cp e39 (h0.2.2.2.2.2.2.1 u11 (by omega) (by omega)).2.2 (by decide)
          refine q_iinc C [.ref (w.2.1 + a), .ref (w.2.1 + b), .null, zi x7, zi (u11 + 1)] dX7_readSwitches_71 (n := 74) rfl rfl rfl rfl ?_
          refine q_goto C 17 dX7_readSwitches_74 rfl ?_
          exact zK.weak (ih21 (u11 + 1) M38 J13 hI40 hK41 (by omega) (by omega) (h18.cg (fun j => ((zcp_p e39 (by omega) _).trans (zup_p e35 (by omega) _))) (fun j => ((zcp_p e39 (by omega) _).trans (zup_p e35 (by omega) _)))) (by omega)) (zwk_c (zwk_c (zwk_n (zwk_c (zwk_c zwk_e)))))
    exact zK.weak (L_19 _ 0 M3 J4 hI5 hK9 (by omega) (by omega) nm (Int.self_le_toNat _)) (zwk_c (zwk_c (zwk_n (zwk_c (zwk_c zwk_e)))))
  · refine q_iconst C dX7_readSwitches_12 (n := 13) rfl ?_
    exact q_iret C dX7_readSwitches_13 ⟨rfl, rfl⟩ (by rw [hPo]; exact ⟨(-1), M3, J4, rfl, rfl, hI5, hK9, by omega⟩)
