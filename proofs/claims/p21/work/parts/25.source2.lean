theorem c_X7_findNames {w : zWp} {T : zTl} {M : zMm} {J : zJm} {R : zRm'} {G : zGt} {F : zRm'} {a b tb : Nat} (hI : zI G M) (hF : zF F R) (h0 : zSource T F G a) (t_b0 : T[b]? = some (51, 440)) (g_b0 : ∀ k, G b k = (tb, (-128), 127)) (v2 : Int) (p1 : 0 ≤ v2 ∧ v2 ≤ 440) : zCt w 11 0 0 yX7_findNames cX7_findNames 6 (some .int) [.ref (w.2.1 + a), .ref (w.2.1 + b), zi v2] (T, M, J, R) (zPi T R G (fun x M2 => (zKp G 20 M M2) ∧ (-1 ≤ x ∧ x ≤ 3) ∧ (x = -1 ∨ zNm M2 a x) ∧ (zKr a 9 M M2))) := by
  refine zCt.of rfl (Nat.le_of_ble_eq_true rfl) ?_
  intro p e s m args below meth c C
  obtain ⟨Po, hPo⟩ : ∃ Po, Po = zPi T R G (fun x M2 => (zKp G 20 M M2) ∧ (-1 ≤ x ∧ x ≤ 3) ∧ (x = -1 ∨ zNm M2 a x) ∧ (zKr a 9 M M2)) := ⟨_, rfl⟩
  rw [← hPo]
  have hK0 : zKp G 20 M M := zKp.rf
  have hK1 : zKr a 9 M M := zKr.rf
  show zK w p e 11 0 0 s m args below meth c 6 T Po 0 [.ref (w.2.1 + a), .ref (w.2.1 + b), zi v2, .null, .null, .null] [] (T, M, J, R)
  refine q_iconst C dX7_findNames_0 (n := 1) rfl ?_
  refine q_istore_n C [.ref (w.2.1 + a), .ref (w.2.1 + b), zi v2, zi 0, .null, .null] dX7_findNames_1 (n := 2) rfl rfl rfl ?_
  refine q_iconst C dX7_findNames_2 (n := 3) rfl ?_
  refine q_istore C [.ref (w.2.1 + a), .ref (w.2.1 + b), zi v2, zi 0, zi 0, .null] dX7_findNames_3 (n := 5) rfl rfl rfl ?_
  have L_13 : ∀ n14 : Nat, ∀ (u1 : Int) (u2 : Int) (M3 : zMm) (J4 : zJm), zI G M3 → zKp G 20 M M3 → zKr a 9 M M3 → (-2147483648 ≤ u1 ∧ u1 ≤ 2147483647) → (-2147483648 ≤ u2 ∧ u2 ≤ 2147483647) → (0 ≤ u1 ∧ u1 ≤ 3) → (0 ≤ u2 ∧ u2 ≤ 440) → (zNm M3 a u1) → (440 - u2 + 1 ≤ (n14 : Int)) → zK w p e 11 0 0 s m args below meth c 6 T Po 5 [.ref (w.2.1 + a), .ref (w.2.1 + b), zi v2, zi u1, zi u2, .null] [] (T, M3, J4, R) := by
    intro n14
    induction n14 with
    | zero =>
      intro u1 u2 M3 J4 hI5 hK6 hK7 h8 h9 h10 h11 h12 hm16
      exfalso
      omega
    | succ n14 ih15 =>
      intro u1 u2 M3 J4 hI5 hK6 hK7 h8 h9 h10 h11 h12 hm16
      refine q_iload C dX7_findNames_5 (n := 7) rfl rfl ?_
      refine q_iload_n C dX7_findNames_7 (n := 8) rfl rfl ?_
      refine q_icmp_ge C 120 dX7_findNames_8 (n := 11) rfl rfl (by omega) (fun h17 => ?_) (fun h17 => ?_)
      · refine q_iload_n C dX7_findNames_120 (n := 121) rfl rfl ?_
        exact q_iret C dX7_findNames_121 ⟨rfl, rfl⟩ (by rw [hPo]; exact ⟨u1, M3, J4, rfl, rfl, hI5, hK6, by omega, (Or.inr h12), hK7⟩)
      · refine q_iload C dX7_findNames_11 (n := 13) rfl rfl ?_
        refine q_aload_n C dX7_findNames_13 (n := 14) rfl rfl ?_
        refine q_alen C dX7_findNames_14 (n := 15) rfl ⟨by decide, by decide⟩ t_b0 ?_
        show zK w p e 11 0 0 s m args below meth c 6 T Po 15 [.ref (w.2.1 + a), .ref (w.2.1 + b), zi v2, zi u1, zi u2, .null] [zi 440, zi u2] (T, M3, J4, R)
        refine q_icmp_ge C 120 dX7_findNames_15 (n := 18) rfl rfl (by omega) (fun h18 => ?_) (fun h18 => ?_)
        · refine q_iload_n C dX7_findNames_120 (n := 121) rfl rfl ?_
          exact q_iret C dX7_findNames_121 ⟨rfl, rfl⟩ (by rw [hPo]; exact ⟨u1, M3, J4, rfl, rfl, hI5, hK6, by omega, (Or.inr h12), hK7⟩)
        · refine q_iload C dX7_findNames_18 (n := 20) rfl rfl ?_
          refine q_istore C [.ref (w.2.1 + a), .ref (w.2.1 + b), zi v2, zi u1, zi u2, zi u2] dX7_findNames_20 (n := 22) rfl rfl rfl ?_
          have L_22 : ∀ n23 : Nat, ∀ (u19 : Int), (-2147483648 ≤ u19 ∧ u19 ≤ 2147483647) → (u2 ≤ u19 ∧ u19 ≤ v2) → (441 - u19 ≤ (n23 : Int)) → zK w p e 11 0 0 s m args below meth c 6 T Po 22 [.ref (w.2.1 + a), .ref (w.2.1 + b), zi v2, zi u1, zi u19, zi u2] [] (T, M3, J4, R) := by
            intro n23
            induction n23 with
            | zero =>
              intro u19 h20 h21 hm25
              exfalso
              omega
            | succ n23 ih24 =>
              intro u19 h20 h21 hm25
              refine q_iload C dX7_findNames_22 (n := 24) rfl rfl ?_
              refine q_iload_n C dX7_findNames_24 (n := 25) rfl rfl ?_
              have J_26 : zK w p e 11 0 0 s m args below meth c 6 T Po 44 [.ref (w.2.1 + a), .ref (w.2.1 + b), zi v2, zi u1, zi u19, zi u2] [] (T, M3, J4, R) := by
                refine q_iload C dX7_findNames_44 (n := 46) rfl rfl ?_
                refine q_iload C dX7_findNames_46 (n := 48) rfl rfl ?_
                have J_27 : zK w p e 11 0 0 s m args below meth c 6 T Po 62 [.ref (w.2.1 + a), .ref (w.2.1 + b), zi v2, zi u1, zi u19, zi u2] [] (T, M3, J4, R) := by
                  refine q_iload C dX7_findNames_62 (n := 64) rfl rfl ?_
                  refine q_iload C dX7_findNames_64 (n := 66) rfl rfl ?_
                  have J_40 : ∀ (u28 : Int) (u29 : Int) (M30 : zMm) (J31 : zJm), zI G M30 → zKp G 20 M M30 → zKr a 9 M M30 → (-2147483648 ≤ u28 ∧ u28 ≤ 2147483647) → (-2147483648 ≤ u29 ∧ u29 ≤ 2147483647) → (0 ≤ u28 ∧ u28 ≤ 3) → (u2 < u29 ∧ u29 ≤ 440) → (zNm M30 a u28) → zK w p e 11 0 0 s m args below meth c 6 T Po 117 [.ref (w.2.1 + a), .ref (w.2.1 + b), zi v2, zi u28, zi u29, .null] [] (T, M30, J31, R) := by
                    intro u28 u29 M30 J31 hI32 hK33 hK34 h35 h36 h37 h38 h39
                    refine q_goto C 5 dX7_findNames_117 rfl ?_
                    exact zK.weak (ih15 u28 u29 M30 J31 hI32 hK33 hK34 (by omega) (by omega) (by omega) (by omega) h39 (by omega)) (zwk_c (zwk_c (zwk_c (zwk_c (zwk_c (zwk_n zwk_e))))))
                  refine q_icmp_ne C 75 dX7_findNames_66 (n := 69) rfl rfl (by omega) (fun h41 => ?_) (fun h41 => ?_)
                  · refine q_iload_n C dX7_findNames_75 (n := 76) rfl rfl ?_
                    refine q_iconst C dX7_findNames_76 (n := 77) rfl ?_
                    refine q_icmp_ge C 115 dX7_findNames_77 (n := 80) rfl rfl (by omega) (fun h42 => ?_) (fun h42 => ?_)
                    · refine q_iconst C dX7_findNames_115 (n := 116) rfl ?_
                      exact q_iret C dX7_findNames_116 ⟨rfl, rfl⟩ (by rw [hPo]; exact ⟨(-1), M3, J4, rfl, rfl, hI5, hK6, by omega, (Or.inl rfl), hK7⟩)
                    · refine q_aload_n C dX7_findNames_80 (n := 81) rfl rfl ?_
                      refine q_aload_n C dX7_findNames_81 (n := 82) rfl rfl ?_
                      refine q_iload C dX7_findNames_82 (n := 84) rfl rfl ?_
                      refine q_iload C dX7_findNames_84 (n := 86) rfl rfl ?_
                      refine q_iload_n C dX7_findNames_86 (n := 87) rfl rfl ?_
                      refine q_callVp C dX7_findNames_87 (n := 90) rfl m_X7_66 v_yX7_isNewName h0.1 ⟨by decide, rfl⟩ (c_X7_isNewName (w := w) (J := J4) hI5 hF h0 t_b0 g_b0 u2 u19 u1 (by omega) (by omega)) (Nat.le_of_ble_eq_true rfl) rfl rfl (Nat.le_of_ble_eq_true rfl) ⟨Nat.le_refl _, Nat.le_refl _⟩ (fun x45 h46 => ?_)
                      obtain ⟨h43, h44⟩ := h46
                      refine q_if_eq C 115 dX7_findNames_90 (n := 93) rfl rfl (by omega) (fun h47 => ?_) (fun h47 => ?_)
                      · refine q_iconst C dX7_findNames_115 (n := 116) rfl ?_
                        exact q_iret C dX7_findNames_116 ⟨rfl, rfl⟩ (by rw [hPo]; exact ⟨(-1), M3, J4, rfl, rfl, hI5, hK6, by omega, (Or.inl rfl), hK7⟩)
                      · refine q_aload_n C dX7_findNames_93 (n := 94) rfl rfl ?_
                        refine q_getR C dX7_findNames_94 (n := 97) rfl f_X7_33 h0.1 (hF _ _ _ h0.2.2.2.2.2.2.2.2.2.2.2.2.1) ?_
                        refine q_iload_n C dX7_findNames_97 (n := 98) rfl rfl ?_
                        refine q_iload C dX7_findNames_98 (n := 100) rfl rfl ?_
                        refine q_iast C dX7_findNames_100 (n := 101) rfl h0.2.2.2.2.2.2.2.2.2.2.2.2.2.1 (by omega)  (fun M48 e49 => ?_)
                        have hI50 : zI G M48 := hI5.put e49 (h0.2.2.2.2.2.2.2.2.2.2.2.2.2.2.1 u1) rfl (by omega)
                        have hK51 := hK6.put e49 (h0.2.2.2.2.2.2.2.2.2.2.2.2.2.2.1 u1) (by decide)
                        have hK52 := hK7.put e49 (by omega)
                        refine q_aload_n C dX7_findNames_101 (n := 102) rfl rfl ?_
                        refine q_getR C dX7_findNames_102 (n := 105) rfl f_X7_36 h0.1 (hF _ _ _ h0.2.2.2.2.2.2.2.2.2.2.2.2.2.2.2.1) ?_
                        refine q_iload_n C dX7_findNames_105 (n := 106) rfl rfl ?_
                        refine q_iload C dX7_findNames_106 (n := 108) rfl rfl ?_
                        refine q_iast C dX7_findNames_108 (n := 109) rfl h0.2.2.2.2.2.2.2.2.2.2.2.2.2.2.2.2.1 (by omega)  (fun M53 e54 => ?_)
                        have hI55 : zI G M53 := hI50.put e54 (h0.2.2.2.2.2.2.2.2.2.2.2.2.2.2.2.2.2 u1) rfl (by omega)
                        have hK56 := hK51.put e54 (h0.2.2.2.2.2.2.2.2.2.2.2.2.2.2.2.2.2 u1) (by decide)
                        have hK57 := hK52.put e54 (by omega)
                        refine q_iinc C [.ref (w.2.1 + a), .ref (w.2.1 + b), zi v2, zi (u1 + 1), zi u19, zi u2] dX7_findNames_109 (n := 112) rfl rfl rfl rfl ?_
                        refine q_goto C 117 dX7_findNames_112 rfl ?_
                        exact zK.weak (J_40 (u1 + 1) u19 M53 J4 hI55 hK56 hK57 (by omega) (by omega) (by omega) (by omega) (h12.put e49 e54 (by omega))) (zwk_c (zwk_c (zwk_c (zwk_c (zwk_c (zwk_n zwk_e))))))
                  · refine q_iinc C [.ref (w.2.1 + a), .ref (w.2.1 + b), zi v2, zi u1, zi (u19 + 1), zi u2] dX7_findNames_69 (n := 72) rfl rfl rfl rfl ?_
                    refine q_goto C 117 dX7_findNames_72 rfl ?_
                    exact zK.weak (J_40 u1 (u19 + 1) M3 J4 hI5 hK6 hK7 (by omega) (by omega) (by omega) (by omega) h12) (zwk_c (zwk_c (zwk_c (zwk_c (zwk_c (zwk_n zwk_e))))))
                refine q_icmp_ne C 62 dX7_findNames_48 (n := 51) rfl rfl (by omega) (fun h58 => ?_) (fun h58 => ?_)
                · exact zK.weak (J_27) (zwk_c (zwk_c (zwk_c (zwk_c (zwk_c (zwk_c zwk_e))))))
                · refine q_aload_n C dX7_findNames_51 (n := 52) rfl rfl ?_
                  refine q_iload C dX7_findNames_52 (n := 54) rfl rfl ?_
                  have g59 := zI.at hI5 (g_b0 u19)
                  refine q_bald C dX7_findNames_54 (n := 55) rfl t_b0 (by omega) (v := M3 b u19) rfl ?_
                  refine q_bipush C dX7_findNames_55 (n := 57) rfl (x := 32) (by decide) ?_
                  refine q_icmp_eq C 62 dX7_findNames_57 (n := 60) rfl rfl (by omega) (fun h60 => ?_) (fun h60 => ?_)
                  · exact zK.weak (J_27) (zwk_c (zwk_c (zwk_c (zwk_c (zwk_c (zwk_c zwk_e))))))
                  · refine q_iconst C dX7_findNames_60 (n := 61) rfl ?_
                    exact q_iret C dX7_findNames_61 ⟨rfl, rfl⟩ (by rw [hPo]; exact ⟨(-1), M3, J4, rfl, rfl, hI5, hK6, by omega, (Or.inl rfl), hK7⟩)
              refine q_icmp_ge C 44 dX7_findNames_25 (n := 28) rfl rfl (by omega) (fun h61 => ?_) (fun h61 => ?_)
              · exact zK.weak (J_26) (zwk_c (zwk_c (zwk_c (zwk_c (zwk_c (zwk_c zwk_e))))))
              · refine q_aload_n C dX7_findNames_28 (n := 29) rfl rfl ?_
                refine q_iload C dX7_findNames_29 (n := 31) rfl rfl ?_
                have g62 := zI.at hI5 (g_b0 u19)
                refine q_bald C dX7_findNames_31 (n := 32) rfl t_b0 (by omega) (v := M3 b u19) rfl ?_
                refine q_callSp C dX7_findNames_32 (n := 35) rfl m_X7_61 s_yX10_isWord (c_X10_isWord (w := w) (J := J4) hI5 hF (M3 b u19) (by omega)) (Nat.le_of_ble_eq_true rfl) rfl rfl (Nat.le_of_ble_eq_true rfl) ⟨Nat.le_refl _, Nat.le_refl _⟩ (fun x64 h65 => ?_)
                refine q_if_eq C 44 dX7_findNames_35 (n := 38) rfl rfl (by omega) (fun h66 => ?_) (fun h66 => ?_)
                · exact zK.weak (J_26) (zwk_c (zwk_c (zwk_c (zwk_c (zwk_c (zwk_c zwk_e))))))
                · refine q_iinc C [.ref (w.2.1 + a), .ref (w.2.1 + b), zi v2, zi u1, zi (u19 + 1), zi u2] dX7_findNames_38 (n := 41) rfl rfl rfl rfl ?_
                  refine q_goto C 22 dX7_findNames_41 rfl ?_
                  exact zK.weak (ih24 (u19 + 1) (by omega) (by omega) (by omega)) (zwk_c (zwk_c (zwk_c (zwk_c (zwk_c (zwk_c zwk_e))))))
          exact zK.weak (L_22 _ u2 (by omega) (by omega) (Int.self_le_toNat _)) (zwk_c (zwk_c (zwk_c (zwk_c (zwk_c (zwk_c zwk_e))))))
  exact zK.weak (L_13 _ 0 0 M J hI hK0 hK1 (by omega) (by omega) (by omega) (by omega) (fun j j0 j1 => by omega) (Int.self_le_toNat _)) (zwk_c (zwk_c (zwk_c (zwk_c (zwk_c (zwk_n zwk_e))))))
theorem c_X7_readSwitches {w : zWp} {T : zTl} {M : zMm} {J : zJm} {R : zRm'} {G : zGt} {F : zRm'} {a b tb : Nat} (hI : zI G M) (hF : zF F R) (h0 : zSource T F G a) (t_b0 : T[b]? = some (51, 440)) (g_b0 : ∀ k, G b k = (tb, (-128), 127)) (v2 : Int) (p1 : 0 ≤ v2 ∧ v2 ≤ 440) : zCt w 12 0 0 yX7_readSwitches cX7_readSwitches 5 (some .int) [.ref (w.2.1 + a), .ref (w.2.1 + b), zi v2] (T, M, J, R) (zPi T R G (fun x M2 => (zKp G 20 M M2) ∧ (-1 ≤ x ∧ x ≤ 3) ∧ (zKr a 9 M M2))) := by
  refine zCt.of rfl (Nat.le_of_ble_eq_true rfl) ?_
  intro p e s m args below meth c C
  obtain ⟨Po, hPo⟩ : ∃ Po, Po = zPi T R G (fun x M2 => (zKp G 20 M M2) ∧ (-1 ≤ x ∧ x ≤ 3) ∧ (zKr a 9 M M2)) := ⟨_, rfl⟩
  rw [← hPo]
  have hK0 : zKp G 20 M M := zKp.rf
  have hK1 : zKr a 9 M M := zKr.rf
  show zK w p e 12 0 0 s m args below meth c 5 T Po 0 [.ref (w.2.1 + a), .ref (w.2.1 + b), zi v2, .null, .null] [] (T, M, J, R)
  refine q_aload_n C dX7_readSwitches_0 (n := 1) rfl rfl ?_
  refine q_aload_n C dX7_readSwitches_1 (n := 2) rfl rfl ?_
  refine q_iload_n C dX7_readSwitches_2 (n := 3) rfl rfl ?_
  refine q_callVi C dX7_readSwitches_3 (n := 6) rfl m_X7_51 v_yX7_findNames h0.1 ⟨by decide, rfl⟩ (c_X7_findNames (w := w) (J := J) hI hF h0 t_b0 g_b0 v2 (by omega)) (Nat.le_of_ble_eq_true rfl) rfl rfl (Nat.le_of_ble_eq_true rfl) ⟨Nat.le_refl _, Nat.le_refl _⟩ (fun x8 M4 J5  hI6 h7 => ?_)
  obtain ⟨hk9, h1, h2, h3⟩ := h7
  have hK10 := hK0.tr hk9 (by decide)
  have hK11 := hK1.tr h3
  refine q_istore_n C [.ref (w.2.1 + a), .ref (w.2.1 + b), zi v2, zi x8, .null] dX7_readSwitches_6 (n := 7) rfl rfl rfl ?_
  refine q_iload_n C dX7_readSwitches_7 (n := 8) rfl rfl ?_
  refine q_iconst C dX7_readSwitches_8 (n := 9) rfl ?_
  refine q_icmp_ne C 14 dX7_readSwitches_9 (n := 12) rfl rfl (by omega) (fun h12 => ?_) (fun h12 => ?_)
  · have nm := h2.resolve_left (by omega)
    refine q_iconst C dX7_readSwitches_14 (n := 15) rfl ?_
    refine q_istore C [.ref (w.2.1 + a), .ref (w.2.1 + b), zi v2, zi x8, zi 0] dX7_readSwitches_15 (n := 17) rfl rfl rfl ?_
    have L_22 : ∀ n23 : Nat, ∀ (u13 : Int) (M14 : zMm) (J15 : zJm), zI G M14 → zKp G 20 M M14 → zKr a 9 M M14 → (-2147483648 ≤ u13 ∧ u13 ≤ 2147483647) → (0 ≤ u13 ∧ u13 ≤ 3) → (zNm M14 a x8) → (3 - u13 + 1 ≤ (n23 : Int)) → zK w p e 12 0 0 s m args below meth c 5 T Po 17 [.ref (w.2.1 + a), .ref (w.2.1 + b), .null, zi x8, zi u13] [] (T, M14, J15, R) := by
      intro n23
      induction n23 with
      | zero =>
        intro u13 M14 J15 hI16 hK17 hK18 h19 h20 h21 hm25
        exfalso
        omega
      | succ n23 ih24 =>
        intro u13 M14 J15 hI16 hK17 hK18 h19 h20 h21 hm25
        refine q_iload C dX7_readSwitches_17 (n := 19) rfl rfl ?_
        refine q_iload_n C dX7_readSwitches_19 (n := 20) rfl rfl ?_
        refine q_icmp_ge C 77 dX7_readSwitches_20 (n := 23) rfl rfl (by omega) (fun h26 => ?_) (fun h26 => ?_)
        · refine q_aload_n C dX7_readSwitches_77 (n := 78) rfl rfl ?_
          refine q_iload_n C dX7_readSwitches_78 (n := 79) rfl rfl ?_
          refine q_putI C dX7_readSwitches_79 (n := 82) rfl f_X7_26 h0.1 ⟨rfl, rfl⟩ (fun M27 (e28 : M27 = zup M14 a 3 x8) => ?_)
          have hI29 : zI G M27 := hI16.put e28 h0.2.2.2.2.2.2.2.2.2.2.1 rfl (by omega)
          have hK30 := hK17.put e28 h0.2.2.2.2.2.2.2.2.2.2.1 (by decide)
          have hK31 := hK18.put e28 (by omega)
          refine q_aload_n C dX7_readSwitches_82 (n := 83) rfl rfl ?_
          refine q_iconst C dX7_readSwitches_83 (n := 84) rfl ?_
          refine q_putI C dX7_readSwitches_84 (n := 87) rfl f_X7_30 h0.1 ⟨rfl, rfl⟩ (fun M32 (e33 : M32 = zup M27 a 4 0) => ?_)
          have hI34 : zI G M32 := hI29.put e33 h0.2.2.2.2.2.2.2.2.2.2.2.1 rfl (by omega)
          have hK35 := hK30.put e33 h0.2.2.2.2.2.2.2.2.2.2.2.1 (by decide)
          have hK36 := hK31.put e33 (by omega)
          refine q_iload_n C dX7_readSwitches_87 (n := 88) rfl rfl ?_
          exact q_iret C dX7_readSwitches_88 ⟨rfl, rfl⟩ (by rw [hPo]; exact ⟨x8, M32, J15, rfl, rfl, hI34, hK35, by omega, hK36⟩)
        · have q1 := h21 (u13) (by omega) (by omega)
          refine q_aload_n C dX7_readSwitches_23 (n := 24) rfl rfl ?_
          refine q_getR C dX7_readSwitches_24 (n := 27) rfl f_X7_22 h0.1 (hF _ _ _ h0.2.2.2.2.2.2.2.1) ?_
          refine q_iload C dX7_readSwitches_27 (n := 29) rfl rfl ?_
          refine q_aload_n C dX7_readSwitches_29 (n := 30) rfl rfl ?_
          refine q_getR C dX7_readSwitches_30 (n := 33) rfl f_X7_36 h0.1 (hF _ _ _ h0.2.2.2.2.2.2.2.2.2.2.2.2.2.2.2.1) ?_
          refine q_iload C dX7_readSwitches_33 (n := 35) rfl rfl ?_
          have g37 := zI.at hI16 (h0.2.2.2.2.2.2.2.2.2.2.2.2.2.2.2.2.2 u13)
          refine q_iald C dX7_readSwitches_35 (n := 36) rfl h0.2.2.2.2.2.2.2.2.2.2.2.2.2.2.2.2.1 (by omega) (v := M14 (a + 8) u13) rfl ?_
          refine q_aload_n C dX7_readSwitches_36 (n := 37) rfl rfl ?_
          refine q_getR C dX7_readSwitches_37 (n := 40) rfl f_X7_33 h0.1 (hF _ _ _ h0.2.2.2.2.2.2.2.2.2.2.2.2.1) ?_
          refine q_iload C dX7_readSwitches_40 (n := 42) rfl rfl ?_
          have g38 := zI.at hI16 (h0.2.2.2.2.2.2.2.2.2.2.2.2.2.2.1 u13)
          refine q_iald C dX7_readSwitches_42 (n := 43) rfl h0.2.2.2.2.2.2.2.2.2.2.2.2.2.1 (by omega) (v := M14 (a + 7) u13) rfl ?_
          refine q_isub C dX7_readSwitches_43 (n := 44) rfl (v := (M14 (a + 8) u13) - (M14 (a + 7) u13)) rfl ?_
          refine q_iast C dX7_readSwitches_44 (n := 45) rfl h0.2.2.2.2.2.2.2.2.1 (by omega)  (fun M39 e40 => ?_)
          have hI41 : zI G M39 := hI16.put e40 (h0.2.2.2.2.2.2.2.2.2.1 u13) rfl (by omega)
          have hK42 := hK17.put e40 (h0.2.2.2.2.2.2.2.2.2.1 u13) (by decide)
          have hK43 := hK18.put e40 (by omega)
          refine q_aload_n C dX7_readSwitches_45 (n := 46) rfl rfl ?_
          refine q_aload_n C dX7_readSwitches_46 (n := 47) rfl rfl ?_
          refine q_getR C dX7_readSwitches_47 (n := 50) rfl f_X7_33 h0.1 (hF _ _ _ h0.2.2.2.2.2.2.2.2.2.2.2.2.1) ?_
          refine q_iload C dX7_readSwitches_50 (n := 52) rfl rfl ?_
          refine q_iald C dX7_readSwitches_52 (n := 53) rfl h0.2.2.2.2.2.2.2.2.2.2.2.2.2.1 (by omega) (v := M14 (a + 7) u13) (zup_p e40 (by omega) _) ?_
          refine q_aload_n C dX7_readSwitches_53 (n := 54) rfl rfl ?_
          refine q_getR C dX7_readSwitches_54 (n := 57) rfl f_X7_19 h0.1 (hF _ _ _ h0.2.2.2.2.1) ?_
          refine q_iload C dX7_readSwitches_57 (n := 59) rfl rfl ?_
          refine q_aald7 C dX7_readSwitches_59 (n := 60) rfl h0.2.2.2.2.2.1 (by omega) (hF _ _ _ (h0.2.2.2.2.2.2.1 u13 (by omega) (by omega)).1) ?_
          refine q_iconst C dX7_readSwitches_60 (n := 61) rfl ?_
          refine q_aload_n C dX7_readSwitches_61 (n := 62) rfl rfl ?_
          refine q_getR C dX7_readSwitches_62 (n := 65) rfl f_X7_22 h0.1 (hF _ _ _ h0.2.2.2.2.2.2.2.1) ?_
          refine q_iload C dX7_readSwitches_65 (n := 67) rfl rfl ?_
          refine q_iald C dX7_readSwitches_67 (n := 68) rfl h0.2.2.2.2.2.2.2.2.1 (by omega) (v := (M14 (a + 8) u13) - (M14 (a + 7) u13)) (zup_s e40) ?_
          refine q_copyB C dX7_readSwitches_68 (n := 71) rfl x_X7_55 t_b0 (h0.2.2.2.2.2.2.1 u13 (by omega) (by omega)).2.1 (by omega) (fun j => by have := zI.at hI41 (g_b0 j); omega) (Nat.le_of_ble_eq_true rfl) (Nat.le_of_ble_eq_true rfl) (fun M44 e45 => ?_)
          have hI46 : zI G M44 := hI41.cp e45 g_b0 (h0.2.2.2.2.2.2.1 u13 (by omega) (by omega)).2.2 rfl (by omega)
          have hK47 := hK42.cp e45 (h0.2.2.2.2.2.2.1 u13 (by omega) (by omega)).2.2 (by decide)
          have hK48 := hK43.cp e45 (by omega)
          refine q_iinc C [.ref (w.2.1 + a), .ref (w.2.1 + b), .null, zi x8, zi (u13 + 1)] dX7_readSwitches_71 (n := 74) rfl rfl rfl rfl ?_
          refine q_goto C 17 dX7_readSwitches_74 rfl ?_
          exact zK.weak (ih24 (u13 + 1) M44 J15 hI46 hK47 hK48 (by omega) (by omega) (h21.cg (fun j => ((zcp_p e45 (by omega) _).trans (zup_p e40 (by omega) _))) (fun j => ((zcp_p e45 (by omega) _).trans (zup_p e40 (by omega) _)))) (by omega)) (zwk_c (zwk_c (zwk_n (zwk_c (zwk_c zwk_e)))))
    exact zK.weak (L_22 _ 0 M4 J5 hI6 hK10 hK11 (by omega) (by omega) nm (Int.self_le_toNat _)) (zwk_c (zwk_c (zwk_n (zwk_c (zwk_c zwk_e)))))
  · refine q_iconst C dX7_readSwitches_12 (n := 13) rfl ?_
    exact q_iret C dX7_readSwitches_13 ⟨rfl, rfl⟩ (by rw [hPo]; exact ⟨(-1), M4, J5, rfl, rfl, hI6, hK10, by omega, hK11⟩)
