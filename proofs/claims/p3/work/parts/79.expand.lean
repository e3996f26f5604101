theorem c_X12_expand {w : zWp} {T : zTl} {M : zMm} {J : zJm} {R : zRm'} {G : zGt} {F : zRm'} {a : Nat} (hI : zI G M) (hF : zF F R) (h0 : zModel T F G a) (p1 : zMt M a) : zCt w 8 0 0 yX12_expand cX12_expand 3 (some .int) [.ref (w.2.1 + a)] (T, M, J, R) (zPi T R G (fun x M2 => (zMd a [9, 10, 11, 12, 13, 14, 15, 16, 17, 18, 20, 24, 25, 26, 27, 28, 29, 30, 31, 32, 33, 34, 35, 36, 37, 38, 39, 40, 41, 42, 59, 60, 61, 62, 63, 64, 65, 66, 67, 68, 69, 70, 71, 72, 73, 74, 75, 76, 77] [0, 2, 3, 23, 24, 25, 26, 27, 28, 29, 34, 57, 58, 59, 60, 61, 62, 63, 64, 65, 99, 100, 112] [] M M2) ∧ (M2 a 2 = 0))) := by
  refine zCt.of rfl (Nat.le_of_ble_eq_true rfl) ?_
  intro p e s m args below meth c C
  obtain ⟨Po, hPo⟩ : ∃ Po, Po = zPi T R G (fun x M2 => (zMd a [9, 10, 11, 12, 13, 14, 15, 16, 17, 18, 20, 24, 25, 26, 27, 28, 29, 30, 31, 32, 33, 34, 35, 36, 37, 38, 39, 40, 41, 42, 59, 60, 61, 62, 63, 64, 65, 66, 67, 68, 69, 70, 71, 72, 73, 74, 75, 76, 77] [0, 2, 3, 23, 24, 25, 26, 27, 28, 29, 34, 57, 58, 59, 60, 61, 62, 63, 64, 65, 99, 100, 112] [] M M2) ∧ (M2 a 2 = 0)) := ⟨_, rfl⟩
  rw [← hPo]
  have hK0 : zMd a [9, 10, 11, 12, 13, 14, 15, 16, 17, 18, 20, 24, 25, 26, 27, 28, 29, 30, 31, 32, 33, 34, 35, 36, 37, 38, 39, 40, 41, 42, 59, 60, 61, 62, 63, 64, 65, 66, 67, 68, 69, 70, 71, 72, 73, 74, 75, 76, 77] [0, 2, 3, 23, 24, 25, 26, 27, 28, 29, 34, 57, 58, 59, 60, 61, 62, 63, 64, 65, 99, 100, 112] [] M M := zMd.rf
  show zK w p e 8 0 0 s m args below meth c 3 T Po 0 [.ref (w.2.1 + a), .null, .null] [] (T, M, J, R)
  refine q_aload_n C dX12_expand_0 (n := 1) rfl rfl ?_
  refine q_callVv C dX12_expand_1 (n := 4) rfl m_X12_293 v_yX12_taken (zM0 h0) ⟨by decide, rfl⟩ (c_X12_taken (w := w) (J := J) hI hF h0) (Nat.le_of_ble_eq_true rfl) rfl rfl (Nat.le_of_ble_eq_true rfl) ⟨Nat.le_refl _, Nat.le_refl _⟩ (fun M3 J4  hI5 h6 => ?_)
  obtain ⟨hk7, h1, h2⟩ := h6
  have hK8 := hK0.tr hk7 rfl rfl rfl
  refine q_aload_n C dX12_expand_4 (n := 5) rfl rfl ?_
  have hp9 : zMt M3 a := p1.cg (fun j => (hk7.getA rfl rfl rfl)) (fun j => (hk7.getA rfl rfl rfl))
  refine q_callVv C dX12_expand_5 (n := 8) rfl m_X12_712 v_yX12_asTold (zM0 h0) ⟨by decide, rfl⟩ (c_X12_asTold (w := w) (J := J4) hI5 hF h0 hp9) (Nat.le_of_ble_eq_true rfl) rfl rfl (Nat.le_of_ble_eq_true rfl) ⟨Nat.le_refl _, Nat.le_refl _⟩ (fun M14 J15  hI16 h17 => ?_)
  obtain ⟨hk18, h10, h11, h12, h13⟩ := h17
  have hK19 := hK8.tr hk18 rfl rfl rfl
  refine q_aload_n C dX12_expand_8 (n := 9) rfl rfl ?_
  refine q_callVi C dX12_expand_9 (n := 12) rfl m_X12_715 v_yX12_lexesTape (zM0 h0) ⟨by decide, rfl⟩ (c_X12_lexesTape (w := w) (J := J15) hI16 hF h0) (Nat.le_of_ble_eq_true rfl) rfl rfl (Nat.le_of_ble_eq_true rfl) ⟨Nat.le_refl _, Nat.le_refl _⟩ (fun x28 M24 J25  hI26 h27 => ?_)
  obtain ⟨hk29, h20, h21, h22, h23⟩ := h27
  have hK30 := hK19.tr hk29 rfl rfl rfl
  have J_41 : ∀ (u31 : Int) (M33 : zMm) (J34 : zJm), zI G M33 → zMd a [9, 10, 11, 12, 13, 14, 15, 16, 17, 18, 20, 24, 25, 26, 27, 28, 29, 30, 31, 32, 33, 34, 35, 36, 37, 38, 39, 40, 41, 42, 59, 60, 61, 62, 63, 64, 65, 66, 67, 68, 69, 70, 71, 72, 73, 74, 75, 76, 77] [0, 2, 3, 23, 24, 25, 26, 27, 28, 29, 34, 57, 58, 59, 60, 61, 62, 63, 64, 65, 99, 100, 112] [] M M33 → zMd a [9, 10, 11, 12, 13, 14, 15, 16, 17, 18, 24, 25, 26, 27, 28, 29, 30, 31, 32, 33, 34, 35, 36, 37, 38, 39, 40, 41, 42] [24, 25, 26, 34, 57, 58, 59, 60, 61, 62, 63, 64, 65] [] M24 M33 → (-2147483648 ≤ u31 ∧ u31 ≤ 2147483647) → (u31 = 0 ∨ u31 = 1) → (u31 = 0 ∨ zEy M33 a 0) → zK w p e 8 0 0 s m args below meth c 3 T Po 27 [.ref (w.2.1 + a), .null, .null] [zi u31] (T, M33, J34, R) := by
    intro u31 M33 J34 hI35 hK36 hK37 h38 h39 h40
    have hz42 : M33 a 0 = M3 a 0 := ((hK37.getS rfl rfl).trans ((hk29.getS rfl rfl).trans (hk18.getS rfl rfl)))
    refine q_istore_n C [.ref (w.2.1 + a), zi u31, .null] dX12_expand_27 (n := 28) rfl rfl rfl ?_
    refine q_aload_n C dX12_expand_28 (n := 29) rfl rfl ?_
    refine q_callVv C dX12_expand_29 (n := 32) rfl m_X12_706 v_yX12_tellsFault (zM0 h0) ⟨by decide, rfl⟩ (c_X12_tellsFault (w := w) (J := J34) hI35 hF h0) (Nat.le_of_ble_eq_true rfl) rfl rfl (Nat.le_of_ble_eq_true rfl) ⟨Nat.le_refl _, Nat.le_refl _⟩ (fun M43 J44  hI45 h46 => ?_)
    have hK48 := hK36.tr h46 rfl rfl rfl
    refine q_iconst C dX12_expand_32 (n := 33) rfl ?_
    refine q_istore_n C [.ref (w.2.1 + a), zi u31, zi 0] dX12_expand_33 (n := 34) rfl rfl rfl ?_
    have L_59 : ∀ n60 : Nat, ∀ (u49 : Int) (M51 : zMm) (J52 : zJm), zI G M51 → zMd a [9, 10, 11, 12, 13, 14, 15, 16, 17, 18, 20, 24, 25, 26, 27, 28, 29, 30, 31, 32, 33, 34, 35, 36, 37, 38, 39, 40, 41, 42, 59, 60, 61, 62, 63, 64, 65, 66, 67, 68, 69, 70, 71, 72, 73, 74, 75, 76, 77] [0, 2, 3, 23, 24, 25, 26, 27, 28, 29, 34, 57, 58, 59, 60, 61, 62, 63, 64, 65, 99, 100, 112] [] M M51 → zMd a [59, 60, 61, 62, 63, 64, 65, 66, 67] [99, 100] [] M43 M51 → (-2147483648 ≤ u49 ∧ u49 ≤ 2147483647) → (0 ≤ u49 ∧ u49 ≤ 3500) → (u31 = 0 ∨ zEy M51 a u49) → (3500 - u49 + 1 ≤ (n60 : Int)) → zK w p e 8 0 0 s m args below meth c 3 T Po 34 [.ref (w.2.1 + a), zi u31, zi u49] [] (T, M51, J52, R) := by
      intro n60
      induction n60 with
      | zero =>
        intro u49 M51 J52 hI53 hK54 hK55 h56 h57 h58 hm62
        exfalso
        omega
      | succ n60 ih61 =>
        intro u49 M51 J52 hI53 hK54 hK55 h56 h57 h58 hm62
        refine q_iload_n C dX12_expand_34 (n := 35) rfl rfl ?_
        refine q_aload_n C dX12_expand_35 (n := 36) rfl rfl ?_
        have g63 := zI.at hI35 (zM146 h0)
        refine q_getI C dX12_expand_36 (n := 39) rfl f_X12_451 (zM0 h0) (v := M33 a 61) ((hK55.getS rfl rfl).trans (h46.getS rfl rfl)) ?_
        have J_64 : zK w p e 8 0 0 s m args below meth c 3 T Po 62 [.ref (w.2.1 + a), zi u31, .null] [] (T, M51, J52, R) := by
          refine q_aload_n C dX12_expand_62 (n := 63) rfl rfl ?_
          refine q_iload_n C dX12_expand_63 (n := 64) rfl rfl ?_
          have J_68 : ∀ (u65 : Int), (-2147483648 ≤ u65 ∧ u65 ≤ 2147483647) → (0 ≤ u65 ∧ u65 ≤ 3500) → zK w p e 8 0 0 s m args below meth c 3 T Po 75 [.ref (w.2.1 + a), zi u31, .null] [zi u65, .ref (w.2.1 + a)] (T, M51, J52, R) := by
            intro u65 h66 h67
            refine q_callVv C dX12_expand_75 (n := 78) rfl m_X12_709 v_yX12_tellsTokens (zM0 h0) ⟨by decide, rfl⟩ (c_X12_tellsTokens (w := w) (J := J52) hI53 hF h0 u65 (by omega)) (Nat.le_of_ble_eq_true rfl) rfl rfl (Nat.le_of_ble_eq_true rfl) ⟨Nat.le_refl _, Nat.le_refl _⟩ (fun M69 J70  hI71 h72 => ?_)
            have hK74 := hK54.tr h72 rfl rfl rfl
            refine q_iload_n C dX12_expand_78 (n := 79) rfl rfl ?_
            refine q_if_eq C 89 dX12_expand_79 (n := 82) rfl rfl (by omega) (fun h75 => ?_) (fun h75 => ?_)
            · refine q_bipush C dX12_expand_89 (n := 91) rfl (x := (-2)) (by decide) ?_
              exact q_iret C dX12_expand_91 ⟨rfl, rfl⟩ (by rw [hPo]; exact ⟨(-2), M69, J70, rfl, rfl, hI71, hK74, by have hz76 : M69 a 2 = M3 a 2 := ((h72.getS rfl rfl).trans ((hK55.getS rfl rfl).trans ((h46.getS rfl rfl).trans ((hK37.getS rfl rfl).trans ((hk29.getS rfl rfl).trans (hk18.getS rfl rfl)))))); omega⟩)
            · refine q_aload_n C dX12_expand_82 (n := 83) rfl rfl ?_
              have g77 := zI.at hI53 (zM230 h0)
              refine q_getI C dX12_expand_83 (n := 86) rfl f_X12_636 (zM0 h0) (v := M51 a 99) (h72.getS rfl rfl) ?_
              refine q_goto C 91 dX12_expand_86 rfl ?_
              exact q_iret C dX12_expand_91 ⟨rfl, rfl⟩ (by rw [hPo]; exact ⟨M51 a 99, M69, J70, rfl, rfl, hI71, hK74, by have hz78 : M69 a 2 = M3 a 2 := ((h72.getS rfl rfl).trans ((hK55.getS rfl rfl).trans ((h46.getS rfl rfl).trans ((hK37.getS rfl rfl).trans ((hk29.getS rfl rfl).trans (hk18.getS rfl rfl)))))); omega⟩)
          refine q_if_eq C 74 dX12_expand_64 (n := 67) rfl rfl (by omega) (fun h79 => ?_) (fun h79 => ?_)
          · refine q_iconst C dX12_expand_74 (n := 75) rfl ?_
            exact zK.weak (J_68 0 (by omega) (by omega)) (zwk_c (zwk_c (zwk_n zwk_e)))
          · refine q_aload_n C dX12_expand_67 (n := 68) rfl rfl ?_
            have g80 := zI.at hI53 (zM230 h0)
            refine q_getI C dX12_expand_68 (n := 71) rfl f_X12_636 (zM0 h0) (v := M51 a 99) rfl ?_
            refine q_goto C 75 dX12_expand_71 rfl ?_
            exact zK.weak (J_68 (M51 a 99) (by omega) (by omega)) (zwk_c (zwk_c (zwk_n zwk_e)))
        refine q_icmp_ge C 62 dX12_expand_39 (n := 42) rfl rfl (by omega) (fun h81 => ?_) (fun h81 => ?_)
        · exact zK.weak (J_64) (zwk_c (zwk_c (zwk_n zwk_e)))
        · refine q_iload_n C dX12_expand_42 (n := 43) rfl rfl ?_
          refine q_if_eq C 62 dX12_expand_43 (n := 46) rfl rfl (by omega) (fun h82 => ?_) (fun h82 => ?_)
          · exact zK.weak (J_64) (zwk_c (zwk_c (zwk_n zwk_e)))
          · have hey := h58.resolve_left (by omega)
            have gey := zEy.num hey
            have hz83 : M51 a 61 = M33 a 61 := ((hK55.getS rfl rfl).trans (h46.getS rfl rfl))
            have hx34 : M51 (a + 11) (M51 (a + 41) u49) = M33 (a + 11) (M33 (a + 41) u49) := by rw [show M51 (a + 41) u49 = M33 (a + 41) u49 from ((hK55.getA rfl rfl rfl).trans (h46.getA rfl rfl rfl))]; exact ((hK55.getA rfl rfl rfl).trans (h46.getA rfl rfl rfl))
            refine q_aload_n C dX12_expand_46 (n := 47) rfl rfl ?_
            refine q_aload_n C dX12_expand_47 (n := 48) rfl rfl ?_
            refine q_getR C dX12_expand_48 (n := 51) rfl f_X12_138 (zM0 h0) (hF _ _ _ (zM136 h0)) ?_
            refine q_iload_n C dX12_expand_51 (n := 52) rfl rfl ?_
            have g84 := zI.at hI35 ((zM138 h0) u49)
            refine q_iald C dX12_expand_52 (n := 53) rfl (zM137 h0) (by omega) (v := M33 (a + 41) u49) ((hK55.getA rfl rfl rfl).trans (h46.getA rfl rfl rfl)) ?_
            refine q_callVv C dX12_expand_53 (n := 56) rfl m_X12_676 v_yX12_comes (zM0 h0) ⟨by decide, rfl⟩ (c_X12_comes (w := w) (J := J52) hI53 hF h0 (M33 (a + 41) u49) (by omega) (by omega) (by omega)) (Nat.le_of_ble_eq_true rfl) rfl rfl (Nat.le_of_ble_eq_true rfl) ⟨Nat.le_refl _, Nat.le_refl _⟩ (fun M88 J89  hI90 h91 => ?_)
            obtain ⟨hk92, h85, h86, h87⟩ := h91
            have hK93 := hK54.tr hk92 rfl rfl rfl
            have hK94 := hK55.tr hk92 rfl rfl rfl
            have hz95 : M51 (a + 11) (M33 (a + 41) u49) = M33 (a + 11) (M33 (a + 41) u49) := ((hK55.getA rfl rfl rfl).trans (h46.getA rfl rfl rfl))
            refine q_iinc C [.ref (w.2.1 + a), zi u31, zi (u49 + 1)] dX12_expand_56 (n := 59) rfl rfl rfl rfl ?_
            refine q_goto C 34 dX12_expand_59 rfl ?_
            exact zK.weak (ih61 (u49 + 1) M88 J89 hI90 hK93 hK94 (by omega) (by omega) (Or.inr (zEy.st (x := M33 (a + 11) (M33 (a + 41) u49)) hey (by omega) hx34 (hk92.getS rfl rfl) (by omega) (by omega) (fun j => (hk92.getA rfl rfl rfl)) (fun j => (hk92.getA rfl rfl rfl)))) (by omega)) (zwk_c (zwk_c (zwk_c zwk_e)))
    exact zK.weak (L_59 _ 0 M43 J44 hI45 hK48 (zMd.rf : zMd a [59, 60, 61, 62, 63, 64, 65, 66, 67] [99, 100] [] M43 M43) (by omega) (by omega) (h40.imp id (fun q => q.cg (h46.getS rfl rfl) (h46.getS rfl rfl) (h46.getS rfl rfl) (fun j => (h46.getA rfl rfl rfl)) (fun j => (h46.getA rfl rfl rfl)))) (Int.self_le_toNat _)) (zwk_c (zwk_c (zwk_c zwk_e)))
  have J_103 : ∀ (M97 : zMm) (J98 : zJm), zI G M97 → zMd a [9, 10, 11, 12, 13, 14, 15, 16, 17, 18, 20, 24, 25, 26, 27, 28, 29, 30, 31, 32, 33, 34, 35, 36, 37, 38, 39, 40, 41, 42, 59, 60, 61, 62, 63, 64, 65, 66, 67, 68, 69, 70, 71, 72, 73, 74, 75, 76, 77] [0, 2, 3, 23, 24, 25, 26, 27, 28, 29, 34, 57, 58, 59, 60, 61, 62, 63, 64, 65, 99, 100, 112] [] M M97 → zMd a [9, 10, 11, 12, 13, 14, 15, 16, 17, 18, 24, 25, 26, 27, 28, 29, 30, 31, 32, 33, 34, 35, 36, 37, 38, 39, 40, 41, 42] [24, 25, 26, 34, 57, 58, 59, 60, 61, 62, 63, 64, 65] [] M24 M97 → zMd a [9, 10, 11, 12, 13, 14, 15, 16, 17, 18, 24, 25, 26, 27, 28, 29, 30, 31, 32, 33, 34, 35, 36, 37, 38, 39, 40, 41, 42] [24, 25, 26, 34, 57, 58, 59, 60, 61, 62, 63, 64, 65] [] M24 M97 → zK w p e 8 0 0 s m args below meth c 3 T Po 26 [.ref (w.2.1 + a), .null, .null] [] (T, M97, J98, R) := by
    intro M97 J98 hI99 hK100 hK101 hK102
    refine q_iconst C dX12_expand_26 (n := 27) rfl ?_
    exact zK.weak (J_41 0 M97 J98 hI99 hK100 hK101 (by omega) (by omega) (Or.inl rfl)) (zwk_c (zwk_n (zwk_n zwk_e)))
  refine q_if_eq C 26 dX12_expand_12 (n := 15) rfl rfl (by omega) (fun h104 => ?_) (fun h104 => ?_)
  · exact zK.weak (J_103 M24 J25 hI26 hK30 (zMd.rf : zMd a [9, 10, 11, 12, 13, 14, 15, 16, 17, 18, 24, 25, 26, 27, 28, 29, 30, 31, 32, 33, 34, 35, 36, 37, 38, 39, 40, 41, 42] [24, 25, 26, 34, 57, 58, 59, 60, 61, 62, 63, 64, 65] [] M24 M24) (zMd.rf : zMd a [9, 10, 11, 12, 13, 14, 15, 16, 17, 18, 24, 25, 26, 27, 28, 29, 30, 31, 32, 33, 34, 35, 36, 37, 38, 39, 40, 41, 42] [24, 25, 26, 34, 57, 58, 59, 60, 61, 62, 63, 64, 65] [] M24 M24)) (zwk_c (zwk_n (zwk_n zwk_e)))
  · have hly := h22.resolve_left (by omega)
    refine q_aload_n C dX12_expand_15 (n := 16) rfl rfl ?_
    have hp105 : zMe M24 a := h10.cg (fun j j0 j1 => (hk29.getW rfl rfl (by omega))) (fun j => (hk29.getA rfl rfl rfl))
    obtain ⟨mbq106, mpq106, hmaq106⟩ := hp105
    have hp107 : zOg M24 a (M24 (a + 10)) (M24 (a + 11)) := fun t _ => ⟨rfl, rfl⟩
    have gtk := zI.at hI26 (zM58 h0)
    refine q_callVi C dX12_expand_16 (n := 19) rfl m_X12_673 v_yX12_expandsLine (zM0 h0) ⟨by decide, rfl⟩ (c_X12_expandsLineV (w := w) (J := J25) hI26 hF h0 hp107 hmaq106 (by omega) (zwt_r (M24 (a + 11))) (zLy.wt hly gtk (fun t => zI.at hI26 (((zM39 h0)) t)))) (Nat.le_of_ble_eq_true rfl) rfl rfl (Nat.le_of_ble_eq_true rfl) ⟨Nat.le_refl _, Nat.le_refl _⟩ (fun x118 M114 J115  hI116 h117 => ?_)
    obtain ⟨hk119, h108, h109, h110, h111, h112, h113⟩ := h117
    have hK120 := hK30.tr hk119 rfl rfl rfl
    have hK121 := (zMd.rf : zMd a [9, 10, 11, 12, 13, 14, 15, 16, 17, 18, 24, 25, 26, 27, 28, 29, 30, 31, 32, 33, 34, 35, 36, 37, 38, 39, 40, 41, 42] [24, 25, 26, 34, 57, 58, 59, 60, 61, 62, 63, 64, 65] [] M24 M24).tr hk119 rfl rfl rfl
    have hK122 := (zMd.rf : zMd a [9, 10, 11, 12, 13, 14, 15, 16, 17, 18, 24, 25, 26, 27, 28, 29, 30, 31, 32, 33, 34, 35, 36, 37, 38, 39, 40, 41, 42] [24, 25, 26, 34, 57, 58, 59, 60, 61, 62, 63, 64, 65] [] M24 M24).tr hk119 rfl rfl rfl
    have hz123 : M24 (a + 18) 3 = M14 (a + 18) 3 := (hk29.getP rfl rfl rfl)
    refine q_if_eq C 26 dX12_expand_19 (n := 22) rfl rfl (by omega) (fun h124 => ?_) (fun h124 => ?_)
    · exact zK.weak (J_103 M114 J115 hI116 hK120 hK121 hK122) (zwk_c (zwk_n (zwk_n zwk_e)))
    · refine q_iconst C dX12_expand_22 (n := 23) rfl ?_
      refine q_goto C 27 dX12_expand_23 rfl ?_
      have gli := zI.at hI116 (zM146 h0)
      exact zK.weak (J_41 1 M114 J115 hI116 hK120 hK121 (by omega) (by omega) (Or.inr (zEy.zero h109 (fun t => (zI.at hI116 (((zM39 h0)) t)).2) ⟨by omega, by omega⟩ (by have hz : M114 a 99 = M14 a 99 := ((hk119.getS rfl rfl).trans (hk29.getS rfl rfl)); omega) (by have hz : M114 a 100 = M14 a 100 := ((hk119.getS rfl rfl).trans (hk29.getS rfl rfl)); omega) (h113.resolve_left (by omega))))) (zwk_c (zwk_n (zwk_n zwk_e)))
