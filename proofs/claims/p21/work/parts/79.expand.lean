theorem c_X12_expand {w : zWp} {T : zTl} {M : zMm} {J : zJm} {R : zRm'} {G : zGt} {F : zRm'} {a : Nat} (hI : zI G M) (hF : zF F R) (h0 : zModel T F G a) (p1 : zMt M a) : zCt w 8 0 0 yX12_expand cX12_expand 3 (some .int) [.ref (w.2.1 + a)] (T, M, J, R) (zPi T R G (fun x M2 => (zMd a [9, 10, 11, 12, 13, 14, 15, 16, 17, 18, 20, 24, 25, 26, 27, 28, 29, 30, 31, 32, 33, 34, 35, 36, 37, 38, 39, 40, 41, 42, 59, 60, 61, 62, 63, 64, 65, 66, 67, 68, 69, 70, 71, 72, 73, 74, 75, 76, 77] [0, 2, 3, 23, 24, 25, 26, 27, 28, 29, 34, 57, 58, 59, 60, 61, 62, 63, 64, 65, 99, 100, 112] [] M M2) ∧ (M2 a 2 = 0))) := by
  refine zCt.of rfl (Nat.le_of_ble_eq_true rfl) ?_
  intro p e s m args below meth c C
  obtain ⟨Po, hPo⟩ : ∃ Po, Po = zPi T R G (fun x M2 => (zMd a [9, 10, 11, 12, 13, 14, 15, 16, 17, 18, 20, 24, 25, 26, 27, 28, 29, 30, 31, 32, 33, 34, 35, 36, 37, 38, 39, 40, 41, 42, 59, 60, 61, 62, 63, 64, 65, 66, 67, 68, 69, 70, 71, 72, 73, 74, 75, 76, 77] [0, 2, 3, 23, 24, 25, 26, 27, 28, 29, 34, 57, 58, 59, 60, 61, 62, 63, 64, 65, 99, 100, 112] [] M M2) ∧ (M2 a 2 = 0)) := ⟨_, rfl⟩
  rw [← hPo]
  have hK0 : zMd a [9, 10, 11, 12, 13, 14, 15, 16, 17, 18, 20, 24, 25, 26, 27, 28, 29, 30, 31, 32, 33, 34, 35, 36, 37, 38, 39, 40, 41, 42, 59, 60, 61, 62, 63, 64, 65, 66, 67, 68, 69, 70, 71, 72, 73, 74, 75, 76, 77] [0, 2, 3, 23, 24, 25, 26, 27, 28, 29, 34, 57, 58, 59, 60, 61, 62, 63, 64, 65, 99, 100, 112] [] M M := zMd.rf
  show zK w p e 8 0 0 s m args below meth c 3 T Po 0 [.ref (w.2.1 + a), .null, .null] [] (T, M, J, R)
  refine q_aload_n C dX12_expand_0 (n := 1) rfl rfl ?_
  refine q_callVv C dX12_expand_1 (n := 4) rfl m_X12_293 v_yX12_taken (zM0 h0) ⟨by decide, rfl⟩ (c_X12_taken (w := w) (J := J) hI hF h0) (Nat.le_of_ble_eq_true rfl) rfl rfl (Nat.le_of_ble_eq_true rfl) ⟨Nat.le_refl _, Nat.le_refl _⟩ (fun M3 J4  hI5 h6 => ?_)
  obtain ⟨hk7, h1, h2⟩ := h6
  have hK8 := hK0.tr hk7 rfl rfl rfl
  refine q_aload_n C dX12_expand_4 (n := 5) rfl rfl ?_
  have hp9 : zMt M3 a := p1.cg (fun j => (hk7.getA rfl rfl rfl)) (fun j => (hk7.getA rfl rfl rfl))
  refine q_callVv C dX12_expand_5 (n := 8) rfl m_X12_712 v_yX12_asTold (zM0 h0) ⟨by decide, rfl⟩ (c_X12_asTold (w := w) (J := J4) hI5 hF h0 hp9) (Nat.le_of_ble_eq_true rfl) rfl rfl (Nat.le_of_ble_eq_true rfl) ⟨Nat.le_refl _, Nat.le_refl _⟩ (fun M14 J15  hI16 h17 => ?_)
  obtain ⟨hk18, h10, h11, h12, h13⟩ := h17
  have hK19 := hK8.tr hk18 rfl rfl rfl
  refine q_aload_n C dX12_expand_8 (n := 9) rfl rfl ?_
  refine q_callVi C dX12_expand_9 (n := 12) rfl m_X12_715 v_yX12_lexesTape (zM0 h0) ⟨by decide, rfl⟩ (c_X12_lexesTape (w := w) (J := J15) hI16 hF h0) (Nat.le_of_ble_eq_true rfl) rfl rfl (Nat.le_of_ble_eq_true rfl) ⟨Nat.le_refl _, Nat.le_refl _⟩ (fun x27 M23 J24  hI25 h26 => ?_)
  obtain ⟨hk28, h20, h21, h22⟩ := h26
  have hK29 := hK19.tr hk28 rfl rfl rfl
  have J_40 : ∀ (u30 : Int) (M32 : zMm) (J33 : zJm), zI G M32 → zMd a [9, 10, 11, 12, 13, 14, 15, 16, 17, 18, 20, 24, 25, 26, 27, 28, 29, 30, 31, 32, 33, 34, 35, 36, 37, 38, 39, 40, 41, 42, 59, 60, 61, 62, 63, 64, 65, 66, 67, 68, 69, 70, 71, 72, 73, 74, 75, 76, 77] [0, 2, 3, 23, 24, 25, 26, 27, 28, 29, 34, 57, 58, 59, 60, 61, 62, 63, 64, 65, 99, 100, 112] [] M M32 → zMd a [9, 10, 11, 12, 13, 14, 15, 16, 17, 18, 24, 25, 26, 27, 28, 29, 30, 31, 32, 33, 34, 35, 36, 37, 38, 39, 40, 41, 42] [24, 25, 26, 34, 57, 58, 59, 60, 61, 62, 63, 64, 65] [] M23 M32 → (-2147483648 ≤ u30 ∧ u30 ≤ 2147483647) → (u30 = 0 ∨ u30 = 1) → (u30 = 0 ∨ zEy M32 a 0) → zK w p e 8 0 0 s m args below meth c 3 T Po 27 [.ref (w.2.1 + a), .null, .null] [zi u30] (T, M32, J33, R) := by
    intro u30 M32 J33 hI34 hK35 hK36 h37 h38 h39
    have hz41 : M32 a 0 = M3 a 0 := ((hK36.getS rfl rfl).trans ((hk28.getS rfl rfl).trans (hk18.getS rfl rfl)))
    refine q_istore_n C [.ref (w.2.1 + a), zi u30, .null] dX12_expand_27 (n := 28) rfl rfl rfl ?_
    refine q_aload_n C dX12_expand_28 (n := 29) rfl rfl ?_
    refine q_callVv C dX12_expand_29 (n := 32) rfl m_X12_706 v_yX12_tellsFault (zM0 h0) ⟨by decide, rfl⟩ (c_X12_tellsFault (w := w) (J := J33) hI34 hF h0) (Nat.le_of_ble_eq_true rfl) rfl rfl (Nat.le_of_ble_eq_true rfl) ⟨Nat.le_refl _, Nat.le_refl _⟩ (fun M42 J43  hI44 h45 => ?_)
    have hK47 := hK35.tr h45 rfl rfl rfl
    refine q_iconst C dX12_expand_32 (n := 33) rfl ?_
    refine q_istore_n C [.ref (w.2.1 + a), zi u30, zi 0] dX12_expand_33 (n := 34) rfl rfl rfl ?_
    have L_58 : ∀ n59 : Nat, ∀ (u48 : Int) (M50 : zMm) (J51 : zJm), zI G M50 → zMd a [9, 10, 11, 12, 13, 14, 15, 16, 17, 18, 20, 24, 25, 26, 27, 28, 29, 30, 31, 32, 33, 34, 35, 36, 37, 38, 39, 40, 41, 42, 59, 60, 61, 62, 63, 64, 65, 66, 67, 68, 69, 70, 71, 72, 73, 74, 75, 76, 77] [0, 2, 3, 23, 24, 25, 26, 27, 28, 29, 34, 57, 58, 59, 60, 61, 62, 63, 64, 65, 99, 100, 112] [] M M50 → zMd a [59, 60, 61, 62, 63, 64, 65, 66, 67] [99, 100] [] M42 M50 → (-2147483648 ≤ u48 ∧ u48 ≤ 2147483647) → (0 ≤ u48 ∧ u48 ≤ 3500) → (u30 = 0 ∨ zEy M50 a u48) → (3500 - u48 + 1 ≤ (n59 : Int)) → zK w p e 8 0 0 s m args below meth c 3 T Po 34 [.ref (w.2.1 + a), zi u30, zi u48] [] (T, M50, J51, R) := by
      intro n59
      induction n59 with
      | zero =>
        intro u48 M50 J51 hI52 hK53 hK54 h55 h56 h57 hm61
        exfalso
        omega
      | succ n59 ih60 =>
        intro u48 M50 J51 hI52 hK53 hK54 h55 h56 h57 hm61
        refine q_iload_n C dX12_expand_34 (n := 35) rfl rfl ?_
        refine q_aload_n C dX12_expand_35 (n := 36) rfl rfl ?_
        have g62 := zI.at hI34 (zM146 h0)
        refine q_getI C dX12_expand_36 (n := 39) rfl f_X12_451 (zM0 h0) (v := M32 a 61) ((hK54.getS rfl rfl).trans (h45.getS rfl rfl)) ?_
        have J_63 : zK w p e 8 0 0 s m args below meth c 3 T Po 62 [.ref (w.2.1 + a), zi u30, .null] [] (T, M50, J51, R) := by
          refine q_aload_n C dX12_expand_62 (n := 63) rfl rfl ?_
          refine q_iload_n C dX12_expand_63 (n := 64) rfl rfl ?_
          have J_67 : ∀ (u64 : Int), (-2147483648 ≤ u64 ∧ u64 ≤ 2147483647) → (0 ≤ u64 ∧ u64 ≤ 3500) → zK w p e 8 0 0 s m args below meth c 3 T Po 75 [.ref (w.2.1 + a), zi u30, .null] [zi u64, .ref (w.2.1 + a)] (T, M50, J51, R) := by
            intro u64 h65 h66
            refine q_callVv C dX12_expand_75 (n := 78) rfl m_X12_709 v_yX12_tellsTokens (zM0 h0) ⟨by decide, rfl⟩ (c_X12_tellsTokens (w := w) (J := J51) hI52 hF h0 u64 (by omega)) (Nat.le_of_ble_eq_true rfl) rfl rfl (Nat.le_of_ble_eq_true rfl) ⟨Nat.le_refl _, Nat.le_refl _⟩ (fun M68 J69  hI70 h71 => ?_)
            have hK73 := hK53.tr h71 rfl rfl rfl
            refine q_iload_n C dX12_expand_78 (n := 79) rfl rfl ?_
            refine q_if_eq C 89 dX12_expand_79 (n := 82) rfl rfl (by omega) (fun h74 => ?_) (fun h74 => ?_)
            · refine q_bipush C dX12_expand_89 (n := 91) rfl (x := (-2)) (by decide) ?_
              exact q_iret C dX12_expand_91 ⟨rfl, rfl⟩ (by rw [hPo]; exact ⟨(-2), M68, J69, rfl, rfl, hI70, hK73, by have hz75 : M68 a 2 = M3 a 2 := ((h71.getS rfl rfl).trans ((hK54.getS rfl rfl).trans ((h45.getS rfl rfl).trans ((hK36.getS rfl rfl).trans ((hk28.getS rfl rfl).trans (hk18.getS rfl rfl)))))); omega⟩)
            · refine q_aload_n C dX12_expand_82 (n := 83) rfl rfl ?_
              have g76 := zI.at hI52 (zM230 h0)
              refine q_getI C dX12_expand_83 (n := 86) rfl f_X12_636 (zM0 h0) (v := M50 a 99) (h71.getS rfl rfl) ?_
              refine q_goto C 91 dX12_expand_86 rfl ?_
              exact q_iret C dX12_expand_91 ⟨rfl, rfl⟩ (by rw [hPo]; exact ⟨M50 a 99, M68, J69, rfl, rfl, hI70, hK73, by have hz77 : M68 a 2 = M3 a 2 := ((h71.getS rfl rfl).trans ((hK54.getS rfl rfl).trans ((h45.getS rfl rfl).trans ((hK36.getS rfl rfl).trans ((hk28.getS rfl rfl).trans (hk18.getS rfl rfl)))))); omega⟩)
          refine q_if_eq C 74 dX12_expand_64 (n := 67) rfl rfl (by omega) (fun h78 => ?_) (fun h78 => ?_)
          · refine q_iconst C dX12_expand_74 (n := 75) rfl ?_
            exact zK.weak (J_67 0 (by omega) (by omega)) (zwk_c (zwk_c (zwk_n zwk_e)))
          · refine q_aload_n C dX12_expand_67 (n := 68) rfl rfl ?_
            have g79 := zI.at hI52 (zM230 h0)
            refine q_getI C dX12_expand_68 (n := 71) rfl f_X12_636 (zM0 h0) (v := M50 a 99) rfl ?_
            refine q_goto C 75 dX12_expand_71 rfl ?_
            exact zK.weak (J_67 (M50 a 99) (by omega) (by omega)) (zwk_c (zwk_c (zwk_n zwk_e)))
        refine q_icmp_ge C 62 dX12_expand_39 (n := 42) rfl rfl (by omega) (fun h80 => ?_) (fun h80 => ?_)
        · exact zK.weak (J_63) (zwk_c (zwk_c (zwk_n zwk_e)))
        · refine q_iload_n C dX12_expand_42 (n := 43) rfl rfl ?_
          refine q_if_eq C 62 dX12_expand_43 (n := 46) rfl rfl (by omega) (fun h81 => ?_) (fun h81 => ?_)
          · exact zK.weak (J_63) (zwk_c (zwk_c (zwk_n zwk_e)))
          · have hey := h57.resolve_left (by omega)
            have gey := zEy.num hey
            have hz82 : M50 a 61 = M32 a 61 := ((hK54.getS rfl rfl).trans (h45.getS rfl rfl))
            have hx34 : M50 (a + 11) (M50 (a + 41) u48) = M32 (a + 11) (M32 (a + 41) u48) := by rw [show M50 (a + 41) u48 = M32 (a + 41) u48 from ((hK54.getA rfl rfl rfl).trans (h45.getA rfl rfl rfl))]; exact ((hK54.getA rfl rfl rfl).trans (h45.getA rfl rfl rfl))
            refine q_aload_n C dX12_expand_46 (n := 47) rfl rfl ?_
            refine q_aload_n C dX12_expand_47 (n := 48) rfl rfl ?_
            refine q_getR C dX12_expand_48 (n := 51) rfl f_X12_138 (zM0 h0) (hF _ _ _ (zM136 h0)) ?_
            refine q_iload_n C dX12_expand_51 (n := 52) rfl rfl ?_
            have g83 := zI.at hI34 ((zM138 h0) u48)
            refine q_iald C dX12_expand_52 (n := 53) rfl (zM137 h0) (by omega) (v := M32 (a + 41) u48) ((hK54.getA rfl rfl rfl).trans (h45.getA rfl rfl rfl)) ?_
            refine q_callVv C dX12_expand_53 (n := 56) rfl m_X12_676 v_yX12_comes (zM0 h0) ⟨by decide, rfl⟩ (c_X12_comes (w := w) (J := J51) hI52 hF h0 (M32 (a + 41) u48) (by omega) (by omega) (by omega)) (Nat.le_of_ble_eq_true rfl) rfl rfl (Nat.le_of_ble_eq_true rfl) ⟨Nat.le_refl _, Nat.le_refl _⟩ (fun M87 J88  hI89 h90 => ?_)
            obtain ⟨hk91, h84, h85, h86⟩ := h90
            have hK92 := hK53.tr hk91 rfl rfl rfl
            have hK93 := hK54.tr hk91 rfl rfl rfl
            have hz94 : M50 (a + 11) (M32 (a + 41) u48) = M32 (a + 11) (M32 (a + 41) u48) := ((hK54.getA rfl rfl rfl).trans (h45.getA rfl rfl rfl))
            refine q_iinc C [.ref (w.2.1 + a), zi u30, zi (u48 + 1)] dX12_expand_56 (n := 59) rfl rfl rfl rfl ?_
            refine q_goto C 34 dX12_expand_59 rfl ?_
            exact zK.weak (ih60 (u48 + 1) M87 J88 hI89 hK92 hK93 (by omega) (by omega) (Or.inr (zEy.st (x := M32 (a + 11) (M32 (a + 41) u48)) hey (by omega) hx34 (hk91.getS rfl rfl) (by omega) (by omega) (fun j => (hk91.getA rfl rfl rfl)) (fun j => (hk91.getA rfl rfl rfl)))) (by omega)) (zwk_c (zwk_c (zwk_c zwk_e)))
    exact zK.weak (L_58 _ 0 M42 J43 hI44 hK47 (zMd.rf : zMd a [59, 60, 61, 62, 63, 64, 65, 66, 67] [99, 100] [] M42 M42) (by omega) (by omega) (h39.imp id (fun q => q.cg (h45.getS rfl rfl) (h45.getS rfl rfl) (h45.getS rfl rfl) (fun j => (h45.getA rfl rfl rfl)) (fun j => (h45.getA rfl rfl rfl)))) (Int.self_le_toNat _)) (zwk_c (zwk_c (zwk_c zwk_e)))
  have J_102 : ∀ (M96 : zMm) (J97 : zJm), zI G M96 → zMd a [9, 10, 11, 12, 13, 14, 15, 16, 17, 18, 20, 24, 25, 26, 27, 28, 29, 30, 31, 32, 33, 34, 35, 36, 37, 38, 39, 40, 41, 42, 59, 60, 61, 62, 63, 64, 65, 66, 67, 68, 69, 70, 71, 72, 73, 74, 75, 76, 77] [0, 2, 3, 23, 24, 25, 26, 27, 28, 29, 34, 57, 58, 59, 60, 61, 62, 63, 64, 65, 99, 100, 112] [] M M96 → zMd a [9, 10, 11, 12, 13, 14, 15, 16, 17, 18, 24, 25, 26, 27, 28, 29, 30, 31, 32, 33, 34, 35, 36, 37, 38, 39, 40, 41, 42] [24, 25, 26, 34, 57, 58, 59, 60, 61, 62, 63, 64, 65] [] M23 M96 → zMd a [9, 10, 11, 12, 13, 14, 15, 16, 17, 18, 24, 25, 26, 27, 28, 29, 30, 31, 32, 33, 34, 35, 36, 37, 38, 39, 40, 41, 42] [24, 25, 26, 34, 57, 58, 59, 60, 61, 62, 63, 64, 65] [] M23 M96 → zK w p e 8 0 0 s m args below meth c 3 T Po 26 [.ref (w.2.1 + a), .null, .null] [] (T, M96, J97, R) := by
    intro M96 J97 hI98 hK99 hK100 hK101
    refine q_iconst C dX12_expand_26 (n := 27) rfl ?_
    exact zK.weak (J_40 0 M96 J97 hI98 hK99 hK100 (by omega) (by omega) (Or.inl rfl)) (zwk_c (zwk_n (zwk_n zwk_e)))
  refine q_if_eq C 26 dX12_expand_12 (n := 15) rfl rfl (by omega) (fun h103 => ?_) (fun h103 => ?_)
  · exact zK.weak (J_102 M23 J24 hI25 hK29 (zMd.rf : zMd a [9, 10, 11, 12, 13, 14, 15, 16, 17, 18, 24, 25, 26, 27, 28, 29, 30, 31, 32, 33, 34, 35, 36, 37, 38, 39, 40, 41, 42] [24, 25, 26, 34, 57, 58, 59, 60, 61, 62, 63, 64, 65] [] M23 M23) (zMd.rf : zMd a [9, 10, 11, 12, 13, 14, 15, 16, 17, 18, 24, 25, 26, 27, 28, 29, 30, 31, 32, 33, 34, 35, 36, 37, 38, 39, 40, 41, 42] [24, 25, 26, 34, 57, 58, 59, 60, 61, 62, 63, 64, 65] [] M23 M23)) (zwk_c (zwk_n (zwk_n zwk_e)))
  · have hly := h22.resolve_left (by omega)
    refine q_aload_n C dX12_expand_15 (n := 16) rfl rfl ?_
    have hp104 : zMe M23 a := h10.cg (fun j j0 j1 => (hk28.getW rfl rfl (by omega))) (fun j => (hk28.getA rfl rfl rfl))
    obtain ⟨mbq105, mpq105, hmaq105⟩ := hp104
    have hp106 : zOg M23 a (M23 (a + 10)) (M23 (a + 11)) := fun t _ => ⟨rfl, rfl⟩
    have gtk := zI.at hI25 (zM58 h0)
    refine q_callVi C dX12_expand_16 (n := 19) rfl m_X12_673 v_yX12_expandsLine (zM0 h0) ⟨by decide, rfl⟩ (c_X12_expandsLineV (w := w) (J := J24) hI25 hF h0 hp106 hmaq105 (by omega) (zwt_r (M23 (a + 11))) (zLy.wt hly gtk (fun t => zI.at hI25 (((zM39 h0)) t)))) (Nat.le_of_ble_eq_true rfl) rfl rfl (Nat.le_of_ble_eq_true rfl) ⟨Nat.le_refl _, Nat.le_refl _⟩ (fun x117 M113 J114  hI115 h116 => ?_)
    obtain ⟨hk118, h107, h108, h109, h110, h111, h112⟩ := h116
    have hK119 := hK29.tr hk118 rfl rfl rfl
    have hK120 := (zMd.rf : zMd a [9, 10, 11, 12, 13, 14, 15, 16, 17, 18, 24, 25, 26, 27, 28, 29, 30, 31, 32, 33, 34, 35, 36, 37, 38, 39, 40, 41, 42] [24, 25, 26, 34, 57, 58, 59, 60, 61, 62, 63, 64, 65] [] M23 M23).tr hk118 rfl rfl rfl
    have hK121 := (zMd.rf : zMd a [9, 10, 11, 12, 13, 14, 15, 16, 17, 18, 24, 25, 26, 27, 28, 29, 30, 31, 32, 33, 34, 35, 36, 37, 38, 39, 40, 41, 42] [24, 25, 26, 34, 57, 58, 59, 60, 61, 62, 63, 64, 65] [] M23 M23).tr hk118 rfl rfl rfl
    have hz122 : M23 (a + 18) 3 = M14 (a + 18) 3 := (hk28.getP rfl rfl rfl)
    refine q_if_eq C 26 dX12_expand_19 (n := 22) rfl rfl (by omega) (fun h123 => ?_) (fun h123 => ?_)
    · exact zK.weak (J_102 M113 J114 hI115 hK119 hK120 hK121) (zwk_c (zwk_n (zwk_n zwk_e)))
    · refine q_iconst C dX12_expand_22 (n := 23) rfl ?_
      refine q_goto C 27 dX12_expand_23 rfl ?_
      have gli := zI.at hI115 (zM146 h0)
      exact zK.weak (J_40 1 M113 J114 hI115 hK119 hK120 (by omega) (by omega) (Or.inr (zEy.zero h108 (fun t => (zI.at hI115 (((zM39 h0)) t)).2) ⟨by omega, by omega⟩ (by have hz : M113 a 99 = M14 a 99 := ((hk118.getS rfl rfl).trans (hk28.getS rfl rfl)); omega) (by have hz : M113 a 100 = M14 a 100 := ((hk118.getS rfl rfl).trans (hk28.getS rfl rfl)); omega) (h112.resolve_left (by omega))))) (zwk_c (zwk_n (zwk_n zwk_e)))
