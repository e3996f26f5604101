theorem zsums_rec {w : zWp} {T : zTl} {R : zRm'} {G : zGt} {F : zRm'} {a t q L rw : Nat} (hF : zF F R) (h0 : zSums T F G a t q L) (hrow : R a 2 = some rw) (h_rw : zRow T F G rw 3440 (L : Int)) : ∀ n : Nat, (∀ (M : zMm) (J : zJm), zI G M → ∀ (v1 v2 : Int), (0 ≤ v1 ∧ v1 ≤ 8) → (v2 = 0 ∨ v2 = 1) → (M a 6 = -1) → (M a 5 ≤ 3440) → (13 * (8 - v1) + 13 ≤ (n : Int)) → zCt w (n + 4) 0 0 yX9_choice cX9_choice 9 (some .long) [.ref (w.2.1 + a), zi v1, zi v2] (T, M, J, R) (zPl T R G (fun M2 => (zKp G 2 M M2) ∧ ((M2 a 6 = -1 ∧ M2 a 5 ≤ 3440) ∨ (¬ M2 a 6 = -1 ∧ M2 a 5 ≤ 3460 - v1))))) ∧ (∀ (M : zMm) (J : zJm), zI G M → ∀ (v1 v2 : Int), (0 ≤ v1 ∧ v1 ≤ 8) → (v2 = 0 ∨ v2 = 1) → ((M a 6 = -1 ∧ M a 5 ≤ 3440) ∨ (¬ M a 6 = -1 ∧ M a 5 ≤ 3460 - v1)) → (13 * (8 - v1) + 1 ≤ (n : Int)) → zCt w (n + 4) 0 0 yX9_part cX9_part 3 (some .long) [.ref (w.2.1 + a), zi v1, zi v2] (T, M, J, R) (zPl T R G (fun M2 => (zKp G 2 M M2) ∧ ((M2 a 6 = -1 ∧ M2 a 5 ≤ 3440) ∨ (¬ M2 a 6 = -1 ∧ (M2 a 5 ≤ 3459 - v1 ∨ M2 a 5 = M a 5)))))) ∧ (∀ (M : zMm) (J : zJm), zI G M → ∀ (v1 v2 v3 : Int), (1 ≤ v1 ∧ v1 ≤ 11) → (0 ≤ v2 ∧ v2 ≤ 8) → (v3 = 0 ∨ v3 = 1) → (M a 6 = -1) → (M a 5 ≤ 3440) → (13 * (8 - v2) + 13 - v1 ≤ (n : Int)) → zCt w (n + 4) 0 0 yX9_binary cX9_binary 12 (some .long) [.ref (w.2.1 + a), zi v1, zi v2, zi v3] (T, M, J, R) (zPl T R G (fun M2 => (zKp G 2 M M2) ∧ ((M2 a 6 = -1 ∧ M2 a 5 ≤ 3440) ∨ (¬ M2 a 6 = -1 ∧ M2 a 5 ≤ 3460 - v2))))) ∧ (∀ (M : zMm) (J : zJm), zI G M → ∀ (v1 v2 : Int), (0 ≤ v1 ∧ v1 ≤ 8) → (v2 = 0 ∨ v2 = 1) → (M a 6 = -1) → (M a 5 ≤ 3440) → (13 * (8 - v1) + 1 ≤ (n : Int)) → zCt w (n + 4) 0 0 yX9_single cX9_single 7 (some .long) [.ref (w.2.1 + a), zi v1, zi v2] (T, M, J, R) (zPl T R G (fun M2 => (zKp G 2 M M2) ∧ ((M2 a 6 = -1 ∧ M2 a 5 ≤ 3440) ∨ (¬ M2 a 6 = -1 ∧ M2 a 5 ≤ 3460 - v1))))) := by
  intro n
  induction n with
  | zero =>
    refine ⟨?_, ?_⟩
    · intro M J hI v1 v2 p1 p2 p3 p4 pm
      exfalso
      omega
    refine ⟨?_, ?_⟩
    · intro M J hI v1 v2 p1 p2 p3 pm
      exfalso
      omega
    refine ⟨?_, ?_⟩
    · intro M J hI v1 v2 v3 p1 p2 p3 p4 p5 pm
      exfalso
      omega
    intro M J hI v1 v2 p1 p2 p3 p4 pm
    exfalso
    omega
  | succ n ih =>
    obtain ⟨ihc, ihp, ihb, ihs⟩ := ih
    refine ⟨?_, ?_⟩
    · intro M J hI v1 v2 p1 p2 p3 p4 pm
      exact c_X9_choice_s (w := w) (J := J) hI hF h0 v1 v2 hrow h_rw p1 p2 p3 p4 (by omega) ihc ihp ihb ihs
    refine ⟨?_, ?_⟩
    · intro M J hI v1 v2 p1 p2 p3 pm
      exact c_X9_part_s (w := w) (J := J) hI hF h0 v1 v2 hrow h_rw p1 p2 p3 (by omega) ihc ihp ihb ihs
    refine ⟨?_, ?_⟩
    · intro M J hI v1 v2 v3 p1 p2 p3 p4 p5 pm
      exact c_X9_binary_s (w := w) (J := J) hI hF h0 v1 v2 v3 hrow h_rw p1 p2 p3 p4 p5 (by omega) ihc ihp ihb ihs
    intro M J hI v1 v2 p1 p2 p3 p4 pm
    exact c_X9_single_s (w := w) (J := J) hI hF h0 v1 v2 hrow h_rw p1 p2 p3 p4 (by omega) ihc ihp ihb ihs
theorem c_X9_choice {w : zWp} {T : zTl} {M : zMm} {J : zJm} {R : zRm'} {G : zGt} {F : zRm'} {a t q L rw : Nat} (hI : zI G M) (hF : zF F R) (h0 : zSums T F G a t q L) (v1 v2 : Int) (hrow : R a 2 = some rw) (h_rw : zRow T F G rw 3440 (L : Int)) (p1 : 0 ≤ v1 ∧ v1 ≤ 8) (p2 : v2 = 0 ∨ v2 = 1) (p3 : M a 6 = -1) (p4 : M a 5 ≤ 3440) : zCt w 121 0 0 yX9_choice cX9_choice 9 (some .long) [.ref (w.2.1 + a), zi v1, zi v2] (T, M, J, R) (zPl T R G (fun M2 => (zKp G 2 M M2) ∧ ((M2 a 6 = -1 ∧ M2 a 5 ≤ 3440) ∨ (¬ M2 a 6 = -1 ∧ M2 a 5 ≤ 3460 - v1)))) := (zsums_rec hF h0 hrow h_rw 117).1 M J hI v1 v2 p1 p2 p3 p4 (by omega)
theorem c_X9_whole {w : zWp} {T : zTl} {M : zMm} {J : zJm} {R : zRm'} {G : zGt} {F : zRm'} {a t q L rs : Nat} (hI : zI G M) (hF : zF F R) (h0 : zSums T F G a t q L) (h_sum : zRow T F G rs 3440 (L : Int)) (v2 : Int) (p1 : L ≤ 1000000) (p2 : -2147483648 ≤ v2 ∧ v2 ≤ 2147483647) : zCt w 122 0 0 yX9_whole cX9_whole 5 (some .long) [.ref (w.2.1 + a), .ref (w.2.1 + rs), zi v2] (T, M, J, R) (zPl T (zup R a 2 (some rs)) G (fun M2 => (zKp G 2 M M2))) := by
  refine zCt.of rfl (Nat.le_of_ble_eq_true rfl) ?_
  intro p e s m args below meth c C
  obtain ⟨Po, hPo⟩ : ∃ Po, Po = zPl T (zup R a 2 (some rs)) G (fun M2 => (zKp G 2 M M2)) := ⟨_, rfl⟩
  rw [← hPo]
  have hK0 : zKp G 2 M M := zKp.rf
  show zK w p e 122 0 0 s m args below meth c 5 T Po 0 [.ref (w.2.1 + a), .ref (w.2.1 + rs), zi v2, .null, .null] [] (T, M, J, R)
  refine q_aload_n C dX9_whole_0 (n := 1) rfl rfl ?_
  refine q_aload_n C dX9_whole_1 (n := 2) rfl rfl ?_
  refine q_putR C dX9_whole_2 (n := 5) rfl f_X9_37 h0.1 rfl ⟨rfl, rfl⟩ (fun R1 (e2 : R1 = zup R a 2 (some rs)) => ?_)
  have hF := hF.put e2 h0.2.2.2.2.2.1
  have hrow : R1 a 2 = some rs := zup_s e2
  refine q_aload_n C dX9_whole_5 (n := 6) rfl rfl ?_
  refine q_iconst C dX9_whole_6 (n := 7) rfl ?_
  refine q_putI C dX9_whole_7 (n := 10) rfl f_X9_19 h0.1 ⟨rfl, rfl⟩ (fun M3 (e4 : M3 = zup M a 5 0) => ?_)
  have hI5 : zI G M3 := hI.put e4 h0.2.2.2.2.2.2.2.2.2.2.2.1 rfl (by omega)
  have hK6 := hK0.put e4 h0.2.2.2.2.2.2.2.2.2.2.2.1 (by decide)
  refine q_aload_n C dX9_whole_10 (n := 11) rfl rfl ?_
  refine q_iconst C dX9_whole_11 (n := 12) rfl ?_
  refine q_putI C dX9_whole_12 (n := 15) rfl f_X9_23 h0.1 ⟨rfl, rfl⟩ (fun M7 (e8 : M7 = zup M3 a 6 (-1)) => ?_)
  have hI9 : zI G M7 := hI5.put e8 h0.2.2.2.2.2.2.2.2.2.2.2.2.1 rfl (by omega)
  have hK10 := hK6.put e8 h0.2.2.2.2.2.2.2.2.2.2.2.2.1 (by decide)
  refine q_aload_n C dX9_whole_15 (n := 16) rfl rfl ?_
  refine q_iconst C dX9_whole_16 (n := 17) rfl ?_
  refine q_putI C dX9_whole_17 (n := 20) rfl f_X9_26 h0.1 ⟨rfl, rfl⟩ (fun M11 (e12 : M11 = zup M7 a 7 (-1)) => ?_)
  have hI13 : zI G M11 := hI9.put e12 h0.2.2.2.2.2.2.2.2.2.2.2.2.2 rfl (by omega)
  have hK14 := hK10.put e12 h0.2.2.2.2.2.2.2.2.2.2.2.2.2 (by decide)
  refine q_iconst C dX9_whole_20 (n := 21) rfl ?_
  refine q_istore_n C [.ref (w.2.1 + a), .ref (w.2.1 + rs), zi v2, zi 0, .null] dX9_whole_21 (n := 22) rfl rfl rfl ?_
  have L_26 : ∀ n27 : Nat, ∀ (u15 : Int) (M17 : zMm) (J18 : zJm), zI G M17 → zKp G 2 M M17 → zKp G 1 M11 M17 → (-2147483648 ≤ u15 ∧ u15 ≤ 2147483647) → (0 ≤ u15 ∧ u15 ≤ 3440) → (M17 a 6 = -1) → (M17 a 5 = 0) → (3440 - u15 + 1 ≤ (n27 : Int)) → zK w p e 122 0 0 s m args below meth c 5 T Po 22 [.ref (w.2.1 + a), .null, zi v2, zi u15, .null] [] (T, M17, J18, R1) := by
    intro n27
    induction n27 with
    | zero =>
      intro u15 M17 J18 hI19 hK20 hK21 h22 h23 h24 h25 hm29
      exfalso
      omega
    | succ n27 ih28 =>
      intro u15 M17 J18 hI19 hK20 hK21 h22 h23 h24 h25 hm29
      refine q_iload_n C dX9_whole_22 (n := 23) rfl rfl ?_
      refine q_aload_n C dX9_whole_23 (n := 24) rfl rfl ?_
      refine q_getR C dX9_whole_24 (n := 27) rfl f_X9_37 h0.1 hrow ?_
      have g30 := zI.at hI19 h_sum.2.2.2.2.2.2.2.2.2.2
      refine q_getI C dX9_whole_27 (n := 30) rfl f_X9_41 h_sum.1 (v := M17 rs 3) rfl ?_
      have J_33 : (M17 a 6 = -1) → (M17 a 5 = 0) → zK w p e 122 0 0 s m args below meth c 5 T Po 69 [.ref (w.2.1 + a), .null, zi v2, .null, .null] [] (T, M17, J18, R1) := by
        intro h31 h32
        refine q_aload_n C dX9_whole_69 (n := 70) rfl rfl ?_
        refine q_iconst C dX9_whole_70 (n := 71) rfl ?_
        refine q_iconst C dX9_whole_71 (n := 72) rfl ?_
        refine q_callVl C dX9_whole_72 (n := 75) rfl m_X9_56 v_yX9_choice h0.1 ⟨by decide, rfl⟩ (c_X9_choice (w := w) (J := J18) hI19 hF h0 0 1 (by assumption) (by assumption) (by omega) (by omega) (by omega) (by omega)) (Nat.le_of_ble_eq_true rfl) rfl rfl (Nat.le_of_ble_eq_true rfl) ⟨Nat.le_refl _, Nat.le_refl _⟩ (fun l39 M35 J36  hI37 h38 => ?_)
        obtain ⟨hk40, h34⟩ := h38
        have hK41 := hK20.tr hk40 (by decide)
        refine q_lstore_n C [.ref (w.2.1 + a), .null, zi v2, .long l39, .null] dX9_whole_75 (n := 76) rfl rfl rfl ?_
        refine q_aload_n C dX9_whole_76 (n := 77) rfl rfl ?_
        have g42 := zI.at hI37 h0.2.2.2.2.2.2.2.2.2.2.2.2.1
        refine q_getI C dX9_whole_77 (n := 80) rfl f_X9_23 h0.1 (v := M35 a 6) rfl ?_
        refine q_iconst C dX9_whole_80 (n := 81) rfl ?_
        have J_47 : ∀ (M43 : zMm) (J44 : zJm), zI G M43 → zKp G 2 M M43 → zK w p e 122 0 0 s m args below meth c 5 T Po 106 [.ref (w.2.1 + a), .null, zi v2, .long l39, .null] [] (T, M43, J44, R1) := by
          intro M43 J44 hI45 hK46
          refine q_aload_n C dX9_whole_106 (n := 107) rfl rfl ?_
          have g48 := zI.at hI45 h0.2.2.2.2.2.2.2.2.2.2.2.2.1
          refine q_getI C dX9_whole_107 (n := 110) rfl f_X9_23 h0.1 (v := M43 a 6) rfl ?_
          refine q_iconst C dX9_whole_110 (n := 111) rfl ?_
          refine q_icmp_eq C 156 dX9_whole_111 (n := 114) rfl rfl (by omega) (fun h49 => ?_) (fun h49 => ?_)
          · refine q_aload_n C dX9_whole_156 (n := 157) rfl rfl ?_
            have g50 := zI.at hI45 h0.2.2.2.2.2.2.2.2.2.2.2.2.2
            refine q_getI C dX9_whole_157 (n := 160) rfl f_X9_26 h0.1 (v := M43 a 7) rfl ?_
            refine q_iconst C dX9_whole_160 (n := 161) rfl ?_
            refine q_icmp_eq C 185 dX9_whole_161 (n := 164) rfl rfl (by omega) (fun h51 => ?_) (fun h51 => ?_)
            · refine q_lload_n C dX9_whole_185 (n := 186) rfl rfl ?_
              subst e2
              exact q_lret C dX9_whole_186 ⟨rfl, rfl⟩ (by rw [hPo]; exact ⟨l39, M43, J44, rfl, rfl, hI45, hK46⟩)
            · refine q_aload_n C dX9_whole_164 (n := 165) rfl rfl ?_
              refine q_getR C dX9_whole_165 (n := 168) rfl f_X9_33 h0.1 (hF _ _ _ h0.2.2.2.1) ?_
              refine q_bipush C dX9_whole_168 (n := 170) rfl (x := 9) (by decide) ?_
              refine q_aload_n C dX9_whole_170 (n := 171) rfl rfl ?_
              refine q_getR C dX9_whole_171 (n := 174) rfl f_X9_37 h0.1 hrow ?_
              refine q_getR C dX9_whole_174 (n := 177) rfl f_X9_49 h_sum.1 (hF _ _ _ h_sum.2.2.2.2.1) ?_
              refine q_aload_n C dX9_whole_177 (n := 178) rfl rfl ?_
              refine q_getI C dX9_whole_178 (n := 181) rfl f_X9_26 h0.1 (v := M43 a 7) rfl ?_
              have g52 := zI.at hI (h_sum.2.2.2.2.2.2.1 (M43 a 7))
              refine q_iald C dX9_whole_181 (n := 182) rfl h_sum.2.2.2.2.2.1 (by omega) (v := M (rs + 2) (M43 a 7)) (hK46 _ _ (zle_t (h_sum.2.2.2.2.2.2.1 (M43 a 7)) (by decide))) ?_
              refine q_callVv C dX9_whole_182 (n := 185) rfl m_X9_60 v_yX1_meet h0.2.2.2.2.1.1 ⟨by decide, rfl⟩ (c_X1_meet (w := w) (J := J44) hI45 hF h0.2.2.2.2.1 9 (M (rs + 2) (M43 a 7)) (by omega) (by omega)) (Nat.le_of_ble_eq_true rfl) rfl rfl (Nat.le_of_ble_eq_true rfl) ⟨Nat.le_refl _, Nat.le_refl _⟩ (fun M53 J54  hI55 h56 => ?_)
              have hK58 := hK46.tr h56 (by decide)
              refine q_lload_n C dX9_whole_185 (n := 186) rfl rfl ?_
              subst e2
              exact q_lret C dX9_whole_186 ⟨rfl, rfl⟩ (by rw [hPo]; exact ⟨l39, M53, J54, rfl, rfl, hI55, hK58⟩)
          · refine q_aload_n C dX9_whole_114 (n := 115) rfl rfl ?_
            refine q_getR C dX9_whole_115 (n := 118) rfl f_X9_33 h0.1 (hF _ _ _ h0.2.2.2.1) ?_
            refine q_bipush C dX9_whole_118 (n := 120) rfl (x := 8) (by decide) ?_
            refine q_aload_n C dX9_whole_120 (n := 121) rfl rfl ?_
            refine q_getI C dX9_whole_121 (n := 124) rfl f_X9_23 h0.1 (v := M43 a 6) rfl ?_
            refine q_aload_n C dX9_whole_124 (n := 125) rfl rfl ?_
            refine q_getR C dX9_whole_125 (n := 128) rfl f_X9_37 h0.1 hrow ?_
            have g59 := zI.at hI45 h_sum.2.2.2.2.2.2.2.2.2.2
            refine q_getI C dX9_whole_128 (n := 131) rfl f_X9_41 h_sum.1 (v := M43 rs 3) rfl ?_
            have J_62 : ∀ (u60 : Int), (-2147483648 ≤ u60 ∧ u60 ≤ 2147483647) → zK w p e 122 0 0 s m args below meth c 5 T Po 150 [.null, .null, .null, .long l39, .null] [zi u60, zi 8, .ref (w.2.1 + q)] (T, M43, J44, R1) := by
              intro u60 h61
              refine q_callVv C dX9_whole_150 (n := 153) rfl m_X9_60 v_yX1_meet h0.2.2.2.2.1.1 ⟨by decide, rfl⟩ (c_X1_meet (w := w) (J := J44) hI45 hF h0.2.2.2.2.1 8 u60 (by omega) (by omega)) (Nat.le_of_ble_eq_true rfl) rfl rfl (Nat.le_of_ble_eq_true rfl) ⟨Nat.le_refl _, Nat.le_refl _⟩ (fun M63 J64  hI65 h66 => ?_)
              have hK68 := hK46.tr h66 (by decide)
              refine q_goto C 185 dX9_whole_153 rfl ?_
              refine q_lload_n C dX9_whole_185 (n := 186) rfl rfl ?_
              subst e2
              exact q_lret C dX9_whole_186 ⟨rfl, rfl⟩ (by rw [hPo]; exact ⟨l39, M63, J64, rfl, rfl, hI65, hK68⟩)
            refine q_icmp_ge C 149 dX9_whole_131 (n := 134) rfl rfl (by omega) (fun h69 => ?_) (fun h69 => ?_)
            · refine q_iload_n C dX9_whole_149 (n := 150) rfl rfl ?_
              exact zK.weak (J_62 v2 (by omega)) (zwk_n (zwk_n (zwk_n (zwk_c (zwk_n zwk_e)))))
            · refine q_aload_n C dX9_whole_134 (n := 135) rfl rfl ?_
              refine q_getR C dX9_whole_135 (n := 138) rfl f_X9_37 h0.1 hrow ?_
              refine q_getR C dX9_whole_138 (n := 141) rfl f_X9_49 h_sum.1 (hF _ _ _ h_sum.2.2.2.2.1) ?_
              refine q_aload_n C dX9_whole_141 (n := 142) rfl rfl ?_
              refine q_getI C dX9_whole_142 (n := 145) rfl f_X9_23 h0.1 (v := M43 a 6) rfl ?_
              have g70 := zI.at hI (h_sum.2.2.2.2.2.2.1 (M43 a 6))
              refine q_iald C dX9_whole_145 (n := 146) rfl h_sum.2.2.2.2.2.1 (by omega) (v := M (rs + 2) (M43 a 6)) (hK46 _ _ (zle_t (h_sum.2.2.2.2.2.2.1 (M43 a 6)) (by decide))) ?_
              refine q_goto C 150 dX9_whole_146 rfl ?_
              exact zK.weak (J_62 (M (rs + 2) (M43 a 6)) (by omega)) (zwk_n (zwk_n (zwk_n (zwk_c (zwk_n zwk_e)))))
        refine q_icmp_ne C 106 dX9_whole_81 (n := 84) rfl rfl (by omega) (fun h71 => ?_) (fun h71 => ?_)
        · exact zK.weak (J_47 M35 J36 hI37 hK41) (zwk_c (zwk_n (zwk_c (zwk_c (zwk_n zwk_e)))))
        · refine q_aload_n C dX9_whole_84 (n := 85) rfl rfl ?_
          have g72 := zI.at hI37 h0.2.2.2.2.2.2.2.2.2.2.2.1
          refine q_getI C dX9_whole_85 (n := 88) rfl f_X9_19 h0.1 (v := M35 a 5) rfl ?_
          refine q_aload_n C dX9_whole_88 (n := 89) rfl rfl ?_
          refine q_getR C dX9_whole_89 (n := 92) rfl f_X9_37 h0.1 hrow ?_
          have g73 := zI.at hI37 h_sum.2.2.2.2.2.2.2.2.2.2
          refine q_getI C dX9_whole_92 (n := 95) rfl f_X9_41 h_sum.1 (v := M35 rs 3) rfl ?_
          refine q_icmp_ge C 106 dX9_whole_95 (n := 98) rfl rfl (by omega) (fun h74 => ?_) (fun h74 => ?_)
          · exact zK.weak (J_47 M35 J36 hI37 hK41) (zwk_c (zwk_n (zwk_c (zwk_c (zwk_n zwk_e)))))
          · refine q_aload_n C dX9_whole_98 (n := 99) rfl rfl ?_
            refine q_aload_n C dX9_whole_99 (n := 100) rfl rfl ?_
            refine q_getI C dX9_whole_100 (n := 103) rfl f_X9_19 h0.1 (v := M35 a 5) rfl ?_
            refine q_putI C dX9_whole_103 (n := 106) rfl f_X9_23 h0.1 ⟨rfl, rfl⟩ (fun M75 (e76 : M75 = zup M35 a 6 (M35 a 5)) => ?_)
            have hI77 : zI G M75 := hI37.put e76 h0.2.2.2.2.2.2.2.2.2.2.2.2.1 rfl (by omega)
            have hK78 := hK41.put e76 h0.2.2.2.2.2.2.2.2.2.2.2.2.1 (by decide)
            exact zK.weak (J_47 M75 J36 hI77 hK78) (zwk_c (zwk_n (zwk_c (zwk_c (zwk_n zwk_e)))))
      refine q_icmp_ge C 69 dX9_whole_30 (n := 33) rfl rfl (by omega) (fun h79 => ?_) (fun h79 => ?_)
      · exact zK.weak (J_33 (by have hz80 : M17 a 6 = (-1) := ((hK21 _ _ (zle_t h0.2.2.2.2.2.2.2.2.2.2.2.2.1 (by decide))).trans ((zup_n e12 (by omega)).trans (zup_s e8))); omega) (by have hz81 : M17 a 5 = 0 := ((hK21 _ _ (zle_t h0.2.2.2.2.2.2.2.2.2.2.2.1 (by decide))).trans ((zup_n e12 (by omega)).trans ((zup_n e8 (by omega)).trans (zup_s e4)))); omega)) (zwk_c (zwk_n (zwk_c (zwk_n (zwk_n zwk_e)))))
      · refine q_iload_n C dX9_whole_33 (n := 34) rfl rfl ?_
        refine q_sipush C dX9_whole_34 (n := 37) rfl (x := 3440) (by decide) ?_
        refine q_icmp_ge C 69 dX9_whole_37 (n := 40) rfl rfl (by omega) (fun h82 => ?_) (fun h82 => ?_)
        · exact zK.weak (J_33 (by have hz83 : M17 a 6 = (-1) := ((hK21 _ _ (zle_t h0.2.2.2.2.2.2.2.2.2.2.2.2.1 (by decide))).trans ((zup_n e12 (by omega)).trans (zup_s e8))); omega) (by have hz84 : M17 a 5 = 0 := ((hK21 _ _ (zle_t h0.2.2.2.2.2.2.2.2.2.2.2.1 (by decide))).trans ((zup_n e12 (by omega)).trans ((zup_n e8 (by omega)).trans (zup_s e4)))); omega)) (zwk_c (zwk_n (zwk_c (zwk_n (zwk_n zwk_e)))))
        · refine q_aload_n C dX9_whole_40 (n := 41) rfl rfl ?_
          refine q_iload_n C dX9_whole_41 (n := 42) rfl rfl ?_
          refine q_aload_n C dX9_whole_42 (n := 43) rfl rfl ?_
          refine q_getR C dX9_whole_43 (n := 46) rfl f_X9_37 h0.1 hrow ?_
          refine q_getR C dX9_whole_46 (n := 49) rfl f_X9_46 h_sum.1 (hF _ _ _ h_sum.2.1) ?_
          refine q_iload_n C dX9_whole_49 (n := 50) rfl rfl ?_
          have g85 := zI.at hI (h_sum.2.2.2.1 u15)
          have g86 : M (rs + 1) u15 + zand (M (rs + 2) u15) 31 ≤ (L : Int) ∧ zand (M (rs + 2) u15) 31 ≤ 30 := zI.row hI (h_sum.2.2.2.1 u15)
          refine q_iald C dX9_whole_50 (n := 51) rfl h_sum.2.2.1 (by omega) (v := M (rs + 1) u15) ((hK21 _ _ (zle_t (h_sum.2.2.2.1 u15) (by decide))).trans ((zup_n e12 (zne_t (h_sum.2.2.2.1 u15) h0.2.2.2.2.2.2.2.2.2.2.2.2.2 (by decide))).trans ((zup_n e8 (zne_t (h_sum.2.2.2.1 u15) h0.2.2.2.2.2.2.2.2.2.2.2.2.1 (by decide))).trans (zup_n e4 (zne_t (h_sum.2.2.2.1 u15) h0.2.2.2.2.2.2.2.2.2.2.2.1 (by decide)))))) ?_
          refine q_aload_n C dX9_whole_51 (n := 52) rfl rfl ?_
          refine q_getR C dX9_whole_52 (n := 55) rfl f_X9_37 h0.1 hrow ?_
          refine q_getR C dX9_whole_55 (n := 58) rfl f_X9_49 h_sum.1 (hF _ _ _ h_sum.2.2.2.2.1) ?_
          refine q_iload_n C dX9_whole_58 (n := 59) rfl rfl ?_
          have g87 := zI.at hI (h_sum.2.2.2.2.2.2.1 u15)
          refine q_iald C dX9_whole_59 (n := 60) rfl h_sum.2.2.2.2.2.1 (by omega) (v := M (rs + 2) u15) ((hK21 _ _ (zle_t (h_sum.2.2.2.2.2.2.1 u15) (by decide))).trans ((zup_n e12 (zne_t (h_sum.2.2.2.2.2.2.1 u15) h0.2.2.2.2.2.2.2.2.2.2.2.2.2 (by decide))).trans ((zup_n e8 (zne_t (h_sum.2.2.2.2.2.2.1 u15) h0.2.2.2.2.2.2.2.2.2.2.2.2.1 (by decide))).trans (zup_n e4 (zne_t (h_sum.2.2.2.2.2.2.1 u15) h0.2.2.2.2.2.2.2.2.2.2.2.1 (by decide)))))) ?_
          refine q_callVv C dX9_whole_60 (n := 63) rfl m_X9_52 v_yX9_readToken h0.1 ⟨by decide, rfl⟩ (c_X9_readToken (w := w) (J := J18) hI19 hF h0 u15 (M (rs + 1) u15) (M (rs + 2) u15) (by omega) (by omega) (by omega) (by omega)) (Nat.le_of_ble_eq_true rfl) rfl rfl (Nat.le_of_ble_eq_true rfl) ⟨Nat.le_refl _, Nat.le_refl _⟩ (fun M88 J89  hI90 h91 => ?_)
          have hK93 := hK20.tr h91 (by decide)
          have hK94 := hK21.tr h91 (by decide)
          refine q_iinc C [.ref (w.2.1 + a), .null, zi v2, zi (u15 + 1), .null] dX9_whole_63 (n := 66) rfl rfl rfl rfl ?_
          refine q_goto C 22 dX9_whole_66 rfl ?_
          exact zK.weak (ih28 (u15 + 1) M88 J89 hI90 hK93 hK94 (by omega) (by omega) (by have hz95 : M88 a 6 = (-1) := ((h91 _ _ (zle_t h0.2.2.2.2.2.2.2.2.2.2.2.2.1 (by decide))).trans ((hK21 _ _ (zle_t h0.2.2.2.2.2.2.2.2.2.2.2.2.1 (by decide))).trans ((zup_n e12 (by omega)).trans (zup_s e8)))); omega) (by have hz96 : M88 a 5 = 0 := ((h91 _ _ (zle_t h0.2.2.2.2.2.2.2.2.2.2.2.1 (by decide))).trans ((hK21 _ _ (zle_t h0.2.2.2.2.2.2.2.2.2.2.2.1 (by decide))).trans ((zup_n e12 (by omega)).trans ((zup_n e8 (by omega)).trans (zup_s e4))))); omega) (by omega)) (zwk_c (zwk_n (zwk_c (zwk_c (zwk_n zwk_e)))))
  exact zK.weak (L_26 _ 0 M11 J hI13 hK14 (zKp.rf (G := G) (n := 1) (M := M11)) (by omega) (by omega) (by have hz97 : M11 a 6 = (-1) := ((zup_n e12 (by omega)).trans (zup_s e8)); omega) (by have hz98 : M11 a 5 = 0 := ((zup_n e12 (by omega)).trans ((zup_n e8 (by omega)).trans (zup_s e4))); omega) (Int.self_le_toNat _)) (zwk_c (zwk_n (zwk_c (zwk_c (zwk_n zwk_e)))))
