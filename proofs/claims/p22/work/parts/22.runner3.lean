theorem c_X6_direct {w : zWp} {T : zTl} {M : zMm} {J : zJm} {R : zRm'} {G : zGt} {F : zRm'} {a L pg pf : Nat} (hI : zI G M) (hF : zF F R) (h0 : zRunner T F G a L) (v1 : Int) (hpg : R a 11 = some pg) (t_pg : T[pg]? = some (54, 4)) (e_pg : ∀ j : Int, 0 ≤ j → j < 4 → F pg j = some (pf + 4 * j.toNat) ∧ zPage T F G (pf + 4 * j.toNat)) (p1 : L ≤ 1000000) (p2 : 2000 ≤ L) (p3 : 0 ≤ M a 15) (p4 : zLn M a) (p5 : M (a + 18) (M a 15) ≤ 39) (p6 : -2147483648 ≤ v1 ∧ v1 ≤ 2147483647) : zCt w 12 0 0 yX6_direct cX6_direct 2 (some .int) [.ref (w.2.1 + a), zi v1] (T, M, J, R) (zPi T R G (fun x M2 => (zKp G 15 M M2) ∧ (x = 4 ∧ zLn M2 a ∨ (x = 0 ∨ x = 2) ∧ zSm M M2 a))) := by
  refine zCt.of rfl (Nat.le_of_ble_eq_true rfl) ?_
  intro p e s m args below meth c C
  obtain ⟨Po, hPo⟩ : ∃ Po, Po = zPi T R G (fun x M2 => (zKp G 15 M M2) ∧ (x = 4 ∧ zLn M2 a ∨ (x = 0 ∨ x = 2) ∧ zSm M M2 a)) := ⟨_, rfl⟩
  rw [← hPo]
  have hK0 : zKp G 15 M M := zKp.rf
  show zK w p e 12 0 0 s m args below meth c 2 T Po 0 [.ref (w.2.1 + a), zi v1] [] (T, M, J, R)
  refine q_aload_n C dX6_direct_0 (n := 1) rfl rfl ?_
  refine q_iconst C dX6_direct_1 (n := 2) rfl ?_
  refine q_ldcwS C dX6_direct_2 (n := 5) rfl (k := 7) (by decide) ?_
  refine q_callVp C dX6_direct_5 (n := 8) rfl m_X6_290 v_yX6_says h0.1 ⟨by decide, rfl⟩ (c_X6_says (w := w) (J := J) hI hF h0 1 7 (by decide) (by omega) (by omega)) (Nat.le_of_ble_eq_true rfl) rfl rfl (Nat.le_of_ble_eq_true rfl) ⟨Nat.le_refl _, Nat.le_refl _⟩ (fun x2 h3 => ?_)
  refine q_if_eq C 29 dX6_direct_8 (n := 11) rfl rfl (by omega) (fun h4 => ?_) (fun h4 => ?_)
  · refine q_aload_n C dX6_direct_29 (n := 30) rfl rfl ?_
    refine q_iconst C dX6_direct_30 (n := 31) rfl ?_
    refine q_ldcwS C dX6_direct_31 (n := 34) rfl (k := 8) (by decide) ?_
    refine q_callVp C dX6_direct_34 (n := 37) rfl m_X6_290 v_yX6_says h0.1 ⟨by decide, rfl⟩ (c_X6_says (w := w) (J := J) hI hF h0 1 8 (by decide) (by omega) (by omega)) (Nat.le_of_ble_eq_true rfl) rfl rfl (Nat.le_of_ble_eq_true rfl) ⟨Nat.le_refl _, Nat.le_refl _⟩ (fun x6 h7 => ?_)
    refine q_if_eq C 47 dX6_direct_37 (n := 40) rfl rfl (by omega) (fun h8 => ?_) (fun h8 => ?_)
    · refine q_aload_n C dX6_direct_47 (n := 48) rfl rfl ?_
      refine q_iconst C dX6_direct_48 (n := 49) rfl ?_
      refine q_ldcwS C dX6_direct_49 (n := 52) rfl (k := 9) (by decide) ?_
      refine q_callVp C dX6_direct_52 (n := 55) rfl m_X6_290 v_yX6_says h0.1 ⟨by decide, rfl⟩ (c_X6_says (w := w) (J := J) hI hF h0 1 9 (by decide) (by omega) (by omega)) (Nat.le_of_ble_eq_true rfl) rfl rfl (Nat.le_of_ble_eq_true rfl) ⟨Nat.le_refl _, Nat.le_refl _⟩ (fun x10 h11 => ?_)
      refine q_if_eq C 63 dX6_direct_55 (n := 58) rfl rfl (by omega) (fun h12 => ?_) (fun h12 => ?_)
      · refine q_aload_n C dX6_direct_63 (n := 64) rfl rfl ?_
        refine q_iconst C dX6_direct_64 (n := 65) rfl ?_
        refine q_ldcwS C dX6_direct_65 (n := 68) rfl (k := 1) (by decide) ?_
        refine q_callVp C dX6_direct_68 (n := 71) rfl m_X6_290 v_yX6_says h0.1 ⟨by decide, rfl⟩ (c_X6_says (w := w) (J := J) hI hF h0 1 1 (by decide) (by omega) (by omega)) (Nat.le_of_ble_eq_true rfl) rfl rfl (Nat.le_of_ble_eq_true rfl) ⟨Nat.le_refl _, Nat.le_refl _⟩ (fun x14 h15 => ?_)
        have J_16 : zK w p e 12 0 0 s m args below meth c 2 T Po 85 [.ref (w.2.1 + a), .null] [] (T, M, J, R) := by
          refine q_aload_n C dX6_direct_85 (n := 86) rfl rfl ?_
          refine q_iconst C dX6_direct_86 (n := 87) rfl ?_
          refine q_callVv C dX6_direct_87 (n := 90) rfl m_X6_310 v_yX6_loadSum h0.1 ⟨by decide, rfl⟩ (c_X6_loadSum (w := w) (J := J) hI hF h0 2 (by omega) (by omega) (by omega)) (Nat.le_of_ble_eq_true rfl) rfl rfl (Nat.le_of_ble_eq_true rfl) ⟨Nat.le_refl _, Nat.le_refl _⟩ (fun M17 J18  hI19 h20 => ?_)
          have hK22 := hK0.tr h20 (by decide)
          refine q_iconst C dX6_direct_90 (n := 91) rfl ?_
          exact q_iret C dX6_direct_91 ⟨rfl, rfl⟩ (by rw [hPo]; exact ⟨2, M17, J18, rfl, rfl, hI19, hK22, (Or.inr ⟨by omega, ⟨(h20 _ _ (zle_t h0.2.2.2.2.2.2.2.2.2.2.2.2.2.2.2.2.2.2.2.2.2.2.2.2.2.2.2.2.2.2.2.2.2.2.2.2.1 (by decide))), (fun j => (h20 _ _ (zle_t (h0.2.2.2.2.2.2.2.2.2.2.2.2.2.2.2.2.2.2.2.2.2.2.2.2.2.2.2.2.2.2.2.2.1 j) (by decide)))), (fun j => (h20 _ _ (zle_t (h0.2.2.2.2.2.2.2.2.2.2.2.2.2.2.2.2.2.2.2.2.2.2.2.2.2.2.2.2.2.1 j) (by decide))))⟩⟩)⟩)
        refine q_if_ne C 85 dX6_direct_71 (n := 74) rfl rfl (by omega) (fun h23 => ?_) (fun h23 => ?_)
        · exact zK.weak (J_16) (zwk_c (zwk_n zwk_e))
        · refine q_aload_n C dX6_direct_74 (n := 75) rfl rfl ?_
          refine q_iconst C dX6_direct_75 (n := 76) rfl ?_
          refine q_ldcwS C dX6_direct_76 (n := 79) rfl (k := 4) (by decide) ?_
          refine q_callVp C dX6_direct_79 (n := 82) rfl m_X6_290 v_yX6_says h0.1 ⟨by decide, rfl⟩ (c_X6_says (w := w) (J := J) hI hF h0 1 4 (by decide) (by omega) (by omega)) (Nat.le_of_ble_eq_true rfl) rfl rfl (Nat.le_of_ble_eq_true rfl) ⟨Nat.le_refl _, Nat.le_refl _⟩ (fun x25 h26 => ?_)
          refine q_if_eq C 92 dX6_direct_82 (n := 85) rfl rfl (by omega) (fun h27 => ?_) (fun h27 => ?_)
          · refine q_aload_n C dX6_direct_92 (n := 93) rfl rfl ?_
            refine q_iconst C dX6_direct_93 (n := 94) rfl ?_
            refine q_ldcwS C dX6_direct_94 (n := 97) rfl (k := 2) (by decide) ?_
            refine q_callVp C dX6_direct_97 (n := 100) rfl m_X6_290 v_yX6_says h0.1 ⟨by decide, rfl⟩ (c_X6_says (w := w) (J := J) hI hF h0 1 2 (by decide) (by omega) (by omega)) (Nat.le_of_ble_eq_true rfl) rfl rfl (Nat.le_of_ble_eq_true rfl) ⟨Nat.le_refl _, Nat.le_refl _⟩ (fun x29 h30 => ?_)
            refine q_if_eq C 112 dX6_direct_100 (n := 103) rfl rfl (by omega) (fun h31 => ?_) (fun h31 => ?_)
            · refine q_aload_n C dX6_direct_112 (n := 113) rfl rfl ?_
              refine q_iconst C dX6_direct_113 (n := 114) rfl ?_
              refine q_ldcwS C dX6_direct_114 (n := 117) rfl (k := 3) (by decide) ?_
              refine q_callVp C dX6_direct_117 (n := 120) rfl m_X6_290 v_yX6_says h0.1 ⟨by decide, rfl⟩ (c_X6_says (w := w) (J := J) hI hF h0 1 3 (by decide) (by omega) (by omega)) (Nat.le_of_ble_eq_true rfl) rfl rfl (Nat.le_of_ble_eq_true rfl) ⟨Nat.le_refl _, Nat.le_refl _⟩ (fun x33 h34 => ?_)
              refine q_if_eq C 132 dX6_direct_120 (n := 123) rfl rfl (by omega) (fun h35 => ?_) (fun h35 => ?_)
              · refine q_aload_n C dX6_direct_132 (n := 133) rfl rfl ?_
                refine q_iconst C dX6_direct_133 (n := 134) rfl ?_
                refine q_ldcwS C dX6_direct_134 (n := 137) rfl (k := 5) (by decide) ?_
                refine q_callVp C dX6_direct_137 (n := 140) rfl m_X6_290 v_yX6_says h0.1 ⟨by decide, rfl⟩ (c_X6_says (w := w) (J := J) hI hF h0 1 5 (by decide) (by omega) (by omega)) (Nat.le_of_ble_eq_true rfl) rfl rfl (Nat.le_of_ble_eq_true rfl) ⟨Nat.le_refl _, Nat.le_refl _⟩ (fun x37 h38 => ?_)
                refine q_if_eq C 150 dX6_direct_140 (n := 143) rfl rfl (by omega) (fun h39 => ?_) (fun h39 => ?_)
                · refine q_aload_n C dX6_direct_150 (n := 151) rfl rfl ?_
                  refine q_iconst C dX6_direct_151 (n := 152) rfl ?_
                  refine q_ldcwS C dX6_direct_152 (n := 155) rfl (k := 6) (by decide) ?_
                  refine q_callVp C dX6_direct_155 (n := 158) rfl m_X6_290 v_yX6_says h0.1 ⟨by decide, rfl⟩ (c_X6_says (w := w) (J := J) hI hF h0 1 6 (by decide) (by omega) (by omega)) (Nat.le_of_ble_eq_true rfl) rfl rfl (Nat.le_of_ble_eq_true rfl) ⟨Nat.le_refl _, Nat.le_refl _⟩ (fun x41 h42 => ?_)
                  refine q_if_eq C 168 dX6_direct_158 (n := 161) rfl rfl (by omega) (fun h43 => ?_) (fun h43 => ?_)
                  · refine q_aload_n C dX6_direct_168 (n := 169) rfl rfl ?_
                    refine q_iconst C dX6_direct_169 (n := 170) rfl ?_
                    refine q_iconst C dX6_direct_170 (n := 171) rfl ?_
                    refine q_callVv C dX6_direct_171 (n := 174) rfl m_X6_331 v_yX6_refuse h0.1 ⟨by decide, rfl⟩ (c_X6_refuse (w := w) (J := J) hI hF h0 2 1 (by omega) (by omega)) (Nat.le_of_ble_eq_true rfl) rfl rfl (Nat.le_of_ble_eq_true rfl) ⟨Nat.le_refl _, Nat.le_refl _⟩ (fun M44 J45  hI46 h47 => ?_)
                    have hK49 := hK0.tr h47 (by decide)
                    refine q_iconst C dX6_direct_174 (n := 175) rfl ?_
                    exact q_iret C dX6_direct_175 ⟨rfl, rfl⟩ (by rw [hPo]; exact ⟨0, M44, J45, rfl, rfl, hI46, hK49, (Or.inr ⟨by omega, ⟨(h47 _ _ (zle_t h0.2.2.2.2.2.2.2.2.2.2.2.2.2.2.2.2.2.2.2.2.2.2.2.2.2.2.2.2.2.2.2.2.2.2.2.2.1 (by decide))), (fun j => (h47 _ _ (zle_t (h0.2.2.2.2.2.2.2.2.2.2.2.2.2.2.2.2.2.2.2.2.2.2.2.2.2.2.2.2.2.2.2.2.1 j) (by decide)))), (fun j => (h47 _ _ (zle_t (h0.2.2.2.2.2.2.2.2.2.2.2.2.2.2.2.2.2.2.2.2.2.2.2.2.2.2.2.2.2.1 j) (by decide))))⟩⟩)⟩)
                  · refine q_aload_n C dX6_direct_161 (n := 162) rfl rfl ?_
                    refine q_callVv C dX6_direct_162 (n := 165) rfl m_X6_328 v_yX6_close h0.1 ⟨by decide, rfl⟩ (c_X6_close (w := w) (J := J) hI hF h0) (Nat.le_of_ble_eq_true rfl) rfl rfl (Nat.le_of_ble_eq_true rfl) ⟨Nat.le_refl _, Nat.le_refl _⟩ (fun M50 J51  hI52 h53 => ?_)
                    have hK55 := hK0.tr h53 (by decide)
                    refine q_goto C 174 dX6_direct_165 rfl ?_
                    refine q_iconst C dX6_direct_174 (n := 175) rfl ?_
                    exact q_iret C dX6_direct_175 ⟨rfl, rfl⟩ (by rw [hPo]; exact ⟨0, M50, J51, rfl, rfl, hI52, hK55, (Or.inr ⟨by omega, ⟨(h53 _ _ (zle_t h0.2.2.2.2.2.2.2.2.2.2.2.2.2.2.2.2.2.2.2.2.2.2.2.2.2.2.2.2.2.2.2.2.2.2.2.2.1 (by decide))), (fun j => (h53 _ _ (zle_t (h0.2.2.2.2.2.2.2.2.2.2.2.2.2.2.2.2.2.2.2.2.2.2.2.2.2.2.2.2.2.2.2.2.1 j) (by decide)))), (fun j => (h53 _ _ (zle_t (h0.2.2.2.2.2.2.2.2.2.2.2.2.2.2.2.2.2.2.2.2.2.2.2.2.2.2.2.2.2.1 j) (by decide))))⟩⟩)⟩)
                · refine q_aload_n C dX6_direct_143 (n := 144) rfl rfl ?_
                  refine q_callVv C dX6_direct_144 (n := 147) rfl m_X6_323 v_yX6_turn h0.1 ⟨by decide, rfl⟩ (c_X6_turn (w := w) (J := J) hI hF h0 (by omega)) (Nat.le_of_ble_eq_true rfl) rfl rfl (Nat.le_of_ble_eq_true rfl) ⟨Nat.le_refl _, Nat.le_refl _⟩ (fun M56 J57  hI58 h59 => ?_)
                  have hK61 := hK0.tr h59 (by decide)
                  refine q_goto C 174 dX6_direct_147 rfl ?_
                  refine q_iconst C dX6_direct_174 (n := 175) rfl ?_
                  exact q_iret C dX6_direct_175 ⟨rfl, rfl⟩ (by rw [hPo]; exact ⟨0, M56, J57, rfl, rfl, hI58, hK61, (Or.inr ⟨by omega, ⟨(h59 _ _ (zle_t h0.2.2.2.2.2.2.2.2.2.2.2.2.2.2.2.2.2.2.2.2.2.2.2.2.2.2.2.2.2.2.2.2.2.2.2.2.1 (by decide))), (fun j => (h59 _ _ (zle_t (h0.2.2.2.2.2.2.2.2.2.2.2.2.2.2.2.2.2.2.2.2.2.2.2.2.2.2.2.2.2.2.2.2.1 j) (by decide)))), (fun j => (h59 _ _ (zle_t (h0.2.2.2.2.2.2.2.2.2.2.2.2.2.2.2.2.2.2.2.2.2.2.2.2.2.2.2.2.2.1 j) (by decide))))⟩⟩)⟩)
              · refine q_aload_n C dX6_direct_123 (n := 124) rfl rfl ?_
                refine q_iconst C dX6_direct_124 (n := 125) rfl ?_
                refine q_iload_n C dX6_direct_125 (n := 126) rfl rfl ?_
                refine q_callVv C dX6_direct_126 (n := 129) rfl m_X6_315 v_yX6_openByName h0.1 ⟨by decide, rfl⟩ (c_X6_openByName (w := w) (J := J) hI hF h0 0 v1 (by omega) (by omega) (by omega)) (Nat.le_of_ble_eq_true rfl) rfl rfl (Nat.le_of_ble_eq_true rfl) ⟨Nat.le_refl _, Nat.le_refl _⟩ (fun M62 J63  hI64 h65 => ?_)
                have hK67 := hK0.tr h65 (by decide)
                refine q_goto C 174 dX6_direct_129 rfl ?_
                refine q_iconst C dX6_direct_174 (n := 175) rfl ?_
                exact q_iret C dX6_direct_175 ⟨rfl, rfl⟩ (by rw [hPo]; exact ⟨0, M62, J63, rfl, rfl, hI64, hK67, (Or.inr ⟨by omega, ⟨(h65 _ _ (zle_t h0.2.2.2.2.2.2.2.2.2.2.2.2.2.2.2.2.2.2.2.2.2.2.2.2.2.2.2.2.2.2.2.2.2.2.2.2.1 (by decide))), (fun j => (h65 _ _ (zle_t (h0.2.2.2.2.2.2.2.2.2.2.2.2.2.2.2.2.2.2.2.2.2.2.2.2.2.2.2.2.2.2.2.2.1 j) (by decide)))), (fun j => (h65 _ _ (zle_t (h0.2.2.2.2.2.2.2.2.2.2.2.2.2.2.2.2.2.2.2.2.2.2.2.2.2.2.2.2.2.1 j) (by decide))))⟩⟩)⟩)
            · refine q_aload_n C dX6_direct_103 (n := 104) rfl rfl ?_
              refine q_iconst C dX6_direct_104 (n := 105) rfl ?_
              refine q_iload_n C dX6_direct_105 (n := 106) rfl rfl ?_
              refine q_callVv C dX6_direct_106 (n := 109) rfl m_X6_315 v_yX6_openByName h0.1 ⟨by decide, rfl⟩ (c_X6_openByName (w := w) (J := J) hI hF h0 1 v1 (by omega) (by omega) (by omega)) (Nat.le_of_ble_eq_true rfl) rfl rfl (Nat.le_of_ble_eq_true rfl) ⟨Nat.le_refl _, Nat.le_refl _⟩ (fun M68 J69  hI70 h71 => ?_)
              have hK73 := hK0.tr h71 (by decide)
              refine q_goto C 174 dX6_direct_109 rfl ?_
              refine q_iconst C dX6_direct_174 (n := 175) rfl ?_
              exact q_iret C dX6_direct_175 ⟨rfl, rfl⟩ (by rw [hPo]; exact ⟨0, M68, J69, rfl, rfl, hI70, hK73, (Or.inr ⟨by omega, ⟨(h71 _ _ (zle_t h0.2.2.2.2.2.2.2.2.2.2.2.2.2.2.2.2.2.2.2.2.2.2.2.2.2.2.2.2.2.2.2.2.2.2.2.2.1 (by decide))), (fun j => (h71 _ _ (zle_t (h0.2.2.2.2.2.2.2.2.2.2.2.2.2.2.2.2.2.2.2.2.2.2.2.2.2.2.2.2.2.2.2.2.1 j) (by decide)))), (fun j => (h71 _ _ (zle_t (h0.2.2.2.2.2.2.2.2.2.2.2.2.2.2.2.2.2.2.2.2.2.2.2.2.2.2.2.2.2.1 j) (by decide))))⟩⟩)⟩)
          · exact zK.weak (J_16) (zwk_c (zwk_n zwk_e))
      · refine q_aload_n C dX6_direct_58 (n := 59) rfl rfl ?_
        refine q_callVi C dX6_direct_59 (n := 62) rfl m_X6_303 v_yX6_include h0.1 ⟨by decide, rfl⟩ (c_X6_include (w := w) (J := J) hI hF h0 (by assumption) (by assumption) (by assumption) (by omega) (by omega) (by assumption) (by assumption)) (Nat.le_of_ble_eq_true rfl) rfl rfl (Nat.le_of_ble_eq_true rfl) ⟨Nat.le_refl _, Nat.le_refl _⟩ (fun x79 M75 J76  hI77 h78 => ?_)
        obtain ⟨hk80, h74⟩ := h78
        have hK81 := hK0.tr hk80 (by decide)
        exact q_iret C dX6_direct_62 ⟨rfl, rfl⟩ (by rw [hPo]; exact ⟨x79, M75, J76, rfl, rfl, hI77, hK81, (h74.elim Or.inl (fun q => Or.inr ⟨Or.inl q.1, q.2⟩))⟩)
    · refine q_aload_n C dX6_direct_40 (n := 41) rfl rfl ?_
      refine q_callVv C dX6_direct_41 (n := 44) rfl m_X6_298 v_yX6_undefine h0.1 ⟨by decide, rfl⟩ (c_X6_undefine (w := w) (J := J) hI hF h0 (by omega)) (Nat.le_of_ble_eq_true rfl) rfl rfl (Nat.le_of_ble_eq_true rfl) ⟨Nat.le_refl _, Nat.le_refl _⟩ (fun M82 J83  hI84 h85 => ?_)
      have hK87 := hK0.tr h85 (by decide)
      refine q_goto C 174 dX6_direct_44 rfl ?_
      refine q_iconst C dX6_direct_174 (n := 175) rfl ?_
      exact q_iret C dX6_direct_175 ⟨rfl, rfl⟩ (by rw [hPo]; exact ⟨0, M82, J83, rfl, rfl, hI84, hK87, (Or.inr ⟨by omega, ⟨(h85 _ _ (zle_t h0.2.2.2.2.2.2.2.2.2.2.2.2.2.2.2.2.2.2.2.2.2.2.2.2.2.2.2.2.2.2.2.2.2.2.2.2.1 (by decide))), (fun j => (h85 _ _ (zle_t (h0.2.2.2.2.2.2.2.2.2.2.2.2.2.2.2.2.2.2.2.2.2.2.2.2.2.2.2.2.2.2.2.2.1 j) (by decide)))), (fun j => (h85 _ _ (zle_t (h0.2.2.2.2.2.2.2.2.2.2.2.2.2.2.2.2.2.2.2.2.2.2.2.2.2.2.2.2.2.1 j) (by decide))))⟩⟩)⟩)
  · refine q_aload_n C dX6_direct_11 (n := 12) rfl rfl ?_
    refine q_getR C dX6_direct_12 (n := 15) rfl f_X6_80 h0.1 (hF _ _ _ h0.2.2.2.2.2.1) ?_
    refine q_aload_n C dX6_direct_15 (n := 16) rfl rfl ?_
    refine q_getR C dX6_direct_16 (n := 19) rfl f_X6_37 h0.1 (hF _ _ _ h0.2.2.2.2.2.2.2.2.2.2.2.2.2.2.2.2.2.2.2.2.2.2.1) ?_
    refine q_aload_n C dX6_direct_19 (n := 20) rfl rfl ?_
    have g88 := zI.at hI h0.2.2.2.2.2.2.2.2.2.2.2.2.2.2.2.2.2.2.2.2.2.2.2.2.2.2.2.2.2.2.2.2.2.2.2.2.2.2.2.2.2.2.2.2
    refine q_getI C dX6_direct_20 (n := 23) rfl f_X6_65 h0.1 (v := M a 19) rfl ?_
    refine q_callVv C dX6_direct_23 (n := 26) rfl m_X6_293 v_yX3_define h0.2.2.2.2.2.2.1.1 ⟨by decide, rfl⟩ (c_X3_define (w := w) (J := J) hI hF h0.2.2.2.2.2.2.1 h0.2.2.2.2.2.2.2.2.2.2.2.2.2.2.2.2.2.2.2.2.2.2.2.1 (M a 19) (by omega) (by omega)) (Nat.le_of_ble_eq_true rfl) rfl rfl (Nat.le_of_ble_eq_true rfl) ⟨Nat.le_refl _, Nat.le_refl _⟩ (fun M89 J90  hI91 h92 => ?_)
    have hK94 := hK0.tr h92 (by decide)
    refine q_goto C 174 dX6_direct_26 rfl ?_
    refine q_iconst C dX6_direct_174 (n := 175) rfl ?_
    exact q_iret C dX6_direct_175 ⟨rfl, rfl⟩ (by rw [hPo]; exact ⟨0, M89, J90, rfl, rfl, hI91, hK94, (Or.inr ⟨by omega, ⟨(h92 _ _ (zle_t h0.2.2.2.2.2.2.2.2.2.2.2.2.2.2.2.2.2.2.2.2.2.2.2.2.2.2.2.2.2.2.2.2.2.2.2.2.1 (by decide))), (fun j => (h92 _ _ (zle_t (h0.2.2.2.2.2.2.2.2.2.2.2.2.2.2.2.2.2.2.2.2.2.2.2.2.2.2.2.2.2.2.2.2.1 j) (by decide)))), (fun j => (h92 _ _ (zle_t (h0.2.2.2.2.2.2.2.2.2.2.2.2.2.2.2.2.2.2.2.2.2.2.2.2.2.2.2.2.2.1 j) (by decide))))⟩⟩)⟩)
