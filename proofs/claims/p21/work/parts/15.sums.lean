theorem c_X9_strengthOf {w : zWp} {T : zTl} {M : zMm} {J : zJm} {R : zRm'} {G : zGt} {F : zRm'}  (hI : zI G M) (hF : zF F R) (v1 : Int) (p1 : -2147483648 ≤ v1 ∧ v1 ≤ 2147483647) : zCt w 1 0 0 yX9_strengthOf cX9_strengthOf 1 (some .int) [zi v1] (T, M, J, R) (zPp T M J R (fun x => (0 ≤ x ∧ x ≤ 10) ∧ (v1 ≤ 0 → x = 0))) := by
  refine zCt.of rfl (Nat.le_of_ble_eq_true rfl) ?_
  intro p e s m args below meth c C
  obtain ⟨Po, hPo⟩ : ∃ Po, Po = zPp T M J R (fun x => (0 ≤ x ∧ x ≤ 10) ∧ (v1 ≤ 0 → x = 0)) := ⟨_, rfl⟩
  rw [← hPo]
  show zK w p e 1 0 0 s m args below meth c 1 T Po 0 [zi v1] [] (T, M, J, R)
  refine q_iload_n C dX9_strengthOf_0 (n := 1) rfl rfl ?_
  have K_1 : (v1 = 37 ∨ v1 = 42 ∨ v1 = 47) → zK w p e 1 0 0 s m args below meth c 1 T Po 178 [zi v1] [] (T, M, J, R) := by
    intro h2
    refine q_bipush C dX9_strengthOf_178 (n := 180) rfl (x := 10) (by decide) ?_
    exact q_iret C dX9_strengthOf_180 ⟨rfl, rfl⟩ (by rw [hPo]; exact ⟨10, rfl, rfl, by omega, by omega⟩)
  have K_3 : (v1 = 43 ∨ v1 = 45) → zK w p e 1 0 0 s m args below meth c 1 T Po 175 [zi v1] [] (T, M, J, R) := by
    intro h4
    refine q_bipush C dX9_strengthOf_175 (n := 177) rfl (x := 9) (by decide) ?_
    exact q_iret C dX9_strengthOf_177 ⟨rfl, rfl⟩ (by rw [hPo]; exact ⟨9, rfl, rfl, by omega, by omega⟩)
  have K_5 : (v1 = 60 ∨ v1 = 62 ∨ v1 = 15676 ∨ v1 = 15678) → zK w p e 1 0 0 s m args below meth c 1 T Po 169 [zi v1] [] (T, M, J, R) := by
    intro h6
    refine q_bipush C dX9_strengthOf_169 (n := 171) rfl (x := 7) (by decide) ?_
    exact q_iret C dX9_strengthOf_171 ⟨rfl, rfl⟩ (by rw [hPo]; exact ⟨7, rfl, rfl, by omega, by omega⟩)
  have K_7 : (v1 = 15420 ∨ v1 = 15934) → zK w p e 1 0 0 s m args below meth c 1 T Po 172 [zi v1] [] (T, M, J, R) := by
    intro h8
    refine q_bipush C dX9_strengthOf_172 (n := 174) rfl (x := 8) (by decide) ?_
    exact q_iret C dX9_strengthOf_174 ⟨rfl, rfl⟩ (by rw [hPo]; exact ⟨8, rfl, rfl, by omega, by omega⟩)
  have K_9 : (v1 = 15649 ∨ v1 = 15677) → zK w p e 1 0 0 s m args below meth c 1 T Po 166 [zi v1] [] (T, M, J, R) := by
    intro h10
    refine q_bipush C dX9_strengthOf_166 (n := 168) rfl (x := 6) (by decide) ?_
    exact q_iret C dX9_strengthOf_168 ⟨rfl, rfl⟩ (by rw [hPo]; exact ⟨6, rfl, rfl, by omega, by omega⟩)
  by_cases h11 : v1 = 37
  · exact q_lkIn C 178 dX9_strengthOf_1 h11 (by omega) (by decide) rfl rfl (K_1 (by omega))
  by_cases h12 : v1 = 38
  · refine q_lkIn C 164 dX9_strengthOf_1 h12 (by omega) (by decide) rfl rfl ?_
    refine q_iconst C dX9_strengthOf_164 (n := 165) rfl ?_
    exact q_iret C dX9_strengthOf_165 ⟨rfl, rfl⟩ (by rw [hPo]; exact ⟨5, rfl, rfl, by omega, by omega⟩)
  by_cases h13 : v1 = 42
  · exact q_lkIn C 178 dX9_strengthOf_1 h13 (by omega) (by decide) rfl rfl (K_1 (by omega))
  by_cases h14 : v1 = 43
  · exact q_lkIn C 175 dX9_strengthOf_1 h14 (by omega) (by decide) rfl rfl (K_3 (by omega))
  by_cases h15 : v1 = 45
  · exact q_lkIn C 175 dX9_strengthOf_1 h15 (by omega) (by decide) rfl rfl (K_3 (by omega))
  by_cases h16 : v1 = 47
  · exact q_lkIn C 178 dX9_strengthOf_1 h16 (by omega) (by decide) rfl rfl (K_1 (by omega))
  by_cases h17 : v1 = 60
  · exact q_lkIn C 169 dX9_strengthOf_1 h17 (by omega) (by decide) rfl rfl (K_5 (by omega))
  by_cases h18 : v1 = 62
  · exact q_lkIn C 169 dX9_strengthOf_1 h18 (by omega) (by decide) rfl rfl (K_5 (by omega))
  by_cases h19 : v1 = 94
  · refine q_lkIn C 162 dX9_strengthOf_1 h19 (by omega) (by decide) rfl rfl ?_
    refine q_iconst C dX9_strengthOf_162 (n := 163) rfl ?_
    exact q_iret C dX9_strengthOf_163 ⟨rfl, rfl⟩ (by rw [hPo]; exact ⟨4, rfl, rfl, by omega, by omega⟩)
  by_cases h20 : v1 = 124
  · refine q_lkIn C 160 dX9_strengthOf_1 h20 (by omega) (by decide) rfl rfl ?_
    refine q_iconst C dX9_strengthOf_160 (n := 161) rfl ?_
    exact q_iret C dX9_strengthOf_161 ⟨rfl, rfl⟩ (by rw [hPo]; exact ⟨3, rfl, rfl, by omega, by omega⟩)
  by_cases h21 : v1 = 9766
  · refine q_lkIn C 158 dX9_strengthOf_1 h21 (by omega) (by decide) rfl rfl ?_
    refine q_iconst C dX9_strengthOf_158 (n := 159) rfl ?_
    exact q_iret C dX9_strengthOf_159 ⟨rfl, rfl⟩ (by rw [hPo]; exact ⟨2, rfl, rfl, by omega, by omega⟩)
  by_cases h22 : v1 = 15420
  · exact q_lkIn C 172 dX9_strengthOf_1 h22 (by omega) (by decide) rfl rfl (K_7 (by omega))
  by_cases h23 : v1 = 15649
  · exact q_lkIn C 166 dX9_strengthOf_1 h23 (by omega) (by decide) rfl rfl (K_9 (by omega))
  by_cases h24 : v1 = 15676
  · exact q_lkIn C 169 dX9_strengthOf_1 h24 (by omega) (by decide) rfl rfl (K_5 (by omega))
  by_cases h25 : v1 = 15677
  · exact q_lkIn C 166 dX9_strengthOf_1 h25 (by omega) (by decide) rfl rfl (K_9 (by omega))
  by_cases h26 : v1 = 15678
  · exact q_lkIn C 169 dX9_strengthOf_1 h26 (by omega) (by decide) rfl rfl (K_5 (by omega))
  by_cases h27 : v1 = 15934
  · exact q_lkIn C 172 dX9_strengthOf_1 h27 (by omega) (by decide) rfl rfl (K_7 (by omega))
  by_cases h28 : v1 = 31868
  · refine q_lkIn C 156 dX9_strengthOf_1 h28 (by omega) (by decide) rfl rfl ?_
    refine q_iconst C dX9_strengthOf_156 (n := 157) rfl ?_
    exact q_iret C dX9_strengthOf_157 ⟨rfl, rfl⟩ (by rw [hPo]; exact ⟨1, rfl, rfl, by omega, by omega⟩)
  refine q_lkOut C 181 dX9_strengthOf_1 (by omega) (by decide) (And.intro (show ¬ (37 : Int) = v1 by omega) (And.intro (show ¬ (38 : Int) = v1 by omega) (And.intro (show ¬ (42 : Int) = v1 by omega) (And.intro (show ¬ (43 : Int) = v1 by omega) (And.intro (show ¬ (45 : Int) = v1 by omega) (And.intro (show ¬ (47 : Int) = v1 by omega) (And.intro (show ¬ (60 : Int) = v1 by omega) (And.intro (show ¬ (62 : Int) = v1 by omega) (And.intro (show ¬ (94 : Int) = v1 by omega) (And.intro (show ¬ (124 : Int) = v1 by omega) (And.intro (show ¬ (9766 : Int) = v1 by omega) (And.intro (show ¬ (15420 : Int) = v1 by omega) (And.intro (show ¬ (15649 : Int) = v1 by omega) (And.intro (show ¬ (15676 : Int) = v1 by omega) (And.intro (show ¬ (15677 : Int) = v1 by omega) (And.intro (show ¬ (15678 : Int) = v1 by omega) (And.intro (show ¬ (15934 : Int) = v1 by omega) (And.intro (show ¬ (31868 : Int) = v1 by omega) trivial)))))))))))))))))) rfl ?_
  refine q_iconst C dX9_strengthOf_181 (n := 182) rfl ?_
  exact q_iret C dX9_strengthOf_182 ⟨rfl, rfl⟩ (by rw [hPo]; exact ⟨0, rfl, rfl, by omega, by omega⟩)
theorem c_X9_ofBits {w : zWp} {T : zTl} {M : zMm} {J : zJm} {R : zRm'} {G : zGt} {F : zRm'}  (hI : zI G M) (hF : zF F R) (v1 : Int) (v2 : Int64) (v3 : Int64) (p1 : -2147483648 ≤ v1 ∧ v1 ≤ 2147483647) : zCt w 1 0 0 yX9_ofBits cX9_ofBits 5 (some .long) [zi v1, .long v2, .long v3] (T, M, J, R) (zPq T M J R) := by
  refine zCt.of rfl (Nat.le_of_ble_eq_true rfl) ?_
  intro p e s m args below meth c C
  obtain ⟨Po, hPo⟩ : ∃ Po, Po = zPq T M J R := ⟨_, rfl⟩
  rw [← hPo]
  show zK w p e 1 0 0 s m args below meth c 5 T Po 0 [zi v1, .long v2, .null, .long v3, .null] [] (T, M, J, R)
  refine q_iload_n C dX9_ofBits_0 (n := 1) rfl rfl ?_
  by_cases h1 : v1 = 94
  · refine q_lkIn C 84 dX9_ofBits_1 h1 (by omega) (by decide) rfl rfl ?_
    refine q_lload_n C dX9_ofBits_84 (n := 85) rfl rfl ?_
    refine q_lload_n C dX9_ofBits_85 (n := 86) rfl rfl ?_
    refine q_lxor C dX9_ofBits_86 (n := 87) rfl (fun l2 => ?_)
    exact q_lret C dX9_ofBits_87 ⟨rfl, rfl⟩ (by rw [hPo]; exact ⟨l2, rfl, rfl⟩)
  by_cases h3 : v1 = 124
  · refine q_lkIn C 80 dX9_ofBits_1 h3 (by omega) (by decide) rfl rfl ?_
    refine q_lload_n C dX9_ofBits_80 (n := 81) rfl rfl ?_
    refine q_lload_n C dX9_ofBits_81 (n := 82) rfl rfl ?_
    refine q_lor C dX9_ofBits_82 (n := 83) rfl (fun l4 => ?_)
    exact q_lret C dX9_ofBits_83 ⟨rfl, rfl⟩ (by rw [hPo]; exact ⟨l4, rfl, rfl⟩)
  by_cases h5 : v1 = 9766
  · refine q_lkIn C 62 dX9_ofBits_1 h5 (by omega) (by decide) rfl rfl ?_
    refine q_lload_n C dX9_ofBits_62 (n := 63) rfl rfl ?_
    refine q_lconst C dX9_ofBits_63 (n := 64) rfl ?_
    refine q_lcmp C dX9_ofBits_64 (n := 65) rfl (fun z6 h7 => ?_)
    refine q_if_eq C 78 dX9_ofBits_65 (n := 68) rfl rfl (by omega) (fun h8 => ?_) (fun h8 => ?_)
    · refine q_lconst C dX9_ofBits_78 (n := 79) rfl ?_
      exact q_lret C dX9_ofBits_79 ⟨rfl, rfl⟩ (by rw [hPo]; exact ⟨Int64.ofNat ((0 : Fin 2) : Nat), rfl, rfl⟩)
    · refine q_lload_n C dX9_ofBits_68 (n := 69) rfl rfl ?_
      refine q_lconst C dX9_ofBits_69 (n := 70) rfl ?_
      refine q_lcmp C dX9_ofBits_70 (n := 71) rfl (fun z9 h10 => ?_)
      refine q_if_eq C 78 dX9_ofBits_71 (n := 74) rfl rfl (by omega) (fun h11 => ?_) (fun h11 => ?_)
      · refine q_lconst C dX9_ofBits_78 (n := 79) rfl ?_
        exact q_lret C dX9_ofBits_79 ⟨rfl, rfl⟩ (by rw [hPo]; exact ⟨Int64.ofNat ((0 : Fin 2) : Nat), rfl, rfl⟩)
      · refine q_lconst C dX9_ofBits_74 (n := 75) rfl ?_
        refine q_goto C 79 dX9_ofBits_75 rfl ?_
        exact q_lret C dX9_ofBits_79 ⟨rfl, rfl⟩ (by rw [hPo]; exact ⟨Int64.ofNat ((1 : Fin 2) : Nat), rfl, rfl⟩)
  by_cases h12 : v1 = 31868
  · refine q_lkIn C 44 dX9_ofBits_1 h12 (by omega) (by decide) rfl rfl ?_
    refine q_lload_n C dX9_ofBits_44 (n := 45) rfl rfl ?_
    refine q_lconst C dX9_ofBits_45 (n := 46) rfl ?_
    refine q_lcmp C dX9_ofBits_46 (n := 47) rfl (fun z13 h14 => ?_)
    refine q_if_ne C 56 dX9_ofBits_47 (n := 50) rfl rfl (by omega) (fun h15 => ?_) (fun h15 => ?_)
    · refine q_lconst C dX9_ofBits_56 (n := 57) rfl ?_
      refine q_goto C 61 dX9_ofBits_57 rfl ?_
      exact q_lret C dX9_ofBits_61 ⟨rfl, rfl⟩ (by rw [hPo]; exact ⟨Int64.ofNat ((1 : Fin 2) : Nat), rfl, rfl⟩)
    · refine q_lload_n C dX9_ofBits_50 (n := 51) rfl rfl ?_
      refine q_lconst C dX9_ofBits_51 (n := 52) rfl ?_
      refine q_lcmp C dX9_ofBits_52 (n := 53) rfl (fun z16 h17 => ?_)
      refine q_if_eq C 60 dX9_ofBits_53 (n := 56) rfl rfl (by omega) (fun h18 => ?_) (fun h18 => ?_)
      · refine q_lconst C dX9_ofBits_60 (n := 61) rfl ?_
        exact q_lret C dX9_ofBits_61 ⟨rfl, rfl⟩ (by rw [hPo]; exact ⟨Int64.ofNat ((0 : Fin 2) : Nat), rfl, rfl⟩)
      · refine q_lconst C dX9_ofBits_56 (n := 57) rfl ?_
        refine q_goto C 61 dX9_ofBits_57 rfl ?_
        exact q_lret C dX9_ofBits_61 ⟨rfl, rfl⟩ (by rw [hPo]; exact ⟨Int64.ofNat ((1 : Fin 2) : Nat), rfl, rfl⟩)
  refine q_lkOut C 88 dX9_ofBits_1 (by omega) (by decide) (And.intro (show ¬ (94 : Int) = v1 by omega) (And.intro (show ¬ (124 : Int) = v1 by omega) (And.intro (show ¬ (9766 : Int) = v1 by omega) (And.intro (show ¬ (31868 : Int) = v1 by omega) trivial)))) rfl ?_
  refine q_lload_n C dX9_ofBits_88 (n := 89) rfl rfl ?_
  refine q_lload_n C dX9_ofBits_89 (n := 90) rfl rfl ?_
  refine q_land C dX9_ofBits_90 (n := 91) rfl (fun l19 => ?_)
  exact q_lret C dX9_ofBits_91 ⟨rfl, rfl⟩ (by rw [hPo]; exact ⟨l19, rfl, rfl⟩)
theorem c_X9_compared {w : zWp} {T : zTl} {M : zMm} {J : zJm} {R : zRm'} {G : zGt} {F : zRm'}  (hI : zI G M) (hF : zF F R) (v1 : Int) (v2 : Int64) (v3 : Int64) (p1 : -2147483648 ≤ v1 ∧ v1 ≤ 2147483647) : zCt w 1 0 0 yX9_compared cX9_compared 6 (some .long) [zi v1, .long v2, .long v3] (T, M, J, R) (zPq T M J R) := by
  refine zCt.of rfl (Nat.le_of_ble_eq_true rfl) ?_
  intro p e s m args below meth c C
  obtain ⟨Po, hPo⟩ : ∃ Po, Po = zPq T M J R := ⟨_, rfl⟩
  rw [← hPo]
  show zK w p e 1 0 0 s m args below meth c 6 T Po 0 [zi v1, .long v2, .null, .long v3, .null, .null] [] (T, M, J, R)
  refine q_iload_n C dX9_compared_0 (n := 1) rfl rfl ?_
  have J_3 : ∀ (u1 : Int), (-2147483648 ≤ u1 ∧ u1 ≤ 2147483647) → zK w p e 1 0 0 s m args below meth c 6 T Po 145 [.null, .null, .null, .null, .null, zi u1] [] (T, M, J, R) := by
    intro u1 h2
    refine q_iload C dX9_compared_145 (n := 147) rfl rfl ?_
    refine q_if_eq C 154 dX9_compared_147 (n := 150) rfl rfl (by omega) (fun h4 => ?_) (fun h4 => ?_)
    · refine q_lconst C dX9_compared_154 (n := 155) rfl ?_
      exact q_lret C dX9_compared_155 ⟨rfl, rfl⟩ (by rw [hPo]; exact ⟨Int64.ofNat ((0 : Fin 2) : Nat), rfl, rfl⟩)
    · refine q_lconst C dX9_compared_150 (n := 151) rfl ?_
      refine q_goto C 155 dX9_compared_151 rfl ?_
      exact q_lret C dX9_compared_155 ⟨rfl, rfl⟩ (by rw [hPo]; exact ⟨Int64.ofNat ((1 : Fin 2) : Nat), rfl, rfl⟩)
  by_cases h5 : v1 = 60
  · refine q_lkIn C 84 dX9_compared_1 h5 (by omega) (by decide) rfl rfl ?_
    refine q_lload_n C dX9_compared_84 (n := 85) rfl rfl ?_
    refine q_lload_n C dX9_compared_85 (n := 86) rfl rfl ?_
    refine q_lcmp C dX9_compared_86 (n := 87) rfl (fun z6 h7 => ?_)
    have J_11 : ∀ (u8 : Int), (-2147483648 ≤ u8 ∧ u8 ≤ 2147483647) → (u8 = 0 ∨ u8 = 1) → zK w p e 1 0 0 s m args below meth c 6 T Po 95 [.null, .null, .null, .null, .null, .null] [zi u8] (T, M, J, R) := by
      intro u8 h9 h10
      refine q_istore C [.null, .null, .null, .null, .null, zi u8] dX9_compared_95 (n := 97) rfl rfl rfl ?_
      refine q_goto C 145 dX9_compared_97 rfl ?_
      exact zK.weak (J_3 u8 (by omega)) (zwk_n (zwk_n (zwk_n (zwk_n (zwk_n (zwk_c zwk_e))))))
    refine q_if_ge C 94 dX9_compared_87 (n := 90) rfl rfl (by omega) (fun h12 => ?_) (fun h12 => ?_)
    · refine q_iconst C dX9_compared_94 (n := 95) rfl ?_
      exact zK.weak (J_11 0 (by omega) (by omega)) (zwk_n (zwk_n (zwk_n (zwk_n (zwk_n (zwk_n zwk_e))))))
    · refine q_iconst C dX9_compared_90 (n := 91) rfl ?_
      refine q_goto C 95 dX9_compared_91 rfl ?_
      exact zK.weak (J_11 1 (by omega) (by omega)) (zwk_n (zwk_n (zwk_n (zwk_n (zwk_n (zwk_n zwk_e))))))
  by_cases h13 : v1 = 62
  · refine q_lkIn C 100 dX9_compared_1 h13 (by omega) (by decide) rfl rfl ?_
    refine q_lload_n C dX9_compared_100 (n := 101) rfl rfl ?_
    refine q_lload_n C dX9_compared_101 (n := 102) rfl rfl ?_
    refine q_lcmp C dX9_compared_102 (n := 103) rfl (fun z14 h15 => ?_)
    have J_19 : ∀ (u16 : Int), (-2147483648 ≤ u16 ∧ u16 ≤ 2147483647) → (u16 = 0 ∨ u16 = 1) → zK w p e 1 0 0 s m args below meth c 6 T Po 111 [.null, .null, .null, .null, .null, .null] [zi u16] (T, M, J, R) := by
      intro u16 h17 h18
      refine q_istore C [.null, .null, .null, .null, .null, zi u16] dX9_compared_111 (n := 113) rfl rfl rfl ?_
      refine q_goto C 145 dX9_compared_113 rfl ?_
      exact zK.weak (J_3 u16 (by omega)) (zwk_n (zwk_n (zwk_n (zwk_n (zwk_n (zwk_c zwk_e))))))
    refine q_if_le C 110 dX9_compared_103 (n := 106) rfl rfl (by omega) (fun h20 => ?_) (fun h20 => ?_)
    · refine q_iconst C dX9_compared_110 (n := 111) rfl ?_
      exact zK.weak (J_19 0 (by omega) (by omega)) (zwk_n (zwk_n (zwk_n (zwk_n (zwk_n (zwk_n zwk_e))))))
    · refine q_iconst C dX9_compared_106 (n := 107) rfl ?_
      refine q_goto C 111 dX9_compared_107 rfl ?_
      exact zK.weak (J_19 1 (by omega) (by omega)) (zwk_n (zwk_n (zwk_n (zwk_n (zwk_n (zwk_n zwk_e))))))
  by_cases h21 : v1 = 15649
  · refine q_lkIn C 68 dX9_compared_1 h21 (by omega) (by decide) rfl rfl ?_
    refine q_lload_n C dX9_compared_68 (n := 69) rfl rfl ?_
    refine q_lload_n C dX9_compared_69 (n := 70) rfl rfl ?_
    refine q_lcmp C dX9_compared_70 (n := 71) rfl (fun z22 h23 => ?_)
    have J_27 : ∀ (u24 : Int), (-2147483648 ≤ u24 ∧ u24 ≤ 2147483647) → (u24 = 0 ∨ u24 = 1) → zK w p e 1 0 0 s m args below meth c 6 T Po 79 [.null, .null, .null, .null, .null, .null] [zi u24] (T, M, J, R) := by
      intro u24 h25 h26
      refine q_istore C [.null, .null, .null, .null, .null, zi u24] dX9_compared_79 (n := 81) rfl rfl rfl ?_
      refine q_goto C 145 dX9_compared_81 rfl ?_
      exact zK.weak (J_3 u24 (by omega)) (zwk_n (zwk_n (zwk_n (zwk_n (zwk_n (zwk_c zwk_e))))))
    refine q_if_eq C 78 dX9_compared_71 (n := 74) rfl rfl (by omega) (fun h28 => ?_) (fun h28 => ?_)
    · refine q_iconst C dX9_compared_78 (n := 79) rfl ?_
      exact zK.weak (J_27 0 (by omega) (by omega)) (zwk_n (zwk_n (zwk_n (zwk_n (zwk_n (zwk_n zwk_e))))))
    · refine q_iconst C dX9_compared_74 (n := 75) rfl ?_
      refine q_goto C 79 dX9_compared_75 rfl ?_
      exact zK.weak (J_27 1 (by omega) (by omega)) (zwk_n (zwk_n (zwk_n (zwk_n (zwk_n (zwk_n zwk_e))))))
  by_cases h29 : v1 = 15676
  · refine q_lkIn C 116 dX9_compared_1 h29 (by omega) (by decide) rfl rfl ?_
    refine q_lload_n C dX9_compared_116 (n := 117) rfl rfl ?_
    refine q_lload_n C dX9_compared_117 (n := 118) rfl rfl ?_
    refine q_lcmp C dX9_compared_118 (n := 119) rfl (fun z30 h31 => ?_)
    have J_35 : ∀ (u32 : Int), (-2147483648 ≤ u32 ∧ u32 ≤ 2147483647) → (u32 = 0 ∨ u32 = 1) → zK w p e 1 0 0 s m args below meth c 6 T Po 127 [.null, .null, .null, .null, .null, .null] [zi u32] (T, M, J, R) := by
      intro u32 h33 h34
      refine q_istore C [.null, .null, .null, .null, .null, zi u32] dX9_compared_127 (n := 129) rfl rfl rfl ?_
      refine q_goto C 145 dX9_compared_129 rfl ?_
      exact zK.weak (J_3 u32 (by omega)) (zwk_n (zwk_n (zwk_n (zwk_n (zwk_n (zwk_c zwk_e))))))
    refine q_if_gt C 126 dX9_compared_119 (n := 122) rfl rfl (by omega) (fun h36 => ?_) (fun h36 => ?_)
    · refine q_iconst C dX9_compared_126 (n := 127) rfl ?_
      exact zK.weak (J_35 0 (by omega) (by omega)) (zwk_n (zwk_n (zwk_n (zwk_n (zwk_n (zwk_n zwk_e))))))
    · refine q_iconst C dX9_compared_122 (n := 123) rfl ?_
      refine q_goto C 127 dX9_compared_123 rfl ?_
      exact zK.weak (J_35 1 (by omega) (by omega)) (zwk_n (zwk_n (zwk_n (zwk_n (zwk_n (zwk_n zwk_e))))))
  by_cases h37 : v1 = 15677
  · refine q_lkIn C 52 dX9_compared_1 h37 (by omega) (by decide) rfl rfl ?_
    refine q_lload_n C dX9_compared_52 (n := 53) rfl rfl ?_
    refine q_lload_n C dX9_compared_53 (n := 54) rfl rfl ?_
    refine q_lcmp C dX9_compared_54 (n := 55) rfl (fun z38 h39 => ?_)
    have J_43 : ∀ (u40 : Int), (-2147483648 ≤ u40 ∧ u40 ≤ 2147483647) → (u40 = 0 ∨ u40 = 1) → zK w p e 1 0 0 s m args below meth c 6 T Po 63 [.null, .null, .null, .null, .null, .null] [zi u40] (T, M, J, R) := by
      intro u40 h41 h42
      refine q_istore C [.null, .null, .null, .null, .null, zi u40] dX9_compared_63 (n := 65) rfl rfl rfl ?_
      refine q_goto C 145 dX9_compared_65 rfl ?_
      exact zK.weak (J_3 u40 (by omega)) (zwk_n (zwk_n (zwk_n (zwk_n (zwk_n (zwk_c zwk_e))))))
    refine q_if_ne C 62 dX9_compared_55 (n := 58) rfl rfl (by omega) (fun h44 => ?_) (fun h44 => ?_)
    · refine q_iconst C dX9_compared_62 (n := 63) rfl ?_
      exact zK.weak (J_43 0 (by omega) (by omega)) (zwk_n (zwk_n (zwk_n (zwk_n (zwk_n (zwk_n zwk_e))))))
    · refine q_iconst C dX9_compared_58 (n := 59) rfl ?_
      refine q_goto C 63 dX9_compared_59 rfl ?_
      exact zK.weak (J_43 1 (by omega) (by omega)) (zwk_n (zwk_n (zwk_n (zwk_n (zwk_n (zwk_n zwk_e))))))
  refine q_lkOut C 132 dX9_compared_1 (by omega) (by decide) (And.intro (show ¬ (60 : Int) = v1 by omega) (And.intro (show ¬ (62 : Int) = v1 by omega) (And.intro (show ¬ (15649 : Int) = v1 by omega) (And.intro (show ¬ (15676 : Int) = v1 by omega) (And.intro (show ¬ (15677 : Int) = v1 by omega) trivial))))) rfl ?_
  refine q_lload_n C dX9_compared_132 (n := 133) rfl rfl ?_
  refine q_lload_n C dX9_compared_133 (n := 134) rfl rfl ?_
  refine q_lcmp C dX9_compared_134 (n := 135) rfl (fun z45 h46 => ?_)
  have J_50 : ∀ (u47 : Int), (-2147483648 ≤ u47 ∧ u47 ≤ 2147483647) → (u47 = 0 ∨ u47 = 1) → zK w p e 1 0 0 s m args below meth c 6 T Po 143 [.null, .null, .null, .null, .null, .null] [zi u47] (T, M, J, R) := by
    intro u47 h48 h49
    refine q_istore C [.null, .null, .null, .null, .null, zi u47] dX9_compared_143 (n := 145) rfl rfl rfl ?_
    exact zK.weak (J_3 u47 (by omega)) (zwk_n (zwk_n (zwk_n (zwk_n (zwk_n (zwk_c zwk_e))))))
  refine q_if_lt C 142 dX9_compared_135 (n := 138) rfl rfl (by omega) (fun h51 => ?_) (fun h51 => ?_)
  · refine q_iconst C dX9_compared_142 (n := 143) rfl ?_
    exact zK.weak (J_50 0 (by omega) (by omega)) (zwk_n (zwk_n (zwk_n (zwk_n (zwk_n (zwk_n zwk_e))))))
  · refine q_iconst C dX9_compared_138 (n := 139) rfl ?_
    refine q_goto C 143 dX9_compared_139 rfl ?_
    exact zK.weak (J_50 1 (by omega) (by omega)) (zwk_n (zwk_n (zwk_n (zwk_n (zwk_n (zwk_n zwk_e))))))
theorem c_X9_counted {w : zWp} {T : zTl} {M : zMm} {J : zJm} {R : zRm'} {G : zGt} {F : zRm'}  (hI : zI G M) (hF : zF F R) (v1 : Int) (v2 : Int64) (v3 : Int64) (p1 : -2147483648 ≤ v1 ∧ v1 ≤ 2147483647) : zCt w 1 0 0 yX9_counted cX9_counted 5 (some .long) [zi v1, .long v2, .long v3] (T, M, J, R) (zPq T M J R) := by
  refine zCt.of rfl (Nat.le_of_ble_eq_true rfl) ?_
  intro p e s m args below meth c C
  obtain ⟨Po, hPo⟩ : ∃ Po, Po = zPq T M J R := ⟨_, rfl⟩
  rw [← hPo]
  show zK w p e 1 0 0 s m args below meth c 5 T Po 0 [zi v1, .long v2, .null, .long v3, .null] [] (T, M, J, R)
  refine q_iload_n C dX9_counted_0 (n := 1) rfl rfl ?_
  by_cases h1 : v1 = 42
  · refine q_lkIn C 86 dX9_counted_1 h1 (by omega) (by decide) rfl rfl ?_
    refine q_lload_n C dX9_counted_86 (n := 87) rfl rfl ?_
    refine q_lload_n C dX9_counted_87 (n := 88) rfl rfl ?_
    refine q_lmul C dX9_counted_88 (n := 89) rfl (fun l2 => ?_)
    exact q_lret C dX9_counted_89 ⟨rfl, rfl⟩ (by rw [hPo]; exact ⟨l2, rfl, rfl⟩)
  by_cases h3 : v1 = 43
  · refine q_lkIn C 78 dX9_counted_1 h3 (by omega) (by decide) rfl rfl ?_
    refine q_lload_n C dX9_counted_78 (n := 79) rfl rfl ?_
    refine q_lload_n C dX9_counted_79 (n := 80) rfl rfl ?_
    refine q_ladd C dX9_counted_80 (n := 81) rfl (fun l4 => ?_)
    exact q_lret C dX9_counted_81 ⟨rfl, rfl⟩ (by rw [hPo]; exact ⟨l4, rfl, rfl⟩)
  by_cases h5 : v1 = 45
  · refine q_lkIn C 82 dX9_counted_1 h5 (by omega) (by decide) rfl rfl ?_
    refine q_lload_n C dX9_counted_82 (n := 83) rfl rfl ?_
    refine q_lload_n C dX9_counted_83 (n := 84) rfl rfl ?_
    refine q_lsub C dX9_counted_84 (n := 85) rfl (fun l6 => ?_)
    exact q_lret C dX9_counted_85 ⟨rfl, rfl⟩ (by rw [hPo]; exact ⟨l6, rfl, rfl⟩)
  by_cases h7 : v1 = 47
  · refine q_lkIn C 90 dX9_counted_1 h7 (by omega) (by decide) rfl rfl ?_
    refine q_lload_n C dX9_counted_90 (n := 91) rfl rfl ?_
    refine q_lconst C dX9_counted_91 (n := 92) rfl ?_
    refine q_lcmp C dX9_counted_92 (n := 93) rfl (fun z8 h9 => ?_)
    refine q_if_ne C 100 dX9_counted_93 (n := 96) rfl rfl (by omega) (fun h10 => ?_) (fun h10 => ?_)
    · refine q_lload_n C dX9_counted_100 (n := 101) rfl rfl ?_
      refine q_lload_n C dX9_counted_101 (n := 102) rfl rfl ?_
      refine q_ldiv C dX9_counted_102 (n := 103) rfl (by rcases h9 with ⟨q1, q2⟩ | ⟨q1, q2⟩ <;> first | exact absurd q1 (by omega) | exact q2) (fun l11 => ?_)
      exact q_lret C dX9_counted_103 ⟨rfl, rfl⟩ (by rw [hPo]; exact ⟨l11, rfl, rfl⟩)
    · refine q_lconst C dX9_counted_96 (n := 97) rfl ?_
      refine q_goto C 103 dX9_counted_97 rfl ?_
      exact q_lret C dX9_counted_103 ⟨rfl, rfl⟩ (by rw [hPo]; exact ⟨Int64.ofNat ((0 : Fin 2) : Nat), rfl, rfl⟩)
  by_cases h12 : v1 = 15420
  · refine q_lkIn C 60 dX9_counted_1 h12 (by omega) (by decide) rfl rfl ?_
    refine q_lload_n C dX9_counted_60 (n := 61) rfl rfl ?_
    refine q_lload_n C dX9_counted_61 (n := 62) rfl rfl ?_
    refine q_ldc2 C dX9_counted_62 (n := 65) rfl k_X9_124 ?_
    refine q_land C dX9_counted_65 (n := 66) rfl (fun l14 => ?_)
    refine q_l2i C dX9_counted_66 (n := 67) rfl ?_
    have g15 := zr_l2i l14
    refine q_lshl C dX9_counted_67 (n := 68) rfl (fun l16 => ?_)
    exact q_lret C dX9_counted_68 ⟨rfl, rfl⟩ (by rw [hPo]; exact ⟨l16, rfl, rfl⟩)
  by_cases h17 : v1 = 15934
  · refine q_lkIn C 69 dX9_counted_1 h17 (by omega) (by decide) rfl rfl ?_
    refine q_lload_n C dX9_counted_69 (n := 70) rfl rfl ?_
    refine q_lload_n C dX9_counted_70 (n := 71) rfl rfl ?_
    refine q_ldc2 C dX9_counted_71 (n := 74) rfl k_X9_124 ?_
    refine q_land C dX9_counted_74 (n := 75) rfl (fun l19 => ?_)
    refine q_l2i C dX9_counted_75 (n := 76) rfl ?_
    have g20 := zr_l2i l19
    refine q_lshr C dX9_counted_76 (n := 77) rfl (fun l21 => ?_)
    exact q_lret C dX9_counted_77 ⟨rfl, rfl⟩ (by rw [hPo]; exact ⟨l21, rfl, rfl⟩)
  refine q_lkOut C 104 dX9_counted_1 (by omega) (by decide) (And.intro (show ¬ (42 : Int) = v1 by omega) (And.intro (show ¬ (43 : Int) = v1 by omega) (And.intro (show ¬ (45 : Int) = v1 by omega) (And.intro (show ¬ (47 : Int) = v1 by omega) (And.intro (show ¬ (15420 : Int) = v1 by omega) (And.intro (show ¬ (15934 : Int) = v1 by omega) trivial)))))) rfl ?_
  refine q_lload_n C dX9_counted_104 (n := 105) rfl rfl ?_
  refine q_lconst C dX9_counted_105 (n := 106) rfl ?_
  refine q_lcmp C dX9_counted_106 (n := 107) rfl (fun z22 h23 => ?_)
  refine q_if_ne C 114 dX9_counted_107 (n := 110) rfl rfl (by omega) (fun h24 => ?_) (fun h24 => ?_)
  · refine q_lload_n C dX9_counted_114 (n := 115) rfl rfl ?_
    refine q_lload_n C dX9_counted_115 (n := 116) rfl rfl ?_
    refine q_lrem C dX9_counted_116 (n := 117) rfl (by rcases h23 with ⟨q1, q2⟩ | ⟨q1, q2⟩ <;> first | exact absurd q1 (by omega) | exact q2) (fun l25 => ?_)
    exact q_lret C dX9_counted_117 ⟨rfl, rfl⟩ (by rw [hPo]; exact ⟨l25, rfl, rfl⟩)
  · refine q_lconst C dX9_counted_110 (n := 111) rfl ?_
    refine q_goto C 117 dX9_counted_111 rfl ?_
    exact q_lret C dX9_counted_117 ⟨rfl, rfl⟩ (by rw [hPo]; exact ⟨Int64.ofNat ((0 : Fin 2) : Nat), rfl, rfl⟩)
theorem c_X9_refuse {w : zWp} {T : zTl} {M : zMm} {J : zJm} {R : zRm'} {G : zGt} {F : zRm'} {a t q L : Nat} (hI : zI G M) (hF : zF F R) (h0 : zSums T F G a t q L) : zCt w 1 0 0 yX9_refuse cX9_refuse 1 none [.ref (w.2.1 + a)] (T, M, J, R) (zPv T R G (fun M2 => (zKp G 2 M M2) ∧ (M2 a 5 = M a 5) ∧ (¬ M2 a 6 = -1))) := by
  refine zCt.of rfl (Nat.le_of_ble_eq_true rfl) ?_
  intro p e s m args below meth c C
  obtain ⟨Po, hPo⟩ : ∃ Po, Po = zPv T R G (fun M2 => (zKp G 2 M M2) ∧ (M2 a 5 = M a 5) ∧ (¬ M2 a 6 = -1)) := ⟨_, rfl⟩
  rw [← hPo]
  have hK0 : zKp G 2 M M := zKp.rf
  show zK w p e 1 0 0 s m args below meth c 1 T Po 0 [.ref (w.2.1 + a)] [] (T, M, J, R)
  refine q_aload_n C dX9_refuse_0 (n := 1) rfl rfl ?_
  refine q_aload_n C dX9_refuse_1 (n := 2) rfl rfl ?_
  have g1 := zI.at hI h0.2.2.2.2.2.2.2.2.2.2.2.2.1
  refine q_getI C dX9_refuse_2 (n := 5) rfl f_X9_23 h0.1 (v := M a 6) rfl ?_
  refine q_iconst C dX9_refuse_5 (n := 6) rfl ?_
  have J_5 : ∀ (u2 : Int), (-2147483648 ≤ u2 ∧ u2 ≤ 2147483647) → (0 ≤ u2 ∧ u2 ≤ 4000) → zK w p e 1 0 0 s m args below meth c 1 T Po 20 [.null] [zi u2, .ref (w.2.1 + a)] (T, M, J, R) := by
    intro u2 h3 h4
    refine q_putI C dX9_refuse_20 (n := 23) rfl f_X9_23 h0.1 ⟨rfl, rfl⟩ (fun M6 (e7 : M6 = zup M a 6 u2) => ?_)
    have hI8 : zI G M6 := hI.put e7 h0.2.2.2.2.2.2.2.2.2.2.2.2.1 rfl (by omega)
    have hK9 := hK0.put e7 h0.2.2.2.2.2.2.2.2.2.2.2.2.1 (by decide)
    exact q_vret C dX9_refuse_23 ⟨rfl, rfl⟩ (by rw [hPo]; exact ⟨M6, J, rfl, rfl, hI8, hK9, (by have hz : M6 a 5 = M a 5 := (zup_n e7 (by omega)); omega), (by have hz : M6 a 6 = u2 := (zup_s e7); omega)⟩)
  refine q_icmp_ne C 16 dX9_refuse_6 (n := 9) rfl rfl (by omega) (fun h10 => ?_) (fun h10 => ?_)
  · refine q_aload_n C dX9_refuse_16 (n := 17) rfl rfl ?_
    refine q_getI C dX9_refuse_17 (n := 20) rfl f_X9_23 h0.1 (v := M a 6) rfl ?_
    exact zK.weak (J_5 (M a 6) (by omega) (by omega)) (zwk_n zwk_e)
  · refine q_aload_n C dX9_refuse_9 (n := 10) rfl rfl ?_
    have g11 := zI.at hI h0.2.2.2.2.2.2.2.2.2.2.2.1
    refine q_getI C dX9_refuse_10 (n := 13) rfl f_X9_19 h0.1 (v := M a 5) rfl ?_
    refine q_goto C 20 dX9_refuse_13 rfl ?_
    exact zK.weak (J_5 (M a 5) (by omega) (by omega)) (zwk_n zwk_e)
theorem c_X9_sign {w : zWp} {T : zTl} {M : zMm} {J : zJm} {R : zRm'} {G : zGt} {F : zRm'} {a t q L rw : Nat} (hI : zI G M) (hF : zF F R) (h0 : zSums T F G a t q L) (hrow : R a 2 = some rw) (h_rw : zRow T F G rw 3440 (L : Int)) : zCt w 1 0 0 yX9_sign cX9_sign 1 (some .int) [.ref (w.2.1 + a)] (T, M, J, R) (zPp T M J R (fun x => (-2147483648 ≤ x ∧ x ≤ 2147483647) ∧ (x = -1 ∨ M a 5 < 3440))) := by
  refine zCt.of rfl (Nat.le_of_ble_eq_true rfl) ?_
  intro p e s m args below meth c C
  obtain ⟨Po, hPo⟩ : ∃ Po, Po = zPp T M J R (fun x => (-2147483648 ≤ x ∧ x ≤ 2147483647) ∧ (x = -1 ∨ M a 5 < 3440)) := ⟨_, rfl⟩
  rw [← hPo]
  show zK w p e 1 0 0 s m args below meth c 1 T Po 0 [.ref (w.2.1 + a)] [] (T, M, J, R)
  refine q_aload_n C dX9_sign_0 (n := 1) rfl rfl ?_
  have g1 := zI.at hI h0.2.2.2.2.2.2.2.2.2.2.2.1
  refine q_getI C dX9_sign_1 (n := 4) rfl f_X9_19 h0.1 (v := M a 5) rfl ?_
  refine q_aload_n C dX9_sign_4 (n := 5) rfl rfl ?_
  refine q_getR C dX9_sign_5 (n := 8) rfl f_X9_37 h0.1 hrow ?_
  have g2 := zI.at hI h_rw.2.2.2.2.2.2.2.2.2.2
  refine q_getI C dX9_sign_8 (n := 11) rfl f_X9_41 h_rw.1 (v := M rw 3) rfl ?_
  have J_6 : ∀ (u3 : Int), (-2147483648 ≤ u3 ∧ u3 ≤ 2147483647) → (u3 = -1 ∨ M a 5 < 3440) → zK w p e 1 0 0 s m args below meth c 1 T Po 37 [.null] [zi u3] (T, M, J, R) := by
    intro u3 h4 h5
    exact q_iret C dX9_sign_37 ⟨rfl, rfl⟩ (by rw [hPo]; exact ⟨u3, rfl, rfl, by omega, by omega⟩)
  refine q_icmp_ge C 36 dX9_sign_11 (n := 14) rfl rfl (by omega) (fun h7 => ?_) (fun h7 => ?_)
  · refine q_iconst C dX9_sign_36 (n := 37) rfl ?_
    exact zK.weak (J_6 (-1) (by omega) (by omega)) (zwk_n zwk_e)
  · refine q_aload_n C dX9_sign_14 (n := 15) rfl rfl ?_
    refine q_getI C dX9_sign_15 (n := 18) rfl f_X9_19 h0.1 (v := M a 5) rfl ?_
    refine q_sipush C dX9_sign_18 (n := 21) rfl (x := 3440) (by decide) ?_
    refine q_icmp_ge C 36 dX9_sign_21 (n := 24) rfl rfl (by omega) (fun h8 => ?_) (fun h8 => ?_)
    · refine q_iconst C dX9_sign_36 (n := 37) rfl ?_
      exact zK.weak (J_6 (-1) (by omega) (by omega)) (zwk_n zwk_e)
    · refine q_aload_n C dX9_sign_24 (n := 25) rfl rfl ?_
      refine q_getR C dX9_sign_25 (n := 28) rfl f_X9_9 h0.1 (hF _ _ _ h0.2.2.2.2.2.2.1) ?_
      refine q_aload_n C dX9_sign_28 (n := 29) rfl rfl ?_
      refine q_getI C dX9_sign_29 (n := 32) rfl f_X9_19 h0.1 (v := M a 5) rfl ?_
      have g9 := zI.at hI (h0.2.2.2.2.2.2.2.2.1 (M a 5))
      refine q_iald C dX9_sign_32 (n := 33) rfl h0.2.2.2.2.2.2.2.1 (by omega) (v := M (a + 1) (M a 5)) rfl ?_
      refine q_goto C 37 dX9_sign_33 rfl ?_
      exact zK.weak (J_6 (M (a + 1) (M a 5)) (by omega) (by omega)) (zwk_n zwk_e)
theorem c_X9_readHex {w : zWp} {T : zTl} {M : zMm} {J : zJm} {R : zRm'} {G : zGt} {F : zRm'} {a t q L : Nat} (hI : zI G M) (hF : zF F R) (h0 : zSums T F G a t q L) (v1 : Int) (v2 : Int) (v3 : Int) (p1 : L ≤ 1000000) (p2 : 0 ≤ v1 ∧ v1 ≤ 3439) (p3 : 0 ≤ v2 ∧ v2 ≤ 2000000) (p4 : 0 ≤ v3 ∧ v3 ≤ 2000000) : zCt w 2 0 0 yX9_readHex cX9_readHex 10 none [.ref (w.2.1 + a), zi v1, zi v2, zi v3] (T, M, J, R) (zPv T R G (fun M2 => (zKp G 1 M M2))) := by
  refine zCt.of rfl (Nat.le_of_ble_eq_true rfl) ?_
  intro p e s m args below meth c C
  obtain ⟨Po, hPo⟩ : ∃ Po, Po = zPv T R G (fun M2 => (zKp G 1 M M2)) := ⟨_, rfl⟩
  rw [← hPo]
  have hK0 : zKp G 1 M M := zKp.rf
  show zK w p e 2 0 0 s m args below meth c 10 T Po 0 [.ref (w.2.1 + a), zi v1, zi v2, zi v3, .null, .null, .null, .null, .null, .null] [] (T, M, J, R)
  refine q_lconst C dX9_readHex_0 (n := 1) rfl ?_
  refine q_lstore C [.ref (w.2.1 + a), zi v1, zi v2, zi v3, .long (Int64.ofNat ((0 : Fin 2) : Nat)), .null, .null, .null, .null, .null] dX9_readHex_1 (n := 3) rfl rfl rfl ?_
  refine q_iload_n C dX9_readHex_3 (n := 4) rfl rfl ?_
  refine q_iload_n C dX9_readHex_4 (n := 5) rfl rfl ?_
  have J_4 : ∀ (u1 : Int), (-2147483648 ≤ u1 ∧ u1 ≤ 2147483647) → (u1 = 0 ∨ u1 = 1) → zK w p e 2 0 0 s m args below meth c 10 T Po 21 [.ref (w.2.1 + a), zi v1, zi v2, zi v3, .long (Int64.ofNat ((0 : Fin 2) : Nat)), .null, .null, .null, .null, .null] [zi u1] (T, M, J, R) := by
    intro u1 h2 h3
    refine q_istore C [.ref (w.2.1 + a), zi v1, zi v2, zi v3, .long (Int64.ofNat ((0 : Fin 2) : Nat)), .null, zi u1, .null, .null, .null] dX9_readHex_21 (n := 23) rfl rfl rfl ?_
    refine q_iload_n C dX9_readHex_23 (n := 24) rfl rfl ?_
    refine q_istore C [.ref (w.2.1 + a), zi v1, zi v2, zi v3, .long (Int64.ofNat ((0 : Fin 2) : Nat)), .null, zi u1, zi v2, .null, .null] dX9_readHex_24 (n := 26) rfl rfl rfl ?_
    have L_12 : ∀ n13 : Nat, ∀ (u5 : Int64) (u6 : Int) (u7 : Int), (-2147483648 ≤ u6 ∧ u6 ≤ 2147483647) → (-2147483648 ≤ u7 ∧ u7 ≤ 2147483647) → (v2 ≤ u7 ∧ u7 ≤ 2000000) → (u6 = 0 ∨ u6 = 1) → (2000001 - u7 ≤ (n13 : Int)) → zK w p e 2 0 0 s m args below meth c 10 T Po 26 [.ref (w.2.1 + a), zi v1, .null, zi v3, .long u5, .null, zi u6, zi u7, .null, .null] [] (T, M, J, R) := by
      intro n13
      induction n13 with
      | zero =>
        intro u5 u6 u7 h8 h9 h10 h11 hm15
        exfalso
        omega
      | succ n13 ih14 =>
        intro u5 u6 u7 h8 h9 h10 h11 hm15
        refine q_iload C dX9_readHex_26 (n := 28) rfl rfl ?_
        refine q_iload_n C dX9_readHex_28 (n := 29) rfl rfl ?_
        refine q_icmp_ge C 155 dX9_readHex_29 (n := 32) rfl rfl (by omega) (fun h16 => ?_) (fun h16 => ?_)
        · refine q_aload_n C dX9_readHex_155 (n := 156) rfl rfl ?_
          refine q_getR C dX9_readHex_156 (n := 159) rfl f_X9_9 h0.1 (hF _ _ _ h0.2.2.2.2.2.2.1) ?_
          refine q_iload_n C dX9_readHex_159 (n := 160) rfl rfl ?_
          refine q_iload C dX9_readHex_160 (n := 162) rfl rfl ?_
          refine q_if_eq C 169 dX9_readHex_162 (n := 165) rfl rfl (by omega) (fun h17 => ?_) (fun h17 => ?_)
          · refine q_iconst C dX9_readHex_169 (n := 170) rfl ?_
            refine q_iast C dX9_readHex_170 (n := 171) rfl h0.2.2.2.2.2.2.2.1 (by omega)  (fun M18 e19 => ?_)
            have hI20 : zI G M18 := hI.put e19 (h0.2.2.2.2.2.2.2.2.1 v1) rfl (by omega)
            have hK21 := hK0.put e19 (h0.2.2.2.2.2.2.2.2.1 v1) (by decide)
            refine q_aload_n C dX9_readHex_171 (n := 172) rfl rfl ?_
            refine q_getR C dX9_readHex_172 (n := 175) rfl f_X9_15 h0.1 (hF _ _ _ h0.2.2.2.2.2.2.2.2.2.1) ?_
            refine q_iload_n C dX9_readHex_175 (n := 176) rfl rfl ?_
            refine q_lload C dX9_readHex_176 (n := 178) rfl rfl ?_
            refine q_last C dX9_readHex_178 (n := 179) rfl h0.2.2.2.2.2.2.2.2.2.2.1 (by omega) (fun J22 => ?_)
            exact q_vret C dX9_readHex_179 ⟨rfl, rfl⟩ (by rw [hPo]; exact ⟨M18, J22, rfl, rfl, hI20, hK21⟩)
          · refine q_iconst C dX9_readHex_165 (n := 166) rfl ?_
            refine q_goto C 170 dX9_readHex_166 rfl ?_
            refine q_iast C dX9_readHex_170 (n := 171) rfl h0.2.2.2.2.2.2.2.1 (by omega)  (fun M23 e24 => ?_)
            have hI25 : zI G M23 := hI.put e24 (h0.2.2.2.2.2.2.2.2.1 v1) rfl (by omega)
            have hK26 := hK0.put e24 (h0.2.2.2.2.2.2.2.2.1 v1) (by decide)
            refine q_aload_n C dX9_readHex_171 (n := 172) rfl rfl ?_
            refine q_getR C dX9_readHex_172 (n := 175) rfl f_X9_15 h0.1 (hF _ _ _ h0.2.2.2.2.2.2.2.2.2.1) ?_
            refine q_iload_n C dX9_readHex_175 (n := 176) rfl rfl ?_
            refine q_lload C dX9_readHex_176 (n := 178) rfl rfl ?_
            refine q_last C dX9_readHex_178 (n := 179) rfl h0.2.2.2.2.2.2.2.2.2.2.1 (by omega) (fun J27 => ?_)
            exact q_vret C dX9_readHex_179 ⟨rfl, rfl⟩ (by rw [hPo]; exact ⟨M23, J27, rfl, rfl, hI25, hK26⟩)
        · refine q_aload_n C dX9_readHex_32 (n := 33) rfl rfl ?_
          refine q_getR C dX9_readHex_33 (n := 36) rfl f_X9_29 h0.1 (hF _ _ _ h0.2.1) ?_
          refine q_iload C dX9_readHex_36 (n := 38) rfl rfl ?_
          refine q_callVp C dX9_readHex_38 (n := 41) rfl m_X9_79 v_yX10_byteAt h0.2.2.1.1 ⟨by decide, rfl⟩ (c_X10_byteAt (w := w) (J := J) hI hF h0.2.2.1 u7 (by omega) (by omega)) (Nat.le_of_ble_eq_true rfl) rfl rfl (Nat.le_of_ble_eq_true rfl) ⟨Nat.le_refl _, Nat.le_refl _⟩ (fun x29 h30 => ?_)
          refine q_istore C [.ref (w.2.1 + a), zi v1, .null, zi v3, .long u5, .null, zi u6, zi u7, zi x29, .null] dX9_readHex_41 (n := 43) rfl rfl rfl ?_
          refine q_iload C dX9_readHex_43 (n := 45) rfl rfl ?_
          refine q_bipush C dX9_readHex_45 (n := 47) rfl (x := 48) (by decide) ?_
          have J_34 : ∀ (u31 : Int), (-2147483648 ≤ u31 ∧ u31 ≤ 2147483647) → (-1 ≤ u31 ∧ u31 ≤ 100) → zK w p e 2 0 0 s m args below meth c 10 T Po 116 [.ref (w.2.1 + a), zi v1, .null, zi v3, .long u5, .null, zi u6, zi u7, .null, .null] [zi u31] (T, M, J, R) := by
            intro u31 h32 h33
            refine q_istore C [.ref (w.2.1 + a), zi v1, .null, zi v3, .long u5, .null, zi u6, zi u7, .null, zi u31] dX9_readHex_116 (n := 118) rfl rfl rfl ?_
            refine q_iload C dX9_readHex_118 (n := 120) rfl rfl ?_
            have J_38 : ∀ (u35 : Int), (-2147483648 ≤ u35 ∧ u35 ≤ 2147483647) → (u35 = 0 ∨ u35 = 1) → zK w p e 2 0 0 s m args below meth c 10 T Po 134 [.ref (w.2.1 + a), zi v1, .null, zi v3, .long u5, .null, .null, zi u7, .null, zi u31] [zi u35] (T, M, J, R) := by
              intro u35 h36 h37
              refine q_istore C [.ref (w.2.1 + a), zi v1, .null, zi v3, .long u5, .null, zi u35, zi u7, .null, zi u31] dX9_readHex_134 (n := 136) rfl rfl rfl ?_
              refine q_lload C dX9_readHex_136 (n := 138) rfl rfl ?_
              refine q_iconst C dX9_readHex_138 (n := 139) rfl ?_
              refine q_lshl C dX9_readHex_139 (n := 140) rfl (fun l39 => ?_)
              refine q_iload C dX9_readHex_140 (n := 142) rfl rfl ?_
              refine q_bipush C dX9_readHex_142 (n := 144) rfl (x := 15) (by decide) ?_
              refine q_iand C dX9_readHex_144 (n := 145) rfl (v := zand u31 15) rfl ?_
              have g40 := zand_r (x := u31) (k := 15) (by omega)
              refine q_i2l C dX9_readHex_145 (n := 146) rfl ?_
              refine q_lor C dX9_readHex_146 (n := 147) rfl (fun l41 => ?_)
              refine q_lstore C [.ref (w.2.1 + a), zi v1, .null, zi v3, .long l41, .null, zi u35, zi u7, .null, zi u31] dX9_readHex_147 (n := 149) rfl rfl rfl ?_
              refine q_iinc C [.ref (w.2.1 + a), zi v1, .null, zi v3, .long l41, .null, zi u35, zi (u7 + 1), .null, zi u31] dX9_readHex_149 (n := 152) rfl rfl rfl rfl ?_
              refine q_goto C 26 dX9_readHex_152 rfl ?_
              exact zK.weak (ih14 l41 u35 (u7 + 1) (by omega) (by omega) (by omega) (by omega) (by omega)) (zwk_c (zwk_c (zwk_n (zwk_c (zwk_c (zwk_n (zwk_c (zwk_c (zwk_n (zwk_n zwk_e))))))))))
            have J_42 : zK w p e 2 0 0 s m args below meth c 10 T Po 133 [.ref (w.2.1 + a), zi v1, .null, zi v3, .long u5, .null, .null, zi u7, .null, zi u31] [] (T, M, J, R) := by
              refine q_iconst C dX9_readHex_133 (n := 134) rfl ?_
              exact zK.weak (J_38 0 (by omega) (by omega)) (zwk_c (zwk_c (zwk_n (zwk_c (zwk_c (zwk_n (zwk_n (zwk_c (zwk_n (zwk_c zwk_e))))))))))
            refine q_if_eq C 133 dX9_readHex_120 (n := 123) rfl rfl (by omega) (fun h43 => ?_) (fun h43 => ?_)
            · exact zK.weak (J_42) (zwk_c (zwk_c (zwk_n (zwk_c (zwk_c (zwk_n (zwk_n (zwk_c (zwk_n (zwk_c zwk_e))))))))))
            · refine q_iload C dX9_readHex_123 (n := 125) rfl rfl ?_
              refine q_iconst C dX9_readHex_125 (n := 126) rfl ?_
              refine q_icmp_eq C 133 dX9_readHex_126 (n := 129) rfl rfl (by omega) (fun h44 => ?_) (fun h44 => ?_)
              · exact zK.weak (J_42) (zwk_c (zwk_c (zwk_n (zwk_c (zwk_c (zwk_n (zwk_n (zwk_c (zwk_n (zwk_c zwk_e))))))))))
              · refine q_iconst C dX9_readHex_129 (n := 130) rfl ?_
                refine q_goto C 134 dX9_readHex_130 rfl ?_
                exact zK.weak (J_38 1 (by omega) (by omega)) (zwk_c (zwk_c (zwk_n (zwk_c (zwk_c (zwk_n (zwk_n (zwk_c (zwk_n (zwk_c zwk_e))))))))))
          have J_45 : zK w p e 2 0 0 s m args below meth c 10 T Po 65 [.ref (w.2.1 + a), zi v1, .null, zi v3, .long u5, .null, zi u6, zi u7, zi x29, .null] [] (T, M, J, R) := by
            refine q_iload C dX9_readHex_65 (n := 67) rfl rfl ?_
            refine q_bipush C dX9_readHex_67 (n := 69) rfl (x := 97) (by decide) ?_
            have J_46 : zK w p e 2 0 0 s m args below meth c 10 T Po 90 [.ref (w.2.1 + a), zi v1, .null, zi v3, .long u5, .null, zi u6, zi u7, zi x29, .null] [] (T, M, J, R) := by
              refine q_iload C dX9_readHex_90 (n := 92) rfl rfl ?_
              refine q_bipush C dX9_readHex_92 (n := 94) rfl (x := 65) (by decide) ?_
              have J_47 : zK w p e 2 0 0 s m args below meth c 10 T Po 115 [.ref (w.2.1 + a), zi v1, .null, zi v3, .long u5, .null, zi u6, zi u7, .null, .null] [] (T, M, J, R) := by
                refine q_iconst C dX9_readHex_115 (n := 116) rfl ?_
                exact zK.weak (J_34 (-1) (by omega) (by omega)) (zwk_c (zwk_c (zwk_n (zwk_c (zwk_c (zwk_n (zwk_c (zwk_c (zwk_n (zwk_n zwk_e))))))))))
              refine q_icmp_lt C 115 dX9_readHex_94 (n := 97) rfl rfl (by omega) (fun h48 => ?_) (fun h48 => ?_)
              · exact zK.weak (J_47) (zwk_c (zwk_c (zwk_n (zwk_c (zwk_c (zwk_n (zwk_c (zwk_c (zwk_n (zwk_n zwk_e))))))))))
              · refine q_iload C dX9_readHex_97 (n := 99) rfl rfl ?_
                refine q_bipush C dX9_readHex_99 (n := 101) rfl (x := 70) (by decide) ?_
                refine q_icmp_gt C 115 dX9_readHex_101 (n := 104) rfl rfl (by omega) (fun h49 => ?_) (fun h49 => ?_)
                · exact zK.weak (J_47) (zwk_c (zwk_c (zwk_n (zwk_c (zwk_c (zwk_n (zwk_c (zwk_c (zwk_n (zwk_n zwk_e))))))))))
                · refine q_iload C dX9_readHex_104 (n := 106) rfl rfl ?_
                  refine q_bipush C dX9_readHex_106 (n := 108) rfl (x := 65) (by decide) ?_
                  refine q_isub C dX9_readHex_108 (n := 109) rfl (v := x29 - 65) rfl ?_
                  refine q_bipush C dX9_readHex_109 (n := 111) rfl (x := 10) (by decide) ?_
                  refine q_iadd C dX9_readHex_111 (n := 112) rfl (v := (x29 - 65) + 10) rfl ?_
                  refine q_goto C 116 dX9_readHex_112 rfl ?_
                  exact zK.weak (J_34 ((x29 - 65) + 10) (by omega) (by omega)) (zwk_c (zwk_c (zwk_n (zwk_c (zwk_c (zwk_n (zwk_c (zwk_c (zwk_n (zwk_n zwk_e))))))))))
            refine q_icmp_lt C 90 dX9_readHex_69 (n := 72) rfl rfl (by omega) (fun h50 => ?_) (fun h50 => ?_)
            · exact zK.weak (J_46) (zwk_c (zwk_c (zwk_n (zwk_c (zwk_c (zwk_n (zwk_c (zwk_c (zwk_c (zwk_n zwk_e))))))))))
            · refine q_iload C dX9_readHex_72 (n := 74) rfl rfl ?_
              refine q_bipush C dX9_readHex_74 (n := 76) rfl (x := 102) (by decide) ?_
              refine q_icmp_gt C 90 dX9_readHex_76 (n := 79) rfl rfl (by omega) (fun h51 => ?_) (fun h51 => ?_)
              · exact zK.weak (J_46) (zwk_c (zwk_c (zwk_n (zwk_c (zwk_c (zwk_n (zwk_c (zwk_c (zwk_c (zwk_n zwk_e))))))))))
              · refine q_iload C dX9_readHex_79 (n := 81) rfl rfl ?_
                refine q_bipush C dX9_readHex_81 (n := 83) rfl (x := 97) (by decide) ?_
                refine q_isub C dX9_readHex_83 (n := 84) rfl (v := x29 - 97) rfl ?_
                refine q_bipush C dX9_readHex_84 (n := 86) rfl (x := 10) (by decide) ?_
                refine q_iadd C dX9_readHex_86 (n := 87) rfl (v := (x29 - 97) + 10) rfl ?_
                refine q_goto C 116 dX9_readHex_87 rfl ?_
                exact zK.weak (J_34 ((x29 - 97) + 10) (by omega) (by omega)) (zwk_c (zwk_c (zwk_n (zwk_c (zwk_c (zwk_n (zwk_c (zwk_c (zwk_n (zwk_n zwk_e))))))))))
          refine q_icmp_lt C 65 dX9_readHex_47 (n := 50) rfl rfl (by omega) (fun h52 => ?_) (fun h52 => ?_)
          · exact zK.weak (J_45) (zwk_c (zwk_c (zwk_n (zwk_c (zwk_c (zwk_n (zwk_c (zwk_c (zwk_c (zwk_n zwk_e))))))))))
          · refine q_iload C dX9_readHex_50 (n := 52) rfl rfl ?_
            refine q_bipush C dX9_readHex_52 (n := 54) rfl (x := 57) (by decide) ?_
            refine q_icmp_gt C 65 dX9_readHex_54 (n := 57) rfl rfl (by omega) (fun h53 => ?_) (fun h53 => ?_)
            · exact zK.weak (J_45) (zwk_c (zwk_c (zwk_n (zwk_c (zwk_c (zwk_n (zwk_c (zwk_c (zwk_c (zwk_n zwk_e))))))))))
            · refine q_iload C dX9_readHex_57 (n := 59) rfl rfl ?_
              refine q_bipush C dX9_readHex_59 (n := 61) rfl (x := 48) (by decide) ?_
              refine q_isub C dX9_readHex_61 (n := 62) rfl (v := x29 - 48) rfl ?_
              refine q_goto C 116 dX9_readHex_62 rfl ?_
              exact zK.weak (J_34 (x29 - 48) (by omega) (by omega)) (zwk_c (zwk_c (zwk_n (zwk_c (zwk_c (zwk_n (zwk_c (zwk_c (zwk_n (zwk_n zwk_e))))))))))
    exact zK.weak (L_12 _ (Int64.ofNat ((0 : Fin 2) : Nat)) u1 v2 (by omega) (by omega) (by omega) (by omega) (Int.self_le_toNat _)) (zwk_c (zwk_c (zwk_n (zwk_c (zwk_c (zwk_n (zwk_c (zwk_c (zwk_n (zwk_n zwk_e))))))))))
  have J_54 : zK w p e 2 0 0 s m args below meth c 10 T Po 20 [.ref (w.2.1 + a), zi v1, zi v2, zi v3, .long (Int64.ofNat ((0 : Fin 2) : Nat)), .null, .null, .null, .null, .null] [] (T, M, J, R) := by
    refine q_iconst C dX9_readHex_20 (n := 21) rfl ?_
    exact zK.weak (J_4 0 (by omega) (by omega)) (zwk_c (zwk_c (zwk_c (zwk_c (zwk_c (zwk_n (zwk_n (zwk_n (zwk_n (zwk_n zwk_e))))))))))
  refine q_icmp_le C 20 dX9_readHex_5 (n := 8) rfl rfl (by omega) (fun h55 => ?_) (fun h55 => ?_)
  · exact zK.weak (J_54) (zwk_c (zwk_c (zwk_c (zwk_c (zwk_c (zwk_n (zwk_n (zwk_n (zwk_n (zwk_n zwk_e))))))))))
  · refine q_iload_n C dX9_readHex_8 (n := 9) rfl rfl ?_
    refine q_iload_n C dX9_readHex_9 (n := 10) rfl rfl ?_
    refine q_isub C dX9_readHex_10 (n := 11) rfl (v := v3 - v2) rfl ?_
    refine q_bipush C dX9_readHex_11 (n := 13) rfl (x := 16) (by decide) ?_
    refine q_icmp_gt C 20 dX9_readHex_13 (n := 16) rfl rfl (by omega) (fun h56 => ?_) (fun h56 => ?_)
    · exact zK.weak (J_54) (zwk_c (zwk_c (zwk_c (zwk_c (zwk_c (zwk_n (zwk_n (zwk_n (zwk_n (zwk_n zwk_e))))))))))
    · refine q_iconst C dX9_readHex_16 (n := 17) rfl ?_
      refine q_goto C 21 dX9_readHex_17 rfl ?_
      exact zK.weak (J_4 1 (by omega) (by omega)) (zwk_c (zwk_c (zwk_c (zwk_c (zwk_c (zwk_n (zwk_n (zwk_n (zwk_n (zwk_n zwk_e))))))))))
theorem c_X9_readDecimal {w : zWp} {T : zTl} {M : zMm} {J : zJm} {R : zRm'} {G : zGt} {F : zRm'} {a t q L : Nat} (hI : zI G M) (hF : zF F R) (h0 : zSums T F G a t q L) (v1 : Int) (v2 : Int) (v3 : Int) (p1 : L ≤ 1000000) (p2 : 0 ≤ v1 ∧ v1 ≤ 3439) (p3 : 0 ≤ v2 ∧ v2 ≤ 2000000) (p4 : 0 ≤ v3 ∧ v3 ≤ 2000000) : zCt w 2 0 0 yX9_readDecimal cX9_readDecimal 9 none [.ref (w.2.1 + a), zi v1, zi v2, zi v3] (T, M, J, R) (zPv T R G (fun M2 => (zKp G 1 M M2))) := by
  refine zCt.of rfl (Nat.le_of_ble_eq_true rfl) ?_
  intro p e s m args below meth c C
  obtain ⟨Po, hPo⟩ : ∃ Po, Po = zPv T R G (fun M2 => (zKp G 1 M M2)) := ⟨_, rfl⟩
  rw [← hPo]
  have hK0 : zKp G 1 M M := zKp.rf
  show zK w p e 2 0 0 s m args below meth c 9 T Po 0 [.ref (w.2.1 + a), zi v1, zi v2, zi v3, .null, .null, .null, .null, .null] [] (T, M, J, R)
  refine q_lconst C dX9_readDecimal_0 (n := 1) rfl ?_
  refine q_lstore C [.ref (w.2.1 + a), zi v1, zi v2, zi v3, .long (Int64.ofNat ((0 : Fin 2) : Nat)), .null, .null, .null, .null] dX9_readDecimal_1 (n := 3) rfl rfl rfl ?_
  refine q_iconst C dX9_readDecimal_3 (n := 4) rfl ?_
  refine q_istore C [.ref (w.2.1 + a), zi v1, zi v2, zi v3, .long (Int64.ofNat ((0 : Fin 2) : Nat)), .null, zi 1, .null, .null] dX9_readDecimal_4 (n := 6) rfl rfl rfl ?_
  refine q_iload_n C dX9_readDecimal_6 (n := 7) rfl rfl ?_
  refine q_istore C [.ref (w.2.1 + a), zi v1, zi v2, zi v3, .long (Int64.ofNat ((0 : Fin 2) : Nat)), .null, zi 1, zi v2, .null] dX9_readDecimal_7 (n := 9) rfl rfl rfl ?_
  have L_8 : ∀ n9 : Nat, ∀ (u1 : Int64) (u2 : Int) (u3 : Int), (-2147483648 ≤ u2 ∧ u2 ≤ 2147483647) → (-2147483648 ≤ u3 ∧ u3 ≤ 2147483647) → (v2 ≤ u3 ∧ u3 ≤ 2000000) → (u2 = 0 ∨ u2 = 1) → (2000001 - u3 ≤ (n9 : Int)) → zK w p e 2 0 0 s m args below meth c 9 T Po 9 [.ref (w.2.1 + a), zi v1, .null, zi v3, .long u1, .null, zi u2, zi u3, .null] [] (T, M, J, R) := by
    intro n9
    induction n9 with
    | zero =>
      intro u1 u2 u3 h4 h5 h6 h7 hm11
      exfalso
      omega
    | succ n9 ih10 =>
      intro u1 u2 u3 h4 h5 h6 h7 hm11
      refine q_iload C dX9_readDecimal_9 (n := 11) rfl rfl ?_
      refine q_iload_n C dX9_readDecimal_11 (n := 12) rfl rfl ?_
      have J_12 : zK w p e 2 0 0 s m args below meth c 9 T Po 88 [.ref (w.2.1 + a), zi v1, .null, .null, .long u1, .null, zi u2, .null, .null] [] (T, M, J, R) := by
        refine q_aload_n C dX9_readDecimal_88 (n := 89) rfl rfl ?_
        refine q_getR C dX9_readDecimal_89 (n := 92) rfl f_X9_9 h0.1 (hF _ _ _ h0.2.2.2.2.2.2.1) ?_
        refine q_iload_n C dX9_readDecimal_92 (n := 93) rfl rfl ?_
        refine q_iload C dX9_readDecimal_93 (n := 95) rfl rfl ?_
        refine q_if_eq C 102 dX9_readDecimal_95 (n := 98) rfl rfl (by omega) (fun h13 => ?_) (fun h13 => ?_)
        · refine q_iconst C dX9_readDecimal_102 (n := 103) rfl ?_
          refine q_iast C dX9_readDecimal_103 (n := 104) rfl h0.2.2.2.2.2.2.2.1 (by omega)  (fun M14 e15 => ?_)
          have hI16 : zI G M14 := hI.put e15 (h0.2.2.2.2.2.2.2.2.1 v1) rfl (by omega)
          have hK17 := hK0.put e15 (h0.2.2.2.2.2.2.2.2.1 v1) (by decide)
          refine q_aload_n C dX9_readDecimal_104 (n := 105) rfl rfl ?_
          refine q_getR C dX9_readDecimal_105 (n := 108) rfl f_X9_15 h0.1 (hF _ _ _ h0.2.2.2.2.2.2.2.2.2.1) ?_
          refine q_iload_n C dX9_readDecimal_108 (n := 109) rfl rfl ?_
          refine q_lload C dX9_readDecimal_109 (n := 111) rfl rfl ?_
          refine q_last C dX9_readDecimal_111 (n := 112) rfl h0.2.2.2.2.2.2.2.2.2.2.1 (by omega) (fun J18 => ?_)
          exact q_vret C dX9_readDecimal_112 ⟨rfl, rfl⟩ (by rw [hPo]; exact ⟨M14, J18, rfl, rfl, hI16, hK17⟩)
        · refine q_iconst C dX9_readDecimal_98 (n := 99) rfl ?_
          refine q_goto C 103 dX9_readDecimal_99 rfl ?_
          refine q_iast C dX9_readDecimal_103 (n := 104) rfl h0.2.2.2.2.2.2.2.1 (by omega)  (fun M19 e20 => ?_)
          have hI21 : zI G M19 := hI.put e20 (h0.2.2.2.2.2.2.2.2.1 v1) rfl (by omega)
          have hK22 := hK0.put e20 (h0.2.2.2.2.2.2.2.2.1 v1) (by decide)
          refine q_aload_n C dX9_readDecimal_104 (n := 105) rfl rfl ?_
          refine q_getR C dX9_readDecimal_105 (n := 108) rfl f_X9_15 h0.1 (hF _ _ _ h0.2.2.2.2.2.2.2.2.2.1) ?_
          refine q_iload_n C dX9_readDecimal_108 (n := 109) rfl rfl ?_
          refine q_lload C dX9_readDecimal_109 (n := 111) rfl rfl ?_
          refine q_last C dX9_readDecimal_111 (n := 112) rfl h0.2.2.2.2.2.2.2.2.2.2.1 (by omega) (fun J23 => ?_)
          exact q_vret C dX9_readDecimal_112 ⟨rfl, rfl⟩ (by rw [hPo]; exact ⟨M19, J23, rfl, rfl, hI21, hK22⟩)
      refine q_icmp_ge C 88 dX9_readDecimal_12 (n := 15) rfl rfl (by omega) (fun h24 => ?_) (fun h24 => ?_)
      · exact zK.weak (J_12) (zwk_c (zwk_c (zwk_n (zwk_n (zwk_c (zwk_n (zwk_c (zwk_n (zwk_n zwk_e)))))))))
      · refine q_iload C dX9_readDecimal_15 (n := 17) rfl rfl ?_
        refine q_if_eq C 88 dX9_readDecimal_17 (n := 20) rfl rfl (by omega) (fun h25 => ?_) (fun h25 => ?_)
        · exact zK.weak (J_12) (zwk_c (zwk_c (zwk_n (zwk_n (zwk_c (zwk_n (zwk_c (zwk_n (zwk_n zwk_e)))))))))
        · refine q_aload_n C dX9_readDecimal_20 (n := 21) rfl rfl ?_
          refine q_getR C dX9_readDecimal_21 (n := 24) rfl f_X9_29 h0.1 (hF _ _ _ h0.2.1) ?_
          refine q_iload C dX9_readDecimal_24 (n := 26) rfl rfl ?_
          refine q_callVp C dX9_readDecimal_26 (n := 29) rfl m_X9_79 v_yX10_byteAt h0.2.2.1.1 ⟨by decide, rfl⟩ (c_X10_byteAt (w := w) (J := J) hI hF h0.2.2.1 u3 (by omega) (by omega)) (Nat.le_of_ble_eq_true rfl) rfl rfl (Nat.le_of_ble_eq_true rfl) ⟨Nat.le_refl _, Nat.le_refl _⟩ (fun x27 h28 => ?_)
          refine q_bipush C dX9_readDecimal_29 (n := 31) rfl (x := 48) (by decide) ?_
          refine q_isub C dX9_readDecimal_31 (n := 32) rfl (v := x27 - 48) rfl ?_
          refine q_istore C [.ref (w.2.1 + a), zi v1, .null, zi v3, .long u1, .null, zi u2, zi u3, zi (x27 - 48)] dX9_readDecimal_32 (n := 34) rfl rfl rfl ?_
          refine q_iload C dX9_readDecimal_34 (n := 36) rfl rfl ?_
          have J_32 : ∀ (u29 : Int), (-2147483648 ≤ u29 ∧ u29 ≤ 2147483647) → (u29 = 0 ∨ u29 = 1) → zK w p e 2 0 0 s m args below meth c 9 T Po 68 [.ref (w.2.1 + a), zi v1, .null, zi v3, .long u1, .null, .null, zi u3, zi (x27 - 48)] [zi u29] (T, M, J, R) := by
            intro u29 h30 h31
            refine q_istore C [.ref (w.2.1 + a), zi v1, .null, zi v3, .long u1, .null, zi u29, zi u3, zi (x27 - 48)] dX9_readDecimal_68 (n := 70) rfl rfl rfl ?_
            refine q_lload C dX9_readDecimal_70 (n := 72) rfl rfl ?_
            refine q_ldc2 C dX9_readDecimal_72 (n := 75) rfl k_X9_92 ?_
            refine q_lmul C dX9_readDecimal_75 (n := 76) rfl (fun l34 => ?_)
            refine q_iload C dX9_readDecimal_76 (n := 78) rfl rfl ?_
            refine q_i2l C dX9_readDecimal_78 (n := 79) rfl ?_
            refine q_ladd C dX9_readDecimal_79 (n := 80) rfl (fun l35 => ?_)
            refine q_lstore C [.ref (w.2.1 + a), zi v1, .null, zi v3, .long l35, .null, zi u29, zi u3, zi (x27 - 48)] dX9_readDecimal_80 (n := 82) rfl rfl rfl ?_
            refine q_iinc C [.ref (w.2.1 + a), zi v1, .null, zi v3, .long l35, .null, zi u29, zi (u3 + 1), zi (x27 - 48)] dX9_readDecimal_82 (n := 85) rfl rfl rfl rfl ?_
            refine q_goto C 9 dX9_readDecimal_85 rfl ?_
            exact zK.weak (ih10 l35 u29 (u3 + 1) (by omega) (by omega) (by omega) (by omega) (by omega)) (zwk_c (zwk_c (zwk_n (zwk_c (zwk_c (zwk_n (zwk_c (zwk_c (zwk_n zwk_e)))))))))
          have J_36 : zK w p e 2 0 0 s m args below meth c 9 T Po 67 [.ref (w.2.1 + a), zi v1, .null, zi v3, .long u1, .null, .null, zi u3, zi (x27 - 48)] [] (T, M, J, R) := by
            refine q_iconst C dX9_readDecimal_67 (n := 68) rfl ?_
            exact zK.weak (J_32 0 (by omega) (by omega)) (zwk_c (zwk_c (zwk_n (zwk_c (zwk_c (zwk_n (zwk_n (zwk_c (zwk_c zwk_e)))))))))
          refine q_if_lt C 67 dX9_readDecimal_36 (n := 39) rfl rfl (by omega) (fun h37 => ?_) (fun h37 => ?_)
          · exact zK.weak (J_36) (zwk_c (zwk_c (zwk_n (zwk_c (zwk_c (zwk_n (zwk_n (zwk_c (zwk_c zwk_e)))))))))
          · refine q_iload C dX9_readDecimal_39 (n := 41) rfl rfl ?_
            refine q_bipush C dX9_readDecimal_41 (n := 43) rfl (x := 9) (by decide) ?_
            refine q_icmp_gt C 67 dX9_readDecimal_43 (n := 46) rfl rfl (by omega) (fun h38 => ?_) (fun h38 => ?_)
            · exact zK.weak (J_36) (zwk_c (zwk_c (zwk_n (zwk_c (zwk_c (zwk_n (zwk_n (zwk_c (zwk_c zwk_e)))))))))
            · refine q_lload C dX9_readDecimal_46 (n := 48) rfl rfl ?_
              refine q_ldc2 C dX9_readDecimal_48 (n := 51) rfl k_X9_90 ?_
              refine q_iload C dX9_readDecimal_51 (n := 53) rfl rfl ?_
              refine q_i2l C dX9_readDecimal_53 (n := 54) rfl ?_
              refine q_lsub C dX9_readDecimal_54 (n := 55) rfl (fun l40 => ?_)
              refine q_ldc2 C dX9_readDecimal_55 (n := 58) rfl k_X9_92 ?_
              refine q_ldiv C dX9_readDecimal_58 (n := 59) rfl (by decide) (fun l42 => ?_)
              refine q_lcmp C dX9_readDecimal_59 (n := 60) rfl (fun z43 h44 => ?_)
              refine q_if_gt C 67 dX9_readDecimal_60 (n := 63) rfl rfl (by omega) (fun h45 => ?_) (fun h45 => ?_)
              · exact zK.weak (J_36) (zwk_c (zwk_c (zwk_n (zwk_c (zwk_c (zwk_n (zwk_n (zwk_c (zwk_c zwk_e)))))))))
              · refine q_iconst C dX9_readDecimal_63 (n := 64) rfl ?_
                refine q_goto C 68 dX9_readDecimal_64 rfl ?_
                exact zK.weak (J_32 1 (by omega) (by omega)) (zwk_c (zwk_c (zwk_n (zwk_c (zwk_c (zwk_n (zwk_n (zwk_c (zwk_c zwk_e)))))))))
  exact zK.weak (L_8 _ (Int64.ofNat ((0 : Fin 2) : Nat)) 1 v2 (by omega) (by omega) (by omega) (by omega) (Int.self_le_toNat _)) (zwk_c (zwk_c (zwk_n (zwk_c (zwk_c (zwk_n (zwk_c (zwk_c (zwk_n zwk_e)))))))))
theorem c_X9_readToken {w : zWp} {T : zTl} {M : zMm} {J : zJm} {R : zRm'} {G : zGt} {F : zRm'} {a t q L : Nat} (hI : zI G M) (hF : zF F R) (h0 : zSums T F G a t q L) (v1 : Int) (v2 : Int) (v3 : Int) (p1 : L ≤ 1000000) (p2 : 0 ≤ v1 ∧ v1 ≤ 3439) (p3 : 0 ≤ v2 ∧ v2 ≤ L) (p4 : -2147483648 ≤ v3 ∧ v3 ≤ 2147483647) : zCt w 3 0 0 yX9_readToken cX9_readToken 6 none [.ref (w.2.1 + a), zi v1, zi v2, zi v3] (T, M, J, R) (zPv T R G (fun M2 => (zKp G 1 M M2))) := by
  refine zCt.of rfl (Nat.le_of_ble_eq_true rfl) ?_
  intro p e s m args below meth c C
  obtain ⟨Po, hPo⟩ : ∃ Po, Po = zPv T R G (fun M2 => (zKp G 1 M M2)) := ⟨_, rfl⟩
  rw [← hPo]
  have hK0 : zKp G 1 M M := zKp.rf
  show zK w p e 3 0 0 s m args below meth c 6 T Po 0 [.ref (w.2.1 + a), zi v1, zi v2, zi v3, .null, .null] [] (T, M, J, R)
  refine q_iload_n C dX9_readToken_0 (n := 1) rfl rfl ?_
  refine q_callSp C dX9_readToken_1 (n := 4) rfl m_X9_66 s_yX5_kindOf (c_X5_kindOf (w := w) (J := J) hI hF v3) (Nat.le_of_ble_eq_true rfl) rfl rfl (Nat.le_of_ble_eq_true rfl) ⟨Nat.le_refl _, Nat.le_refl _⟩ (fun x2 h3 => ?_)
  refine q_istore C [.ref (w.2.1 + a), zi v1, zi v2, zi v3, zi x2, .null] dX9_readToken_4 (n := 6) rfl rfl rfl ?_
  refine q_iload_n C dX9_readToken_6 (n := 7) rfl rfl ?_
  refine q_iload_n C dX9_readToken_7 (n := 8) rfl rfl ?_
  refine q_callSp C dX9_readToken_8 (n := 11) rfl m_X9_70 s_yX5_lengthOf (c_X5_lengthOf (w := w) (J := J) hI hF v3) (Nat.le_of_ble_eq_true rfl) rfl rfl (Nat.le_of_ble_eq_true rfl) ⟨Nat.le_refl _, Nat.le_refl _⟩ (fun x6 h7 => ?_)
  obtain ⟨h4, h5⟩ := h7
  refine q_iadd C dX9_readToken_11 (n := 12) rfl (v := v2 + x6) rfl ?_
  refine q_istore C [.ref (w.2.1 + a), zi v1, zi v2, zi v3, zi x2, zi (v2 + x6)] dX9_readToken_12 (n := 14) rfl rfl rfl ?_
  refine q_aload_n C dX9_readToken_14 (n := 15) rfl rfl ?_
  refine q_getR C dX9_readToken_15 (n := 18) rfl f_X9_9 h0.1 (hF _ _ _ h0.2.2.2.2.2.2.1) ?_
  refine q_iload_n C dX9_readToken_18 (n := 19) rfl rfl ?_
  refine q_iload C dX9_readToken_19 (n := 21) rfl rfl ?_
  have J_10 : ∀ (u8 : Int), (-2147483648 ≤ u8 ∧ u8 ≤ 2147483647) → zK w p e 3 0 0 s m args below meth c 6 T Po 29 [.ref (w.2.1 + a), zi v1, zi v2, zi v3, zi x2, zi (v2 + x6)] [zi u8, zi v1, .ref (w.2.1 + (a + 1))] (T, M, J, R) := by
    intro u8 h9
    refine q_iast C dX9_readToken_29 (n := 30) rfl h0.2.2.2.2.2.2.2.1 (by omega)  (fun M11 e12 => ?_)
    have hI13 : zI G M11 := hI.put e12 (h0.2.2.2.2.2.2.2.2.1 v1) rfl (by omega)
    have hK14 := hK0.put e12 (h0.2.2.2.2.2.2.2.2.1 v1) (by decide)
    refine q_aload_n C dX9_readToken_30 (n := 31) rfl rfl ?_
    refine q_getR C dX9_readToken_31 (n := 34) rfl f_X9_15 h0.1 (hF _ _ _ h0.2.2.2.2.2.2.2.2.2.1) ?_
    refine q_iload_n C dX9_readToken_34 (n := 35) rfl rfl ?_
    refine q_lconst C dX9_readToken_35 (n := 36) rfl ?_
    refine q_last C dX9_readToken_36 (n := 37) rfl h0.2.2.2.2.2.2.2.2.2.2.1 (by omega) (fun J15 => ?_)
    refine q_iload C dX9_readToken_37 (n := 39) rfl rfl ?_
    refine q_iconst C dX9_readToken_39 (n := 40) rfl ?_
    refine q_icmp_ne C 61 dX9_readToken_40 (n := 43) rfl rfl (by omega) (fun h16 => ?_) (fun h16 => ?_)
    · refine q_iload C dX9_readToken_61 (n := 63) rfl rfl ?_
      refine q_iconst C dX9_readToken_63 (n := 64) rfl ?_
      have J_17 : zK w p e 3 0 0 s m args below meth c 6 T Po 116 [.ref (w.2.1 + a), zi v1, zi v2, .null, zi x2, zi (v2 + x6)] [] (T, M11, J15, R) := by
        refine q_iload C dX9_readToken_116 (n := 118) rfl rfl ?_
        refine q_iconst C dX9_readToken_118 (n := 119) rfl ?_
        refine q_icmp_ne C 130 dX9_readToken_119 (n := 122) rfl rfl (by omega) (fun h18 => ?_) (fun h18 => ?_)
        · exact q_vret C dX9_readToken_130 ⟨rfl, rfl⟩ (by rw [hPo]; exact ⟨M11, J15, rfl, rfl, hI13, hK14⟩)
        · refine q_aload_n C dX9_readToken_122 (n := 123) rfl rfl ?_
          refine q_iload_n C dX9_readToken_123 (n := 124) rfl rfl ?_
          refine q_iload_n C dX9_readToken_124 (n := 125) rfl rfl ?_
          refine q_iload C dX9_readToken_125 (n := 127) rfl rfl ?_
          refine q_callVv C dX9_readToken_127 (n := 130) rfl m_X9_85 v_yX9_readDecimal h0.1 ⟨by decide, rfl⟩ (c_X9_readDecimal (w := w) (J := J15) hI13 hF h0 v1 v2 (v2 + x6) (by omega) (by omega) (by omega) (by omega)) (Nat.le_of_ble_eq_true rfl) rfl rfl (Nat.le_of_ble_eq_true rfl) ⟨Nat.le_refl _, Nat.le_refl _⟩ (fun M19 J20  hI21 h22 => ?_)
          have hK24 := hK14.tr h22 (by decide)
          exact q_vret C dX9_readToken_130 ⟨rfl, rfl⟩ (by rw [hPo]; exact ⟨M19, J20, rfl, rfl, hI21, hK24⟩)
      refine q_icmp_ne C 116 dX9_readToken_64 (n := 67) rfl rfl (by omega) (fun h25 => ?_) (fun h25 => ?_)
      · exact zK.weak (J_17) (zwk_c (zwk_c (zwk_c (zwk_n (zwk_c (zwk_c zwk_e))))))
      · refine q_iload C dX9_readToken_67 (n := 69) rfl rfl ?_
        refine q_iload_n C dX9_readToken_69 (n := 70) rfl rfl ?_
        refine q_isub C dX9_readToken_70 (n := 71) rfl (v := (v2 + x6) - v2) rfl ?_
        refine q_iconst C dX9_readToken_71 (n := 72) rfl ?_
        refine q_icmp_le C 116 dX9_readToken_72 (n := 75) rfl rfl (by omega) (fun h26 => ?_) (fun h26 => ?_)
        · exact zK.weak (J_17) (zwk_c (zwk_c (zwk_c (zwk_n (zwk_c (zwk_c zwk_e))))))
        · refine q_aload_n C dX9_readToken_75 (n := 76) rfl rfl ?_
          refine q_getR C dX9_readToken_76 (n := 79) rfl f_X9_29 h0.1 (hF _ _ _ h0.2.1) ?_
          refine q_iload_n C dX9_readToken_79 (n := 80) rfl rfl ?_
          refine q_callVp C dX9_readToken_80 (n := 83) rfl m_X9_79 v_yX10_byteAt h0.2.2.1.1 ⟨by decide, rfl⟩ (c_X10_byteAt (w := w) (J := J15) hI13 hF h0.2.2.1 v2 (by omega) (by omega)) (Nat.le_of_ble_eq_true rfl) rfl rfl (Nat.le_of_ble_eq_true rfl) ⟨Nat.le_refl _, Nat.le_refl _⟩ (fun x28 h29 => ?_)
          refine q_bipush C dX9_readToken_83 (n := 85) rfl (x := 48) (by decide) ?_
          refine q_icmp_ne C 116 dX9_readToken_85 (n := 88) rfl rfl (by omega) (fun h30 => ?_) (fun h30 => ?_)
          · exact zK.weak (J_17) (zwk_c (zwk_c (zwk_c (zwk_n (zwk_c (zwk_c zwk_e))))))
          · refine q_aload_n C dX9_readToken_88 (n := 89) rfl rfl ?_
            refine q_getR C dX9_readToken_89 (n := 92) rfl f_X9_29 h0.1 (hF _ _ _ h0.2.1) ?_
            refine q_iload_n C dX9_readToken_92 (n := 93) rfl rfl ?_
            refine q_iconst C dX9_readToken_93 (n := 94) rfl ?_
            refine q_iadd C dX9_readToken_94 (n := 95) rfl (v := v2 + 1) rfl ?_
            refine q_callVp C dX9_readToken_95 (n := 98) rfl m_X9_79 v_yX10_byteAt h0.2.2.1.1 ⟨by decide, rfl⟩ (c_X10_byteAt (w := w) (J := J15) hI13 hF h0.2.2.1 (v2 + 1) (by omega) (by omega)) (Nat.le_of_ble_eq_true rfl) rfl rfl (Nat.le_of_ble_eq_true rfl) ⟨Nat.le_refl _, Nat.le_refl _⟩ (fun x32 h33 => ?_)
            refine q_bipush C dX9_readToken_98 (n := 100) rfl (x := 120) (by decide) ?_
            refine q_icmp_ne C 116 dX9_readToken_100 (n := 103) rfl rfl (by omega) (fun h34 => ?_) (fun h34 => ?_)
            · exact zK.weak (J_17) (zwk_c (zwk_c (zwk_c (zwk_n (zwk_c (zwk_c zwk_e))))))
            · refine q_aload_n C dX9_readToken_103 (n := 104) rfl rfl ?_
              refine q_iload_n C dX9_readToken_104 (n := 105) rfl rfl ?_
              refine q_iload_n C dX9_readToken_105 (n := 106) rfl rfl ?_
              refine q_iconst C dX9_readToken_106 (n := 107) rfl ?_
              refine q_iadd C dX9_readToken_107 (n := 108) rfl (v := v2 + 2) rfl ?_
              refine q_iload C dX9_readToken_108 (n := 110) rfl rfl ?_
              refine q_callVv C dX9_readToken_110 (n := 113) rfl m_X9_82 v_yX9_readHex h0.1 ⟨by decide, rfl⟩ (c_X9_readHex (w := w) (J := J15) hI13 hF h0 v1 (v2 + 2) (v2 + x6) (by omega) (by omega) (by omega) (by omega)) (Nat.le_of_ble_eq_true rfl) rfl rfl (Nat.le_of_ble_eq_true rfl) ⟨Nat.le_refl _, Nat.le_refl _⟩ (fun M35 J36  hI37 h38 => ?_)
              have hK40 := hK14.tr h38 (by decide)
              refine q_goto C 130 dX9_readToken_113 rfl ?_
              exact q_vret C dX9_readToken_130 ⟨rfl, rfl⟩ (by rw [hPo]; exact ⟨M35, J36, rfl, rfl, hI37, hK40⟩)
    · refine q_aload_n C dX9_readToken_43 (n := 44) rfl rfl ?_
      refine q_getR C dX9_readToken_44 (n := 47) rfl f_X9_9 h0.1 (hF _ _ _ h0.2.2.2.2.2.2.1) ?_
      refine q_iload_n C dX9_readToken_47 (n := 48) rfl rfl ?_
      refine q_aload_n C dX9_readToken_48 (n := 49) rfl rfl ?_
      refine q_getR C dX9_readToken_49 (n := 52) rfl f_X9_29 h0.1 (hF _ _ _ h0.2.1) ?_
      refine q_iload_n C dX9_readToken_52 (n := 53) rfl rfl ?_
      refine q_iload_n C dX9_readToken_53 (n := 54) rfl rfl ?_
      refine q_callVp C dX9_readToken_54 (n := 57) rfl m_X9_73 v_yX10_signOf h0.2.2.1.1 ⟨by decide, rfl⟩ (c_X10_signOf (w := w) (J := J15) hI13 hF h0.2.2.1 v2 v3 (by omega) (by omega)) (Nat.le_of_ble_eq_true rfl) rfl rfl (Nat.le_of_ble_eq_true rfl) ⟨Nat.le_refl _, Nat.le_refl _⟩ (fun x42 h43 => ?_)
      refine q_iast C dX9_readToken_57 (n := 58) rfl h0.2.2.2.2.2.2.2.1 (by omega)  (fun M44 e45 => ?_)
      have hI46 : zI G M44 := hI13.put e45 (h0.2.2.2.2.2.2.2.2.1 v1) rfl (by omega)
      have hK47 := hK14.put e45 (h0.2.2.2.2.2.2.2.2.1 v1) (by decide)
      refine q_goto C 130 dX9_readToken_58 rfl ?_
      exact q_vret C dX9_readToken_130 ⟨rfl, rfl⟩ (by rw [hPo]; exact ⟨M44, J15, rfl, rfl, hI46, hK47⟩)
  refine q_if_ne C 28 dX9_readToken_21 (n := 24) rfl rfl (by omega) (fun h48 => ?_) (fun h48 => ?_)
  · refine q_iconst C dX9_readToken_28 (n := 29) rfl ?_
    exact zK.weak (J_10 (-1) (by omega)) (zwk_c (zwk_c (zwk_c (zwk_c (zwk_c (zwk_c zwk_e))))))
  · refine q_iconst C dX9_readToken_24 (n := 25) rfl ?_
    refine q_goto C 29 dX9_readToken_25 rfl ?_
    exact zK.weak (J_10 0 (by omega)) (zwk_c (zwk_c (zwk_c (zwk_c (zwk_c (zwk_c zwk_e))))))
theorem c_X9_choice_s {w : zWp} {T : zTl} {M : zMm} {J : zJm} {R : zRm'} {G : zGt} {F : zRm'} {a t q L rw n : Nat} (hI : zI G M) (hF : zF F R) (h0 : zSums T F G a t q L) (v1 : Int) (v2 : Int) (hrow : R a 2 = some rw) (h_rw : zRow T F G rw 3440 (L : Int)) (p1 : 0 ≤ v1 ∧ v1 ≤ 8) (p2 : v2 = 0 ∨ v2 = 1) (p3 : M a 6 = -1) (p4 : M a 5 ≤ 3440) (pm : 13 * (8 - v1) + 13 ≤ (n : Int) + 1) (ih_choice : ∀ (M : zMm) (J : zJm), zI G M → ∀ (v1 v2 : Int), (0 ≤ v1 ∧ v1 ≤ 8) → (v2 = 0 ∨ v2 = 1) → (M a 6 = -1) → (M a 5 ≤ 3440) → (13 * (8 - v1) + 13 ≤ (n : Int)) → zCt w (n + 4) 0 0 yX9_choice cX9_choice 9 (some .long) [.ref (w.2.1 + a), zi v1, zi v2] (T, M, J, R) (zPl T R G (fun M2 => (zKp G 2 M M2) ∧ ((M2 a 6 = -1 ∧ M2 a 5 ≤ 3440) ∨ (¬ M2 a 6 = -1 ∧ M2 a 5 ≤ 3460 - v1))))) (ih_part : ∀ (M : zMm) (J : zJm), zI G M → ∀ (v1 v2 : Int), (0 ≤ v1 ∧ v1 ≤ 8) → (v2 = 0 ∨ v2 = 1) → ((M a 6 = -1 ∧ M a 5 ≤ 3440) ∨ (¬ M a 6 = -1 ∧ M a 5 ≤ 3460 - v1)) → (13 * (8 - v1) + 1 ≤ (n : Int)) → zCt w (n + 4) 0 0 yX9_part cX9_part 3 (some .long) [.ref (w.2.1 + a), zi v1, zi v2] (T, M, J, R) (zPl T R G (fun M2 => (zKp G 2 M M2) ∧ ((M2 a 6 = -1 ∧ M2 a 5 ≤ 3440) ∨ (¬ M2 a 6 = -1 ∧ (M2 a 5 ≤ 3459 - v1 ∨ M2 a 5 = M a 5)))))) (ih_binary : ∀ (M : zMm) (J : zJm), zI G M → ∀ (v1 v2 v3 : Int), (1 ≤ v1 ∧ v1 ≤ 11) → (0 ≤ v2 ∧ v2 ≤ 8) → (v3 = 0 ∨ v3 = 1) → (M a 6 = -1) → (M a 5 ≤ 3440) → (13 * (8 - v2) + 13 - v1 ≤ (n : Int)) → zCt w (n + 4) 0 0 yX9_binary cX9_binary 12 (some .long) [.ref (w.2.1 + a), zi v1, zi v2, zi v3] (T, M, J, R) (zPl T R G (fun M2 => (zKp G 2 M M2) ∧ ((M2 a 6 = -1 ∧ M2 a 5 ≤ 3440) ∨ (¬ M2 a 6 = -1 ∧ M2 a 5 ≤ 3460 - v2))))) (ih_single : ∀ (M : zMm) (J : zJm), zI G M → ∀ (v1 v2 : Int), (0 ≤ v1 ∧ v1 ≤ 8) → (v2 = 0 ∨ v2 = 1) → (M a 6 = -1) → (M a 5 ≤ 3440) → (13 * (8 - v1) + 1 ≤ (n : Int)) → zCt w (n + 4) 0 0 yX9_single cX9_single 7 (some .long) [.ref (w.2.1 + a), zi v1, zi v2] (T, M, J, R) (zPl T R G (fun M2 => (zKp G 2 M M2) ∧ ((M2 a 6 = -1 ∧ M2 a 5 ≤ 3440) ∨ (¬ M2 a 6 = -1 ∧ M2 a 5 ≤ 3460 - v1))))) : zCt w (n + 5) 0 0 yX9_choice cX9_choice 9 (some .long) [.ref (w.2.1 + a), zi v1, zi v2] (T, M, J, R) (zPl T R G (fun M2 => (zKp G 2 M M2) ∧ ((M2 a 6 = -1 ∧ M2 a 5 ≤ 3440) ∨ (¬ M2 a 6 = -1 ∧ M2 a 5 ≤ 3460 - v1)))) := by
  refine zCt.of rfl (Nat.le_of_ble_eq_true rfl) ?_
  intro p e s m args below meth c C
  obtain ⟨Po, hPo⟩ : ∃ Po, Po = zPl T R G (fun M2 => (zKp G 2 M M2) ∧ ((M2 a 6 = -1 ∧ M2 a 5 ≤ 3440) ∨ (¬ M2 a 6 = -1 ∧ M2 a 5 ≤ 3460 - v1))) := ⟨_, rfl⟩
  rw [← hPo]
  have hK0 : zKp G 2 M M := zKp.rf
  show zK w p e (n + 5) 0 0 s m args below meth c 9 T Po 0 [.ref (w.2.1 + a), zi v1, zi v2, .null, .null, .null, .null, .null, .null] [] (T, M, J, R)
  refine q_aload_n C dX9_choice_0 (n := 1) rfl rfl ?_
  refine q_iconst C dX9_choice_1 (n := 2) rfl ?_
  refine q_iload_n C dX9_choice_2 (n := 3) rfl rfl ?_
  refine q_iload_n C dX9_choice_3 (n := 4) rfl rfl ?_
  refine q_callVl C dX9_choice_4 (n := 7) rfl m_X9_94 v_yX9_binary h0.1 ⟨by decide, rfl⟩ (ih_binary M J hI 1 v1 v2 (by omega) (by omega) (by omega) (by omega) (by omega) (by omega)) (by omega) rfl rfl (Nat.le_of_ble_eq_true rfl) ⟨Nat.le_refl _, Nat.le_refl _⟩ (fun l6 M2 J3  hI4 h5 => ?_)
  obtain ⟨hk7, h1⟩ := h5
  have hK8 := hK0.tr hk7 (by decide)
  refine q_lstore_n C [.ref (w.2.1 + a), zi v1, zi v2, .long l6, .null, .null, .null, .null, .null] dX9_choice_7 (n := 8) rfl rfl rfl ?_
  refine q_aload_n C dX9_choice_8 (n := 9) rfl rfl ?_
  have g9 := zI.at hI4 h0.2.2.2.2.2.2.2.2.2.2.2.2.1
  refine q_getI C dX9_choice_9 (n := 12) rfl f_X9_23 h0.1 (v := M2 a 6) rfl ?_
  refine q_iconst C dX9_choice_12 (n := 13) rfl ?_
  refine q_icmp_ne C 25 dX9_choice_13 (n := 16) rfl rfl (by omega) (fun h10 => ?_) (fun h10 => ?_)
  · refine q_lload_n C dX9_choice_25 (n := 26) rfl rfl ?_
    exact q_lret C dX9_choice_26 ⟨rfl, rfl⟩ (by rw [hPo]; exact ⟨l6, M2, J3, rfl, rfl, hI4, hK8, (by omega)⟩)
  · refine q_aload_n C dX9_choice_16 (n := 17) rfl rfl ?_
    refine q_callVp C dX9_choice_17 (n := 20) rfl m_X9_98 v_yX9_sign h0.1 ⟨by decide, rfl⟩ (c_X9_sign (w := w) (J := J3) hI4 hF h0 (by assumption) (by assumption)) (by omega) rfl rfl (Nat.le_of_ble_eq_true rfl) ⟨Nat.le_refl _, Nat.le_refl _⟩ (fun x13 h14 => ?_)
    obtain ⟨h11, h12⟩ := h14
    refine q_bipush C dX9_choice_20 (n := 22) rfl (x := 63) (by decide) ?_
    refine q_icmp_eq C 27 dX9_choice_22 (n := 25) rfl rfl (by omega) (fun h15 => ?_) (fun h15 => ?_)
    · refine q_aload_n C dX9_choice_27 (n := 28) rfl rfl ?_
      refine q_dup C dX9_choice_28 (n := 29) rfl rfl ?_
      have g16 := zI.at hI4 h0.2.2.2.2.2.2.2.2.2.2.2.1
      refine q_getI C dX9_choice_29 (n := 32) rfl f_X9_19 h0.1 (v := M2 a 5) rfl ?_
      refine q_iconst C dX9_choice_32 (n := 33) rfl ?_
      refine q_iadd C dX9_choice_33 (n := 34) rfl (v := (M2 a 5) + 1) rfl ?_
      refine q_putI C dX9_choice_34 (n := 37) rfl f_X9_19 h0.1 ⟨rfl, rfl⟩ (fun M17 (e18 : M17 = zup M2 a 5 ((M2 a 5) + 1)) => ?_)
      have hI19 : zI G M17 := hI4.put e18 h0.2.2.2.2.2.2.2.2.2.2.2.1 rfl (by omega)
      have hK20 := hK8.put e18 h0.2.2.2.2.2.2.2.2.2.2.2.1 (by decide)
      refine q_aload_n C dX9_choice_37 (n := 38) rfl rfl ?_
      refine q_iload_n C dX9_choice_38 (n := 39) rfl rfl ?_
      refine q_iload_n C dX9_choice_39 (n := 40) rfl rfl ?_
      have J_24 : ∀ (u21 : Int), (-2147483648 ≤ u21 ∧ u21 ≤ 2147483647) → (u21 = 0 ∨ u21 = 1) → zK w p e (n + 5) 0 0 s m args below meth c 9 T Po 54 [.ref (w.2.1 + a), zi v1, zi v2, .long l6, .null, .null, .null, .null, .null] [zi u21, zi v1, .ref (w.2.1 + a)] (T, M17, J3, R) := by
        intro u21 h22 h23
        refine q_callVl C dX9_choice_54 (n := 57) rfl m_X9_102 v_yX9_part h0.1 ⟨by decide, rfl⟩ (ih_part M17 J3 hI19 v1 u21 (by omega) (by omega) (by have hz25 : M17 a 6 = M2 a 6 := (zup_n e18 (by omega)); have hz26 : M17 a 5 = (M2 a 5) + 1 := (zup_s e18); omega) (by omega)) (by omega) rfl rfl (Nat.le_of_ble_eq_true rfl) ⟨Nat.le_refl _, Nat.le_refl _⟩ (fun l32 M28 J29  hI30 h31 => ?_)
        obtain ⟨hk33, h27⟩ := h31
        have hK34 := hK20.tr hk33 (by decide)
        have hz35 : M17 a 5 = (M2 a 5) + 1 := (zup_s e18)
        refine q_lstore C [.ref (w.2.1 + a), zi v1, zi v2, .long l6, .null, .long l32, .null, .null, .null] dX9_choice_57 (n := 59) rfl rfl rfl ?_
        refine q_aload_n C dX9_choice_59 (n := 60) rfl rfl ?_
        refine q_callVp C dX9_choice_60 (n := 63) rfl m_X9_98 v_yX9_sign h0.1 ⟨by decide, rfl⟩ (c_X9_sign (w := w) (J := J29) hI30 hF h0 (by assumption) (by assumption)) (by omega) rfl rfl (Nat.le_of_ble_eq_true rfl) ⟨Nat.le_refl _, Nat.le_refl _⟩ (fun x38 h39 => ?_)
        obtain ⟨h36, h37⟩ := h39
        refine q_bipush C dX9_choice_63 (n := 65) rfl (x := 58) (by decide) ?_
        have J_46 : ∀ (M40 : zMm) (J41 : zJm), zI G M40 → zKp G 2 M M40 → ((M40 a 6 = M28 a 6 ∧ M28 a 5 < 3440) ∨ ¬ M40 a 6 = -1) → (M40 a 5 = M28 a 5) → zK w p e (n + 5) 0 0 s m args below meth c 9 T Po 72 [.ref (w.2.1 + a), zi v1, zi v2, .long l6, .null, .long l32, .null, .null, .null] [] (T, M40, J41, R) := by
          intro M40 J41 hI42 hK43 h44 h45
          refine q_aload_n C dX9_choice_72 (n := 73) rfl rfl ?_
          refine q_dup C dX9_choice_73 (n := 74) rfl rfl ?_
          have g47 := zI.at hI30 h0.2.2.2.2.2.2.2.2.2.2.2.1
          refine q_getI C dX9_choice_74 (n := 77) rfl f_X9_19 h0.1 (v := M28 a 5) (h45) ?_
          refine q_iconst C dX9_choice_77 (n := 78) rfl ?_
          refine q_iadd C dX9_choice_78 (n := 79) rfl (v := (M28 a 5) + 1) rfl ?_
          refine q_putI C dX9_choice_79 (n := 82) rfl f_X9_19 h0.1 ⟨rfl, rfl⟩ (fun M48 (e49 : M48 = zup M40 a 5 ((M28 a 5) + 1)) => ?_)
          have hI50 : zI G M48 := hI42.put e49 h0.2.2.2.2.2.2.2.2.2.2.2.1 rfl (by omega)
          have hK51 := hK43.put e49 h0.2.2.2.2.2.2.2.2.2.2.2.1 (by decide)
          refine q_aload_n C dX9_choice_82 (n := 83) rfl rfl ?_
          refine q_iload_n C dX9_choice_83 (n := 84) rfl rfl ?_
          refine q_iload_n C dX9_choice_84 (n := 85) rfl rfl ?_
          have J_55 : ∀ (u52 : Int), (-2147483648 ≤ u52 ∧ u52 ≤ 2147483647) → (u52 = 0 ∨ u52 = 1) → zK w p e (n + 5) 0 0 s m args below meth c 9 T Po 99 [.null, .null, .null, .long l6, .null, .long l32, .null, .null, .null] [zi u52, zi v1, .ref (w.2.1 + a)] (T, M48, J41, R) := by
            intro u52 h53 h54
            refine q_callVl C dX9_choice_99 (n := 102) rfl m_X9_102 v_yX9_part h0.1 ⟨by decide, rfl⟩ (ih_part M48 J41 hI50 v1 u52 (by omega) (by omega) (by have hz56 : M48 a 6 = M40 a 6 := (zup_n e49 (by omega)); have hz57 : M48 a 5 = (M28 a 5) + 1 := (zup_s e49); omega) (by omega)) (by omega) rfl rfl (Nat.le_of_ble_eq_true rfl) ⟨Nat.le_refl _, Nat.le_refl _⟩ (fun l63 M59 J60  hI61 h62 => ?_)
            obtain ⟨hk64, h58⟩ := h62
            have hK65 := hK51.tr hk64 (by decide)
            have hz66 : M48 a 5 = (M28 a 5) + 1 := (zup_s e49)
            refine q_lstore C [.null, .null, .null, .long l6, .null, .long l32, .null, .long l63, .null] dX9_choice_102 (n := 104) rfl rfl rfl ?_
            refine q_lload_n C dX9_choice_104 (n := 105) rfl rfl ?_
            refine q_lconst C dX9_choice_105 (n := 106) rfl ?_
            refine q_lcmp C dX9_choice_106 (n := 107) rfl (fun z67 h68 => ?_)
            refine q_if_eq C 115 dX9_choice_107 (n := 110) rfl rfl (by omega) (fun h69 => ?_) (fun h69 => ?_)
            · refine q_lload C dX9_choice_115 (n := 117) rfl rfl ?_
              exact q_lret C dX9_choice_117 ⟨rfl, rfl⟩ (by rw [hPo]; exact ⟨l63, M59, J60, rfl, rfl, hI61, hK65, (by omega)⟩)
            · refine q_lload C dX9_choice_110 (n := 112) rfl rfl ?_
              refine q_goto C 117 dX9_choice_112 rfl ?_
              exact q_lret C dX9_choice_117 ⟨rfl, rfl⟩ (by rw [hPo]; exact ⟨l32, M59, J60, rfl, rfl, hI61, hK65, (by omega)⟩)
          have J_70 : zK w p e (n + 5) 0 0 s m args below meth c 9 T Po 98 [.null, .null, .null, .long l6, .null, .long l32, .null, .null, .null] [zi v1, .ref (w.2.1 + a)] (T, M48, J41, R) := by
            refine q_iconst C dX9_choice_98 (n := 99) rfl ?_
            exact zK.weak (J_55 0 (by omega) (by omega)) (zwk_n (zwk_n (zwk_n (zwk_c (zwk_n (zwk_c (zwk_n (zwk_n (zwk_n zwk_e)))))))))
          refine q_if_eq C 98 dX9_choice_85 (n := 88) rfl rfl (by omega) (fun h71 => ?_) (fun h71 => ?_)
          · exact zK.weak (J_70) (zwk_n (zwk_n (zwk_n (zwk_c (zwk_n (zwk_c (zwk_n (zwk_n (zwk_n zwk_e)))))))))
          · refine q_lload_n C dX9_choice_88 (n := 89) rfl rfl ?_
            refine q_lconst C dX9_choice_89 (n := 90) rfl ?_
            refine q_lcmp C dX9_choice_90 (n := 91) rfl (fun z72 h73 => ?_)
            refine q_if_ne C 98 dX9_choice_91 (n := 94) rfl rfl (by omega) (fun h74 => ?_) (fun h74 => ?_)
            · exact zK.weak (J_70) (zwk_n (zwk_n (zwk_n (zwk_c (zwk_n (zwk_c (zwk_n (zwk_n (zwk_n zwk_e)))))))))
            · refine q_iconst C dX9_choice_94 (n := 95) rfl ?_
              refine q_goto C 99 dX9_choice_95 rfl ?_
              exact zK.weak (J_55 1 (by omega) (by omega)) (zwk_n (zwk_n (zwk_n (zwk_c (zwk_n (zwk_c (zwk_n (zwk_n (zwk_n zwk_e)))))))))
        refine q_icmp_eq C 72 dX9_choice_65 (n := 68) rfl rfl (by omega) (fun h75 => ?_) (fun h75 => ?_)
        · exact zK.weak (J_46 M28 J29 hI30 hK34 (by omega) (by omega)) (zwk_c (zwk_c (zwk_c (zwk_c (zwk_n (zwk_c (zwk_n (zwk_n (zwk_n zwk_e)))))))))
        · refine q_aload_n C dX9_choice_68 (n := 69) rfl rfl ?_
          refine q_callVv C dX9_choice_69 (n := 72) rfl m_X9_105 v_yX9_refuse h0.1 ⟨by decide, rfl⟩ (c_X9_refuse (w := w) (J := J29) hI30 hF h0) (by omega) rfl rfl (Nat.le_of_ble_eq_true rfl) ⟨Nat.le_refl _, Nat.le_refl _⟩ (fun M78 J79  hI80 h81 => ?_)
          obtain ⟨hk82, h76, h77⟩ := h81
          have hK83 := hK34.tr hk82 (by decide)
          exact zK.weak (J_46 M78 J79 hI80 hK83 (by omega) (by have hz84 : M78 a 5 = M28 a 5 := (h76); omega)) (zwk_c (zwk_c (zwk_c (zwk_c (zwk_n (zwk_c (zwk_n (zwk_n (zwk_n zwk_e)))))))))
      have J_85 : zK w p e (n + 5) 0 0 s m args below meth c 9 T Po 53 [.ref (w.2.1 + a), zi v1, zi v2, .long l6, .null, .null, .null, .null, .null] [zi v1, .ref (w.2.1 + a)] (T, M17, J3, R) := by
        refine q_iconst C dX9_choice_53 (n := 54) rfl ?_
        exact zK.weak (J_24 0 (by omega) (by omega)) (zwk_c (zwk_c (zwk_c (zwk_c (zwk_n (zwk_n (zwk_n (zwk_n (zwk_n zwk_e)))))))))
      refine q_if_eq C 53 dX9_choice_40 (n := 43) rfl rfl (by omega) (fun h86 => ?_) (fun h86 => ?_)
      · exact zK.weak (J_85) (zwk_c (zwk_c (zwk_c (zwk_c (zwk_n (zwk_n (zwk_n (zwk_n (zwk_n zwk_e)))))))))
      · refine q_lload_n C dX9_choice_43 (n := 44) rfl rfl ?_
        refine q_lconst C dX9_choice_44 (n := 45) rfl ?_
        refine q_lcmp C dX9_choice_45 (n := 46) rfl (fun z87 h88 => ?_)
        refine q_if_eq C 53 dX9_choice_46 (n := 49) rfl rfl (by omega) (fun h89 => ?_) (fun h89 => ?_)
        · exact zK.weak (J_85) (zwk_c (zwk_c (zwk_c (zwk_c (zwk_n (zwk_n (zwk_n (zwk_n (zwk_n zwk_e)))))))))
        · refine q_iconst C dX9_choice_49 (n := 50) rfl ?_
          refine q_goto C 54 dX9_choice_50 rfl ?_
          exact zK.weak (J_24 1 (by omega) (by omega)) (zwk_c (zwk_c (zwk_c (zwk_c (zwk_n (zwk_n (zwk_n (zwk_n (zwk_n zwk_e)))))))))
    · refine q_lload_n C dX9_choice_25 (n := 26) rfl rfl ?_
      exact q_lret C dX9_choice_26 ⟨rfl, rfl⟩ (by rw [hPo]; exact ⟨l6, M2, J3, rfl, rfl, hI4, hK8, (by omega)⟩)
theorem c_X9_part_s {w : zWp} {T : zTl} {M : zMm} {J : zJm} {R : zRm'} {G : zGt} {F : zRm'} {a t q L rw n : Nat} (hI : zI G M) (hF : zF F R) (h0 : zSums T F G a t q L) (v1 : Int) (v2 : Int) (hrow : R a 2 = some rw) (h_rw : zRow T F G rw 3440 (L : Int)) (p1 : 0 ≤ v1 ∧ v1 ≤ 8) (p2 : v2 = 0 ∨ v2 = 1) (p3 : (M a 6 = -1 ∧ M a 5 ≤ 3440) ∨ (¬ M a 6 = -1 ∧ M a 5 ≤ 3460 - v1)) (pm : 13 * (8 - v1) + 1 ≤ (n : Int) + 1) (ih_choice : ∀ (M : zMm) (J : zJm), zI G M → ∀ (v1 v2 : Int), (0 ≤ v1 ∧ v1 ≤ 8) → (v2 = 0 ∨ v2 = 1) → (M a 6 = -1) → (M a 5 ≤ 3440) → (13 * (8 - v1) + 13 ≤ (n : Int)) → zCt w (n + 4) 0 0 yX9_choice cX9_choice 9 (some .long) [.ref (w.2.1 + a), zi v1, zi v2] (T, M, J, R) (zPl T R G (fun M2 => (zKp G 2 M M2) ∧ ((M2 a 6 = -1 ∧ M2 a 5 ≤ 3440) ∨ (¬ M2 a 6 = -1 ∧ M2 a 5 ≤ 3460 - v1))))) (ih_part : ∀ (M : zMm) (J : zJm), zI G M → ∀ (v1 v2 : Int), (0 ≤ v1 ∧ v1 ≤ 8) → (v2 = 0 ∨ v2 = 1) → ((M a 6 = -1 ∧ M a 5 ≤ 3440) ∨ (¬ M a 6 = -1 ∧ M a 5 ≤ 3460 - v1)) → (13 * (8 - v1) + 1 ≤ (n : Int)) → zCt w (n + 4) 0 0 yX9_part cX9_part 3 (some .long) [.ref (w.2.1 + a), zi v1, zi v2] (T, M, J, R) (zPl T R G (fun M2 => (zKp G 2 M M2) ∧ ((M2 a 6 = -1 ∧ M2 a 5 ≤ 3440) ∨ (¬ M2 a 6 = -1 ∧ (M2 a 5 ≤ 3459 - v1 ∨ M2 a 5 = M a 5)))))) (ih_binary : ∀ (M : zMm) (J : zJm), zI G M → ∀ (v1 v2 v3 : Int), (1 ≤ v1 ∧ v1 ≤ 11) → (0 ≤ v2 ∧ v2 ≤ 8) → (v3 = 0 ∨ v3 = 1) → (M a 6 = -1) → (M a 5 ≤ 3440) → (13 * (8 - v2) + 13 - v1 ≤ (n : Int)) → zCt w (n + 4) 0 0 yX9_binary cX9_binary 12 (some .long) [.ref (w.2.1 + a), zi v1, zi v2, zi v3] (T, M, J, R) (zPl T R G (fun M2 => (zKp G 2 M M2) ∧ ((M2 a 6 = -1 ∧ M2 a 5 ≤ 3440) ∨ (¬ M2 a 6 = -1 ∧ M2 a 5 ≤ 3460 - v2))))) (ih_single : ∀ (M : zMm) (J : zJm), zI G M → ∀ (v1 v2 : Int), (0 ≤ v1 ∧ v1 ≤ 8) → (v2 = 0 ∨ v2 = 1) → (M a 6 = -1) → (M a 5 ≤ 3440) → (13 * (8 - v1) + 1 ≤ (n : Int)) → zCt w (n + 4) 0 0 yX9_single cX9_single 7 (some .long) [.ref (w.2.1 + a), zi v1, zi v2] (T, M, J, R) (zPl T R G (fun M2 => (zKp G 2 M M2) ∧ ((M2 a 6 = -1 ∧ M2 a 5 ≤ 3440) ∨ (¬ M2 a 6 = -1 ∧ M2 a 5 ≤ 3460 - v1))))) : zCt w (n + 5) 0 0 yX9_part cX9_part 3 (some .long) [.ref (w.2.1 + a), zi v1, zi v2] (T, M, J, R) (zPl T R G (fun M2 => (zKp G 2 M M2) ∧ ((M2 a 6 = -1 ∧ M2 a 5 ≤ 3440) ∨ (¬ M2 a 6 = -1 ∧ (M2 a 5 ≤ 3459 - v1 ∨ M2 a 5 = M a 5))))) := by
  refine zCt.of rfl (Nat.le_of_ble_eq_true rfl) ?_
  intro p e s m args below meth c C
  obtain ⟨Po, hPo⟩ : ∃ Po, Po = zPl T R G (fun M2 => (zKp G 2 M M2) ∧ ((M2 a 6 = -1 ∧ M2 a 5 ≤ 3440) ∨ (¬ M2 a 6 = -1 ∧ (M2 a 5 ≤ 3459 - v1 ∨ M2 a 5 = M a 5)))) := ⟨_, rfl⟩
  rw [← hPo]
  have hK0 : zKp G 2 M M := zKp.rf
  show zK w p e (n + 5) 0 0 s m args below meth c 3 T Po 0 [.ref (w.2.1 + a), zi v1, zi v2] [] (T, M, J, R)
  refine q_iload_n C dX9_part_0 (n := 1) rfl rfl ?_
  refine q_bipush C dX9_part_1 (n := 3) rfl (x := 8) (by decide) ?_
  have J_7 : ∀ (M1 : zMm) (J2 : zJm), zI G M1 → zKp G 2 M M1 → (M1 a 5 = M a 5) → (M1 a 6 = M a 6 ∧ v1 < 8 ∨ ¬ M1 a 6 = -1) → zK w p e (n + 5) 0 0 s m args below meth c 3 T Po 10 [.ref (w.2.1 + a), zi v1, zi v2] [] (T, M1, J2, R) := by
    intro M1 J2 hI3 hK4 h5 h6
    refine q_aload_n C dX9_part_10 (n := 11) rfl rfl ?_
    have g8 := zI.at hI3 h0.2.2.2.2.2.2.2.2.2.2.2.2.1
    refine q_getI C dX9_part_11 (n := 14) rfl f_X9_23 h0.1 (v := M1 a 6) rfl ?_
    refine q_iconst C dX9_part_14 (n := 15) rfl ?_
    refine q_icmp_eq C 22 dX9_part_15 (n := 18) rfl rfl (by omega) (fun h9 => ?_) (fun h9 => ?_)
    · refine q_aload_n C dX9_part_22 (n := 23) rfl rfl ?_
      refine q_iload_n C dX9_part_23 (n := 24) rfl rfl ?_
      refine q_iconst C dX9_part_24 (n := 25) rfl ?_
      refine q_iadd C dX9_part_25 (n := 26) rfl (v := v1 + 1) rfl ?_
      refine q_iload_n C dX9_part_26 (n := 27) rfl rfl ?_
      refine q_callVl C dX9_part_27 (n := 30) rfl m_X9_56 v_yX9_choice h0.1 ⟨by decide, rfl⟩ (ih_choice M1 J2 hI3 (v1 + 1) v2 (by omega) (by omega) (by omega) (by have hz10 : M1 a 5 = M a 5 := (h5); omega) (by omega)) (by omega) rfl rfl (Nat.le_of_ble_eq_true rfl) ⟨Nat.le_refl _, Nat.le_refl _⟩ (fun l16 M12 J13  hI14 h15 => ?_)
      obtain ⟨hk17, h11⟩ := h15
      have hK18 := hK4.tr hk17 (by decide)
      exact q_lret C dX9_part_30 ⟨rfl, rfl⟩ (by rw [hPo]; exact ⟨l16, M12, J13, rfl, rfl, hI14, hK18, (by omega)⟩)
    · refine q_lconst C dX9_part_18 (n := 19) rfl ?_
      refine q_goto C 30 dX9_part_19 rfl ?_
      exact q_lret C dX9_part_30 ⟨rfl, rfl⟩ (by rw [hPo]; exact ⟨Int64.ofNat ((0 : Fin 2) : Nat), M1, J2, rfl, rfl, hI3, hK4, (by have hz19 : M1 a 5 = M a 5 := (h5); omega)⟩)
  refine q_icmp_lt C 10 dX9_part_3 (n := 6) rfl rfl (by omega) (fun h20 => ?_) (fun h20 => ?_)
  · exact zK.weak (J_7 M J hI hK0 (by omega) (by omega)) (zwk_c (zwk_c (zwk_c zwk_e)))
  · refine q_aload_n C dX9_part_6 (n := 7) rfl rfl ?_
    refine q_callVv C dX9_part_7 (n := 10) rfl m_X9_105 v_yX9_refuse h0.1 ⟨by decide, rfl⟩ (c_X9_refuse (w := w) (J := J) hI hF h0) (by omega) rfl rfl (Nat.le_of_ble_eq_true rfl) ⟨Nat.le_refl _, Nat.le_refl _⟩ (fun M23 J24  hI25 h26 => ?_)
    obtain ⟨hk27, h21, h22⟩ := h26
    have hK28 := hK0.tr hk27 (by decide)
    exact zK.weak (J_7 M23 J24 hI25 hK28 (by have hz29 : M23 a 5 = M a 5 := (h21); omega) (by omega)) (zwk_c (zwk_c (zwk_c zwk_e)))
theorem c_X9_binary_s {w : zWp} {T : zTl} {M : zMm} {J : zJm} {R : zRm'} {G : zGt} {F : zRm'} {a t q L rw n : Nat} (hI : zI G M) (hF : zF F R) (h0 : zSums T F G a t q L) (v1 : Int) (v2 : Int) (v3 : Int) (hrow : R a 2 = some rw) (h_rw : zRow T F G rw 3440 (L : Int)) (p1 : 1 ≤ v1 ∧ v1 ≤ 11) (p2 : 0 ≤ v2 ∧ v2 ≤ 8) (p3 : v3 = 0 ∨ v3 = 1) (p4 : M a 6 = -1) (p5 : M a 5 ≤ 3440) (pm : 13 * (8 - v2) + 13 - v1 ≤ (n : Int) + 1) (ih_choice : ∀ (M : zMm) (J : zJm), zI G M → ∀ (v1 v2 : Int), (0 ≤ v1 ∧ v1 ≤ 8) → (v2 = 0 ∨ v2 = 1) → (M a 6 = -1) → (M a 5 ≤ 3440) → (13 * (8 - v1) + 13 ≤ (n : Int)) → zCt w (n + 4) 0 0 yX9_choice cX9_choice 9 (some .long) [.ref (w.2.1 + a), zi v1, zi v2] (T, M, J, R) (zPl T R G (fun M2 => (zKp G 2 M M2) ∧ ((M2 a 6 = -1 ∧ M2 a 5 ≤ 3440) ∨ (¬ M2 a 6 = -1 ∧ M2 a 5 ≤ 3460 - v1))))) (ih_part : ∀ (M : zMm) (J : zJm), zI G M → ∀ (v1 v2 : Int), (0 ≤ v1 ∧ v1 ≤ 8) → (v2 = 0 ∨ v2 = 1) → ((M a 6 = -1 ∧ M a 5 ≤ 3440) ∨ (¬ M a 6 = -1 ∧ M a 5 ≤ 3460 - v1)) → (13 * (8 - v1) + 1 ≤ (n : Int)) → zCt w (n + 4) 0 0 yX9_part cX9_part 3 (some .long) [.ref (w.2.1 + a), zi v1, zi v2] (T, M, J, R) (zPl T R G (fun M2 => (zKp G 2 M M2) ∧ ((M2 a 6 = -1 ∧ M2 a 5 ≤ 3440) ∨ (¬ M2 a 6 = -1 ∧ (M2 a 5 ≤ 3459 - v1 ∨ M2 a 5 = M a 5)))))) (ih_binary : ∀ (M : zMm) (J : zJm), zI G M → ∀ (v1 v2 v3 : Int), (1 ≤ v1 ∧ v1 ≤ 11) → (0 ≤ v2 ∧ v2 ≤ 8) → (v3 = 0 ∨ v3 = 1) → (M a 6 = -1) → (M a 5 ≤ 3440) → (13 * (8 - v2) + 13 - v1 ≤ (n : Int)) → zCt w (n + 4) 0 0 yX9_binary cX9_binary 12 (some .long) [.ref (w.2.1 + a), zi v1, zi v2, zi v3] (T, M, J, R) (zPl T R G (fun M2 => (zKp G 2 M M2) ∧ ((M2 a 6 = -1 ∧ M2 a 5 ≤ 3440) ∨ (¬ M2 a 6 = -1 ∧ M2 a 5 ≤ 3460 - v2))))) (ih_single : ∀ (M : zMm) (J : zJm), zI G M → ∀ (v1 v2 : Int), (0 ≤ v1 ∧ v1 ≤ 8) → (v2 = 0 ∨ v2 = 1) → (M a 6 = -1) → (M a 5 ≤ 3440) → (13 * (8 - v1) + 1 ≤ (n : Int)) → zCt w (n + 4) 0 0 yX9_single cX9_single 7 (some .long) [.ref (w.2.1 + a), zi v1, zi v2] (T, M, J, R) (zPl T R G (fun M2 => (zKp G 2 M M2) ∧ ((M2 a 6 = -1 ∧ M2 a 5 ≤ 3440) ∨ (¬ M2 a 6 = -1 ∧ M2 a 5 ≤ 3460 - v1))))) : zCt w (n + 5) 0 0 yX9_binary cX9_binary 12 (some .long) [.ref (w.2.1 + a), zi v1, zi v2, zi v3] (T, M, J, R) (zPl T R G (fun M2 => (zKp G 2 M M2) ∧ ((M2 a 6 = -1 ∧ M2 a 5 ≤ 3440) ∨ (¬ M2 a 6 = -1 ∧ M2 a 5 ≤ 3460 - v2)))) := by
  refine zCt.of rfl (Nat.le_of_ble_eq_true rfl) ?_
  intro p e s m args below meth c C
  obtain ⟨Po, hPo⟩ : ∃ Po, Po = zPl T R G (fun M2 => (zKp G 2 M M2) ∧ ((M2 a 6 = -1 ∧ M2 a 5 ≤ 3440) ∨ (¬ M2 a 6 = -1 ∧ M2 a 5 ≤ 3460 - v2))) := ⟨_, rfl⟩
  rw [← hPo]
  have hK0 : zKp G 2 M M := zKp.rf
  show zK w p e (n + 5) 0 0 s m args below meth c 12 T Po 0 [.ref (w.2.1 + a), zi v1, zi v2, zi v3, .null, .null, .null, .null, .null, .null, .null, .null] [] (T, M, J, R)
  refine q_iload_n C dX9_binary_0 (n := 1) rfl rfl ?_
  refine q_bipush C dX9_binary_1 (n := 3) rfl (x := 10) (by decide) ?_
  refine q_icmp_le C 13 dX9_binary_3 (n := 6) rfl rfl (by omega) (fun h1 => ?_) (fun h1 => ?_)
  · refine q_aload_n C dX9_binary_13 (n := 14) rfl rfl ?_
    refine q_iload_n C dX9_binary_14 (n := 15) rfl rfl ?_
    refine q_iconst C dX9_binary_15 (n := 16) rfl ?_
    refine q_iadd C dX9_binary_16 (n := 17) rfl (v := v1 + 1) rfl ?_
    refine q_iload_n C dX9_binary_17 (n := 18) rfl rfl ?_
    refine q_iload_n C dX9_binary_18 (n := 19) rfl rfl ?_
    refine q_callVl C dX9_binary_19 (n := 22) rfl m_X9_94 v_yX9_binary h0.1 ⟨by decide, rfl⟩ (ih_binary M J hI (v1 + 1) v2 v3 (by omega) (by omega) (by omega) (by omega) (by omega) (by omega)) (by omega) rfl rfl (Nat.le_of_ble_eq_true rfl) ⟨Nat.le_refl _, Nat.le_refl _⟩ (fun l7 M3 J4  hI5 h6 => ?_)
    obtain ⟨hk8, h2⟩ := h6
    have hK9 := hK0.tr hk8 (by decide)
    refine q_lstore C [.ref (w.2.1 + a), zi v1, zi v2, zi v3, .long l7, .null, .null, .null, .null, .null, .null, .null] dX9_binary_22 (n := 24) rfl rfl rfl ?_
    refine q_iconst C dX9_binary_24 (n := 25) rfl ?_
    refine q_istore C [.ref (w.2.1 + a), zi v1, zi v2, zi v3, .long l7, .null, zi 0, .null, .null, .null, .null, .null] dX9_binary_25 (n := 27) rfl rfl rfl ?_
    have L_19 : ∀ n20 : Nat, ∀ (u10 : Int64) (u11 : Int) (M12 : zMm) (J13 : zJm), zI G M12 → zKp G 2 M M12 → (-2147483648 ≤ u11 ∧ u11 ≤ 2147483647) → (0 ≤ u11 ∧ u11 ≤ 3440) → ((M12 a 6 = -1 ∧ M12 a 5 ≤ 3440) ∨ (¬ M12 a 6 = -1 ∧ M12 a 5 ≤ 3460 - v2)) → (3440 - u11 + 1 ≤ (n20 : Int)) → zK w p e (n + 5) 0 0 s m args below meth c 12 T Po 27 [.ref (w.2.1 + a), zi v1, zi v2, zi v3, .long u10, .null, zi u11, .null, .null, .null, .null, .null] [] (T, M12, J13, R) := by
      intro n20
      induction n20 with
      | zero =>
        intro u10 u11 M12 J13 hI14 hK15 h16 h17 h18 hm22
        exfalso
        omega
      | succ n20 ih21 =>
        intro u10 u11 M12 J13 hI14 hK15 h16 h17 h18 hm22
        refine q_iload C dX9_binary_27 (n := 29) rfl rfl ?_
        refine q_aload_n C dX9_binary_29 (n := 30) rfl rfl ?_
        refine q_getR C dX9_binary_30 (n := 33) rfl f_X9_37 h0.1 hrow ?_
        have g23 := zI.at hI14 h_rw.2.2.2.2.2.2.2.2.2.2
        refine q_getI C dX9_binary_33 (n := 36) rfl f_X9_41 h_rw.1 (v := M12 rw 3) rfl ?_
        refine q_icmp_ge C 246 dX9_binary_36 (n := 39) rfl rfl (by omega) (fun h24 => ?_) (fun h24 => ?_)
        · refine q_lload C dX9_binary_246 (n := 248) rfl rfl ?_
          exact q_lret C dX9_binary_248 ⟨rfl, rfl⟩ (by rw [hPo]; exact ⟨u10, M12, J13, rfl, rfl, hI14, hK15, (by omega)⟩)
        · refine q_aload_n C dX9_binary_39 (n := 40) rfl rfl ?_
          have g25 := zI.at hI14 h0.2.2.2.2.2.2.2.2.2.2.2.2.1
          refine q_getI C dX9_binary_40 (n := 43) rfl f_X9_23 h0.1 (v := M12 a 6) rfl ?_
          refine q_iconst C dX9_binary_43 (n := 44) rfl ?_
          refine q_icmp_ne C 246 dX9_binary_44 (n := 47) rfl rfl (by omega) (fun h26 => ?_) (fun h26 => ?_)
          · refine q_lload C dX9_binary_246 (n := 248) rfl rfl ?_
            exact q_lret C dX9_binary_248 ⟨rfl, rfl⟩ (by rw [hPo]; exact ⟨u10, M12, J13, rfl, rfl, hI14, hK15, (by omega)⟩)
          · refine q_aload_n C dX9_binary_47 (n := 48) rfl rfl ?_
            refine q_callVp C dX9_binary_48 (n := 51) rfl m_X9_98 v_yX9_sign h0.1 ⟨by decide, rfl⟩ (c_X9_sign (w := w) (J := J13) hI14 hF h0 (by assumption) (by assumption)) (by omega) rfl rfl (Nat.le_of_ble_eq_true rfl) ⟨Nat.le_refl _, Nat.le_refl _⟩ (fun x29 h30 => ?_)
            obtain ⟨h27, h28⟩ := h30
            refine q_callSp C dX9_binary_51 (n := 54) rfl m_X9_111 s_yX9_strengthOf (c_X9_strengthOf (w := w) (J := J13) hI14 hF x29 (by omega)) (by omega) rfl rfl (Nat.le_of_ble_eq_true rfl) ⟨Nat.le_refl _, Nat.le_refl _⟩ (fun x33 h34 => ?_)
            obtain ⟨h31, h32⟩ := h34
            refine q_iload_n C dX9_binary_54 (n := 55) rfl rfl ?_
            refine q_icmp_ne C 246 dX9_binary_55 (n := 58) rfl rfl (by omega) (fun h35 => ?_) (fun h35 => ?_)
            · refine q_lload C dX9_binary_246 (n := 248) rfl rfl ?_
              exact q_lret C dX9_binary_248 ⟨rfl, rfl⟩ (by rw [hPo]; exact ⟨u10, M12, J13, rfl, rfl, hI14, hK15, (by omega)⟩)
            · refine q_aload_n C dX9_binary_58 (n := 59) rfl rfl ?_
              refine q_callVp C dX9_binary_59 (n := 62) rfl m_X9_98 v_yX9_sign h0.1 ⟨by decide, rfl⟩ (c_X9_sign (w := w) (J := J13) hI14 hF h0 (by assumption) (by assumption)) (by omega) rfl rfl (Nat.le_of_ble_eq_true rfl) ⟨Nat.le_refl _, Nat.le_refl _⟩ (fun x38 h39 => ?_)
              obtain ⟨h36, h37⟩ := h39
              refine q_istore C [.ref (w.2.1 + a), zi v1, zi v2, zi v3, .long u10, .null, zi u11, zi x38, .null, .null, .null, .null] dX9_binary_62 (n := 64) rfl rfl rfl ?_
              refine q_aload_n C dX9_binary_64 (n := 65) rfl rfl ?_
              have g40 := zI.at hI14 h0.2.2.2.2.2.2.2.2.2.2.2.1
              refine q_getI C dX9_binary_65 (n := 68) rfl f_X9_19 h0.1 (v := M12 a 5) rfl ?_
              refine q_istore C [.ref (w.2.1 + a), zi v1, zi v2, zi v3, .long u10, .null, zi u11, zi x38, zi (M12 a 5), .null, .null, .null] dX9_binary_68 (n := 70) rfl rfl rfl ?_
              refine q_aload_n C dX9_binary_70 (n := 71) rfl rfl ?_
              refine q_dup C dX9_binary_71 (n := 72) rfl rfl ?_
              refine q_getI C dX9_binary_72 (n := 75) rfl f_X9_19 h0.1 (v := M12 a 5) rfl ?_
              refine q_iconst C dX9_binary_75 (n := 76) rfl ?_
              refine q_iadd C dX9_binary_76 (n := 77) rfl (v := (M12 a 5) + 1) rfl ?_
              refine q_putI C dX9_binary_77 (n := 80) rfl f_X9_19 h0.1 ⟨rfl, rfl⟩ (fun M41 (e42 : M41 = zup M12 a 5 ((M12 a 5) + 1)) => ?_)
              have hI43 : zI G M41 := hI14.put e42 h0.2.2.2.2.2.2.2.2.2.2.2.1 rfl (by omega)
              have hK44 := hK15.put e42 h0.2.2.2.2.2.2.2.2.2.2.2.1 (by decide)
              refine q_iload C dX9_binary_80 (n := 82) rfl rfl ?_
              refine q_sipush C dX9_binary_82 (n := 85) rfl (x := 31868) (by decide) ?_
              have J_48 : ∀ (u45 : Int), (-2147483648 ≤ u45 ∧ u45 ≤ 2147483647) → (u45 = 0 ∨ u45 = 1) → zK w p e (n + 5) 0 0 s m args below meth c 12 T Po 115 [.ref (w.2.1 + a), zi v1, zi v2, zi v3, .long u10, .null, zi u11, zi x38, zi (M12 a 5), .null, .null, .null] [zi u45] (T, M41, J13, R) := by
                intro u45 h46 h47
                refine q_istore C [.ref (w.2.1 + a), zi v1, zi v2, zi v3, .long u10, .null, zi u11, zi x38, zi (M12 a 5), zi u45, .null, .null] dX9_binary_115 (n := 117) rfl rfl rfl ?_
                refine q_aload_n C dX9_binary_117 (n := 118) rfl rfl ?_
                refine q_iload_n C dX9_binary_118 (n := 119) rfl rfl ?_
                refine q_iconst C dX9_binary_119 (n := 120) rfl ?_
                refine q_iadd C dX9_binary_120 (n := 121) rfl (v := v1 + 1) rfl ?_
                refine q_iload_n C dX9_binary_121 (n := 122) rfl rfl ?_
                refine q_iload_n C dX9_binary_122 (n := 123) rfl rfl ?_
                have J_52 : ∀ (u49 : Int), (-2147483648 ≤ u49 ∧ u49 ≤ 2147483647) → (u49 = 0 ∨ u49 = 1) → zK w p e (n + 5) 0 0 s m args below meth c 12 T Po 136 [.ref (w.2.1 + a), zi v1, zi v2, zi v3, .long u10, .null, zi u11, zi x38, zi (M12 a 5), .null, .null, .null] [zi u49, zi v2, zi (v1 + 1), .ref (w.2.1 + a)] (T, M41, J13, R) := by
                  intro u49 h50 h51
                  refine q_callVl C dX9_binary_136 (n := 139) rfl m_X9_94 v_yX9_binary h0.1 ⟨by decide, rfl⟩ (ih_binary M41 J13 hI43 (v1 + 1) v2 u49 (by omega) (by omega) (by omega) (by have hz53 : M41 a 6 = M12 a 6 := (zup_n e42 (by omega)); omega) (by have hz54 : M41 a 5 = (M12 a 5) + 1 := (zup_s e42); omega) (by omega)) (by omega) rfl rfl (Nat.le_of_ble_eq_true rfl) ⟨Nat.le_refl _, Nat.le_refl _⟩ (fun l60 M56 J57  hI58 h59 => ?_)
                  obtain ⟨hk61, h55⟩ := h59
                  have hK62 := hK44.tr hk61 (by decide)
                  refine q_lstore C [.ref (w.2.1 + a), zi v1, zi v2, zi v3, .long u10, .null, zi u11, zi x38, zi (M12 a 5), .null, .long l60, .null] dX9_binary_139 (n := 141) rfl rfl rfl ?_
                  refine q_iload C dX9_binary_141 (n := 143) rfl rfl ?_
                  refine q_bipush C dX9_binary_143 (n := 145) rfl (x := 47) (by decide) ?_
                  have J_70 : ∀ (u63 : Int64) (M64 : zMm) (J65 : zJm), zI G M64 → zKp G 2 M M64 → (M64 a 5 = M56 a 5) → (M64 a 6 = M56 a 6) → zK w p e (n + 5) 0 0 s m args below meth c 12 T Po 240 [.ref (w.2.1 + a), zi v1, zi v2, zi v3, .long u63, .null, zi u11, .null, .null, .null, .null, .null] [] (T, M64, J65, R) := by
                    intro u63 M64 J65 hI66 hK67 h68 h69
                    refine q_iinc C [.ref (w.2.1 + a), zi v1, zi v2, zi v3, .long u63, .null, zi (u11 + 1), .null, .null, .null, .null, .null] dX9_binary_240 (n := 243) rfl rfl rfl rfl ?_
                    refine q_goto C 27 dX9_binary_243 rfl ?_
                    exact zK.weak (ih21 u63 (u11 + 1) M64 J65 hI66 hK67 (by omega) (by omega) (by have hz71 : M64 a 6 = M56 a 6 := (h69); have hz72 : M64 a 5 = M56 a 5 := (h68); have hz73 : M64 a 6 = M56 a 6 := (h69); have hz74 : M64 a 5 = M56 a 5 := (h68); omega) (by omega)) (zwk_c (zwk_c (zwk_c (zwk_c (zwk_c (zwk_n (zwk_c (zwk_n (zwk_n (zwk_n (zwk_n (zwk_n zwk_e))))))))))))
                  have J_75 : zK w p e (n + 5) 0 0 s m args below meth c 12 T Po 193 [.ref (w.2.1 + a), zi v1, zi v2, zi v3, .long u10, .null, zi u11, zi x38, .null, .null, .long l60, .null] [] (T, M56, J57, R) := by
                    refine q_iload_n C dX9_binary_193 (n := 194) rfl rfl ?_
                    refine q_bipush C dX9_binary_194 (n := 196) rfl (x := 6) (by decide) ?_
                    have J_77 : ∀ (u76 : Int64), zK w p e (n + 5) 0 0 s m args below meth c 12 T Po 238 [.ref (w.2.1 + a), zi v1, zi v2, zi v3, .null, .null, zi u11, .null, .null, .null, .null, .null] [.long u76] (T, M56, J57, R) := by
                      intro u76
                      refine q_lstore C [.ref (w.2.1 + a), zi v1, zi v2, zi v3, .long u76, .null, zi u11, .null, .null, .null, .null, .null] dX9_binary_238 (n := 240) rfl rfl rfl ?_
                      exact zK.weak (J_70 u76 M56 J57 hI58 hK62 (by omega) (by omega)) (zwk_c (zwk_c (zwk_c (zwk_c (zwk_c (zwk_n (zwk_c (zwk_n (zwk_n (zwk_n (zwk_n (zwk_n zwk_e))))))))))))
                    refine q_icmp_ge C 211 dX9_binary_196 (n := 199) rfl rfl (by omega) (fun h78 => ?_) (fun h78 => ?_)
                    · refine q_iload_n C dX9_binary_211 (n := 212) rfl rfl ?_
                      refine q_bipush C dX9_binary_212 (n := 214) rfl (x := 8) (by decide) ?_
                      refine q_icmp_ge C 229 dX9_binary_214 (n := 217) rfl rfl (by omega) (fun h79 => ?_) (fun h79 => ?_)
                      · refine q_iload C dX9_binary_229 (n := 231) rfl rfl ?_
                        refine q_lload C dX9_binary_231 (n := 233) rfl rfl ?_
                        refine q_lload C dX9_binary_233 (n := 235) rfl rfl ?_
                        refine q_callSq C dX9_binary_235 (n := 238) rfl m_X9_121 s_yX9_counted (c_X9_counted (w := w) (J := J57) hI58 hF x38 u10 l60 (by omega)) (by omega) rfl rfl (Nat.le_of_ble_eq_true rfl) ⟨Nat.le_refl _, Nat.le_refl _⟩ (fun l80 => ?_)
                        exact zK.weak (J_77 l80) (zwk_c (zwk_c (zwk_c (zwk_c (zwk_n (zwk_n (zwk_c (zwk_n (zwk_n (zwk_n (zwk_n (zwk_n zwk_e))))))))))))
                      · refine q_iload C dX9_binary_217 (n := 219) rfl rfl ?_
                        refine q_lload C dX9_binary_219 (n := 221) rfl rfl ?_
                        refine q_lload C dX9_binary_221 (n := 223) rfl rfl ?_
                        refine q_callSq C dX9_binary_223 (n := 226) rfl m_X9_118 s_yX9_compared (c_X9_compared (w := w) (J := J57) hI58 hF x38 u10 l60 (by omega)) (by omega) rfl rfl (Nat.le_of_ble_eq_true rfl) ⟨Nat.le_refl _, Nat.le_refl _⟩ (fun l81 => ?_)
                        refine q_goto C 238 dX9_binary_226 rfl ?_
                        exact zK.weak (J_77 l81) (zwk_c (zwk_c (zwk_c (zwk_c (zwk_n (zwk_n (zwk_c (zwk_n (zwk_n (zwk_n (zwk_n (zwk_n zwk_e))))))))))))
                    · refine q_iload C dX9_binary_199 (n := 201) rfl rfl ?_
                      refine q_lload C dX9_binary_201 (n := 203) rfl rfl ?_
                      refine q_lload C dX9_binary_203 (n := 205) rfl rfl ?_
                      refine q_callSq C dX9_binary_205 (n := 208) rfl m_X9_114 s_yX9_ofBits (c_X9_ofBits (w := w) (J := J57) hI58 hF x38 u10 l60 (by omega)) (by omega) rfl rfl (Nat.le_of_ble_eq_true rfl) ⟨Nat.le_refl _, Nat.le_refl _⟩ (fun l82 => ?_)
                      refine q_goto C 238 dX9_binary_208 rfl ?_
                      exact zK.weak (J_77 l82) (zwk_c (zwk_c (zwk_c (zwk_c (zwk_n (zwk_n (zwk_c (zwk_n (zwk_n (zwk_n (zwk_n (zwk_n zwk_e))))))))))))
                  have J_83 : zK w p e (n + 5) 0 0 s m args below meth c 12 T Po 155 [.ref (w.2.1 + a), zi v1, zi v2, zi v3, .long u10, .null, zi u11, zi x38, zi (M12 a 5), .null, .long l60, .null] [] (T, M56, J57, R) := by
                    refine q_lload C dX9_binary_155 (n := 157) rfl rfl ?_
                    refine q_lconst C dX9_binary_157 (n := 158) rfl ?_
                    refine q_lcmp C dX9_binary_158 (n := 159) rfl (fun z84 h85 => ?_)
                    refine q_if_ne C 193 dX9_binary_159 (n := 162) rfl rfl (by omega) (fun h86 => ?_) (fun h86 => ?_)
                    · exact zK.weak (J_75) (zwk_c (zwk_c (zwk_c (zwk_c (zwk_c (zwk_n (zwk_c (zwk_c (zwk_n (zwk_n (zwk_c (zwk_n zwk_e))))))))))))
                    · refine q_aload_n C dX9_binary_162 (n := 163) rfl rfl ?_
                      refine q_iload_n C dX9_binary_163 (n := 164) rfl rfl ?_
                      have J_90 : ∀ (u87 : Int), (-2147483648 ≤ u87 ∧ u87 ≤ 2147483647) → (-1 ≤ u87 ∧ u87 ≤ 3439) → zK w p e (n + 5) 0 0 s m args below meth c 12 T Po 184 [.ref (w.2.1 + a), zi v1, zi v2, zi v3, .null, .null, zi u11, .null, .null, .null, .null, .null] [zi u87, .ref (w.2.1 + a)] (T, M56, J57, R) := by
                        intro u87 h88 h89
                        refine q_putI C dX9_binary_184 (n := 187) rfl f_X9_26 h0.1 ⟨rfl, rfl⟩ (fun M91 (e92 : M91 = zup M56 a 7 u87) => ?_)
                        have hI93 : zI G M91 := hI58.put e92 h0.2.2.2.2.2.2.2.2.2.2.2.2.2 rfl (by omega)
                        have hK94 := hK62.put e92 h0.2.2.2.2.2.2.2.2.2.2.2.2.2 (by decide)
                        refine q_lconst C dX9_binary_187 (n := 188) rfl ?_
                        refine q_lstore C [.ref (w.2.1 + a), zi v1, zi v2, zi v3, .long (Int64.ofNat ((0 : Fin 2) : Nat)), .null, zi u11, .null, .null, .null, .null, .null] dX9_binary_188 (n := 190) rfl rfl rfl ?_
                        refine q_goto C 240 dX9_binary_190 rfl ?_
                        exact zK.weak (J_70 (Int64.ofNat ((0 : Fin 2) : Nat)) M91 J57 hI93 hK94 (by have hz95 : M91 a 5 = M56 a 5 := (zup_n e92 (by omega)); omega) (by have hz96 : M91 a 6 = M56 a 6 := (zup_n e92 (by omega)); omega)) (zwk_c (zwk_c (zwk_c (zwk_c (zwk_c (zwk_n (zwk_c (zwk_n (zwk_n (zwk_n (zwk_n (zwk_n zwk_e))))))))))))
                      have J_97 : zK w p e (n + 5) 0 0 s m args below meth c 12 T Po 180 [.ref (w.2.1 + a), zi v1, zi v2, zi v3, .null, .null, zi u11, .null, .null, .null, .null, .null] [.ref (w.2.1 + a)] (T, M56, J57, R) := by
                        refine q_aload_n C dX9_binary_180 (n := 181) rfl rfl ?_
                        have g98 := zI.at hI58 h0.2.2.2.2.2.2.2.2.2.2.2.2.2
                        refine q_getI C dX9_binary_181 (n := 184) rfl f_X9_26 h0.1 (v := M56 a 7) rfl ?_
                        exact zK.weak (J_90 (M56 a 7) (by omega) (by omega)) (zwk_c (zwk_c (zwk_c (zwk_c (zwk_n (zwk_n (zwk_c (zwk_n (zwk_n (zwk_n (zwk_n (zwk_n zwk_e))))))))))))
                      refine q_if_eq C 180 dX9_binary_164 (n := 167) rfl rfl (by omega) (fun h99 => ?_) (fun h99 => ?_)
                      · exact zK.weak (J_97) (zwk_c (zwk_c (zwk_c (zwk_c (zwk_n (zwk_n (zwk_c (zwk_n (zwk_n (zwk_n (zwk_n (zwk_n zwk_e))))))))))))
                      · refine q_aload_n C dX9_binary_167 (n := 168) rfl rfl ?_
                        have g100 := zI.at hI58 h0.2.2.2.2.2.2.2.2.2.2.2.2.2
                        refine q_getI C dX9_binary_168 (n := 171) rfl f_X9_26 h0.1 (v := M56 a 7) rfl ?_
                        refine q_iconst C dX9_binary_171 (n := 172) rfl ?_
                        refine q_icmp_ne C 180 dX9_binary_172 (n := 175) rfl rfl (by omega) (fun h101 => ?_) (fun h101 => ?_)
                        · exact zK.weak (J_97) (zwk_c (zwk_c (zwk_c (zwk_c (zwk_n (zwk_n (zwk_c (zwk_n (zwk_n (zwk_n (zwk_n (zwk_n zwk_e))))))))))))
                        · refine q_iload C dX9_binary_175 (n := 177) rfl rfl ?_
                          refine q_goto C 184 dX9_binary_177 rfl ?_
                          exact zK.weak (J_90 (M12 a 5) (by omega) (by omega)) (zwk_c (zwk_c (zwk_c (zwk_c (zwk_n (zwk_n (zwk_c (zwk_n (zwk_n (zwk_n (zwk_n (zwk_n zwk_e))))))))))))
                  refine q_icmp_eq C 155 dX9_binary_145 (n := 148) rfl rfl (by omega) (fun h102 => ?_) (fun h102 => ?_)
                  · exact zK.weak (J_83) (zwk_c (zwk_c (zwk_c (zwk_c (zwk_c (zwk_n (zwk_c (zwk_c (zwk_c (zwk_n (zwk_c (zwk_n zwk_e))))))))))))
                  · refine q_iload C dX9_binary_148 (n := 150) rfl rfl ?_
                    refine q_bipush C dX9_binary_150 (n := 152) rfl (x := 37) (by decide) ?_
                    refine q_icmp_ne C 193 dX9_binary_152 (n := 155) rfl rfl (by omega) (fun h103 => ?_) (fun h103 => ?_)
                    · exact zK.weak (J_75) (zwk_c (zwk_c (zwk_c (zwk_c (zwk_c (zwk_n (zwk_c (zwk_c (zwk_n (zwk_n (zwk_c (zwk_n zwk_e))))))))))))
                    · exact zK.weak (J_83) (zwk_c (zwk_c (zwk_c (zwk_c (zwk_c (zwk_n (zwk_c (zwk_c (zwk_c (zwk_n (zwk_c (zwk_n zwk_e))))))))))))
                have J_104 : zK w p e (n + 5) 0 0 s m args below meth c 12 T Po 135 [.ref (w.2.1 + a), zi v1, zi v2, zi v3, .long u10, .null, zi u11, zi x38, zi (M12 a 5), .null, .null, .null] [zi v2, zi (v1 + 1), .ref (w.2.1 + a)] (T, M41, J13, R) := by
                  refine q_iconst C dX9_binary_135 (n := 136) rfl ?_
                  exact zK.weak (J_52 0 (by omega) (by omega)) (zwk_c (zwk_c (zwk_c (zwk_c (zwk_c (zwk_n (zwk_c (zwk_c (zwk_c (zwk_n (zwk_n (zwk_n zwk_e))))))))))))
                refine q_if_eq C 135 dX9_binary_123 (n := 126) rfl rfl (by omega) (fun h105 => ?_) (fun h105 => ?_)
                · exact zK.weak (J_104) (zwk_c (zwk_c (zwk_c (zwk_c (zwk_c (zwk_n (zwk_c (zwk_c (zwk_c (zwk_n (zwk_n (zwk_n zwk_e))))))))))))
                · refine q_iload C dX9_binary_126 (n := 128) rfl rfl ?_
                  refine q_if_ne C 135 dX9_binary_128 (n := 131) rfl rfl (by omega) (fun h106 => ?_) (fun h106 => ?_)
                  · exact zK.weak (J_104) (zwk_c (zwk_c (zwk_c (zwk_c (zwk_c (zwk_n (zwk_c (zwk_c (zwk_c (zwk_n (zwk_n (zwk_n zwk_e))))))))))))
                  · refine q_iconst C dX9_binary_131 (n := 132) rfl ?_
                    refine q_goto C 136 dX9_binary_132 rfl ?_
                    exact zK.weak (J_52 1 (by omega) (by omega)) (zwk_c (zwk_c (zwk_c (zwk_c (zwk_c (zwk_n (zwk_c (zwk_c (zwk_c (zwk_n (zwk_n (zwk_n zwk_e))))))))))))
              have J_107 : zK w p e (n + 5) 0 0 s m args below meth c 12 T Po 110 [.ref (w.2.1 + a), zi v1, zi v2, zi v3, .long u10, .null, zi u11, zi x38, zi (M12 a 5), .null, .null, .null] [] (T, M41, J13, R) := by
                refine q_iconst C dX9_binary_110 (n := 111) rfl ?_
                refine q_goto C 115 dX9_binary_111 rfl ?_
                exact zK.weak (J_48 1 (by omega) (by omega)) (zwk_c (zwk_c (zwk_c (zwk_c (zwk_c (zwk_n (zwk_c (zwk_c (zwk_c (zwk_n (zwk_n (zwk_n zwk_e))))))))))))
              have J_108 : zK w p e (n + 5) 0 0 s m args below meth c 12 T Po 95 [.ref (w.2.1 + a), zi v1, zi v2, zi v3, .long u10, .null, zi u11, zi x38, zi (M12 a 5), .null, .null, .null] [] (T, M41, J13, R) := by
                refine q_iload C dX9_binary_95 (n := 97) rfl rfl ?_
                refine q_sipush C dX9_binary_97 (n := 100) rfl (x := 9766) (by decide) ?_
                have J_109 : zK w p e (n + 5) 0 0 s m args below meth c 12 T Po 114 [.ref (w.2.1 + a), zi v1, zi v2, zi v3, .long u10, .null, zi u11, zi x38, zi (M12 a 5), .null, .null, .null] [] (T, M41, J13, R) := by
                  refine q_iconst C dX9_binary_114 (n := 115) rfl ?_
                  exact zK.weak (J_48 0 (by omega) (by omega)) (zwk_c (zwk_c (zwk_c (zwk_c (zwk_c (zwk_n (zwk_c (zwk_c (zwk_c (zwk_n (zwk_n (zwk_n zwk_e))))))))))))
                refine q_icmp_ne C 114 dX9_binary_100 (n := 103) rfl rfl (by omega) (fun h110 => ?_) (fun h110 => ?_)
                · exact zK.weak (J_109) (zwk_c (zwk_c (zwk_c (zwk_c (zwk_c (zwk_n (zwk_c (zwk_c (zwk_c (zwk_n (zwk_n (zwk_n zwk_e))))))))))))
                · refine q_lload C dX9_binary_103 (n := 105) rfl rfl ?_
                  refine q_lconst C dX9_binary_105 (n := 106) rfl ?_
                  refine q_lcmp C dX9_binary_106 (n := 107) rfl (fun z111 h112 => ?_)
                  refine q_if_ne C 114 dX9_binary_107 (n := 110) rfl rfl (by omega) (fun h113 => ?_) (fun h113 => ?_)
                  · exact zK.weak (J_109) (zwk_c (zwk_c (zwk_c (zwk_c (zwk_c (zwk_n (zwk_c (zwk_c (zwk_c (zwk_n (zwk_n (zwk_n zwk_e))))))))))))
                  · exact zK.weak (J_107) (zwk_c (zwk_c (zwk_c (zwk_c (zwk_c (zwk_n (zwk_c (zwk_c (zwk_c (zwk_n (zwk_n (zwk_n zwk_e))))))))))))
              refine q_icmp_ne C 95 dX9_binary_85 (n := 88) rfl rfl (by omega) (fun h114 => ?_) (fun h114 => ?_)
              · exact zK.weak (J_108) (zwk_c (zwk_c (zwk_c (zwk_c (zwk_c (zwk_n (zwk_c (zwk_c (zwk_c (zwk_n (zwk_n (zwk_n zwk_e))))))))))))
              · refine q_lload C dX9_binary_88 (n := 90) rfl rfl ?_
                refine q_lconst C dX9_binary_90 (n := 91) rfl ?_
                refine q_lcmp C dX9_binary_91 (n := 92) rfl (fun z115 h116 => ?_)
                refine q_if_ne C 110 dX9_binary_92 (n := 95) rfl rfl (by omega) (fun h117 => ?_) (fun h117 => ?_)
                · exact zK.weak (J_107) (zwk_c (zwk_c (zwk_c (zwk_c (zwk_c (zwk_n (zwk_c (zwk_c (zwk_c (zwk_n (zwk_n (zwk_n zwk_e))))))))))))
                · exact zK.weak (J_108) (zwk_c (zwk_c (zwk_c (zwk_c (zwk_c (zwk_n (zwk_c (zwk_c (zwk_c (zwk_n (zwk_n (zwk_n zwk_e))))))))))))
    exact zK.weak (L_19 _ l7 0 M3 J4 hI5 hK9 (by omega) (by omega) (by omega) (Int.self_le_toNat _)) (zwk_c (zwk_c (zwk_c (zwk_c (zwk_c (zwk_n (zwk_c (zwk_n (zwk_n (zwk_n (zwk_n (zwk_n zwk_e))))))))))))
  · refine q_aload_n C dX9_binary_6 (n := 7) rfl rfl ?_
    refine q_iload_n C dX9_binary_7 (n := 8) rfl rfl ?_
    refine q_iload_n C dX9_binary_8 (n := 9) rfl rfl ?_
    refine q_callVl C dX9_binary_9 (n := 12) rfl m_X9_108 v_yX9_single h0.1 ⟨by decide, rfl⟩ (ih_single M J hI v2 v3 (by omega) (by omega) (by omega) (by omega) (by omega)) (by omega) rfl rfl (Nat.le_of_ble_eq_true rfl) ⟨Nat.le_refl _, Nat.le_refl _⟩ (fun l123 M119 J120  hI121 h122 => ?_)
    obtain ⟨hk124, h118⟩ := h122
    have hK125 := hK0.tr hk124 (by decide)
    exact q_lret C dX9_binary_12 ⟨rfl, rfl⟩ (by rw [hPo]; exact ⟨l123, M119, J120, rfl, rfl, hI121, hK125, (by omega)⟩)
theorem c_X9_single_s {w : zWp} {T : zTl} {M : zMm} {J : zJm} {R : zRm'} {G : zGt} {F : zRm'} {a t q L rw n : Nat} (hI : zI G M) (hF : zF F R) (h0 : zSums T F G a t q L) (v1 : Int) (v2 : Int) (hrow : R a 2 = some rw) (h_rw : zRow T F G rw 3440 (L : Int)) (p1 : 0 ≤ v1 ∧ v1 ≤ 8) (p2 : v2 = 0 ∨ v2 = 1) (p3 : M a 6 = -1) (p4 : M a 5 ≤ 3440) (pm : 13 * (8 - v1) + 1 ≤ (n : Int) + 1) (ih_choice : ∀ (M : zMm) (J : zJm), zI G M → ∀ (v1 v2 : Int), (0 ≤ v1 ∧ v1 ≤ 8) → (v2 = 0 ∨ v2 = 1) → (M a 6 = -1) → (M a 5 ≤ 3440) → (13 * (8 - v1) + 13 ≤ (n : Int)) → zCt w (n + 4) 0 0 yX9_choice cX9_choice 9 (some .long) [.ref (w.2.1 + a), zi v1, zi v2] (T, M, J, R) (zPl T R G (fun M2 => (zKp G 2 M M2) ∧ ((M2 a 6 = -1 ∧ M2 a 5 ≤ 3440) ∨ (¬ M2 a 6 = -1 ∧ M2 a 5 ≤ 3460 - v1))))) (ih_part : ∀ (M : zMm) (J : zJm), zI G M → ∀ (v1 v2 : Int), (0 ≤ v1 ∧ v1 ≤ 8) → (v2 = 0 ∨ v2 = 1) → ((M a 6 = -1 ∧ M a 5 ≤ 3440) ∨ (¬ M a 6 = -1 ∧ M a 5 ≤ 3460 - v1)) → (13 * (8 - v1) + 1 ≤ (n : Int)) → zCt w (n + 4) 0 0 yX9_part cX9_part 3 (some .long) [.ref (w.2.1 + a), zi v1, zi v2] (T, M, J, R) (zPl T R G (fun M2 => (zKp G 2 M M2) ∧ ((M2 a 6 = -1 ∧ M2 a 5 ≤ 3440) ∨ (¬ M2 a 6 = -1 ∧ (M2 a 5 ≤ 3459 - v1 ∨ M2 a 5 = M a 5)))))) (ih_binary : ∀ (M : zMm) (J : zJm), zI G M → ∀ (v1 v2 v3 : Int), (1 ≤ v1 ∧ v1 ≤ 11) → (0 ≤ v2 ∧ v2 ≤ 8) → (v3 = 0 ∨ v3 = 1) → (M a 6 = -1) → (M a 5 ≤ 3440) → (13 * (8 - v2) + 13 - v1 ≤ (n : Int)) → zCt w (n + 4) 0 0 yX9_binary cX9_binary 12 (some .long) [.ref (w.2.1 + a), zi v1, zi v2, zi v3] (T, M, J, R) (zPl T R G (fun M2 => (zKp G 2 M M2) ∧ ((M2 a 6 = -1 ∧ M2 a 5 ≤ 3440) ∨ (¬ M2 a 6 = -1 ∧ M2 a 5 ≤ 3460 - v2))))) (ih_single : ∀ (M : zMm) (J : zJm), zI G M → ∀ (v1 v2 : Int), (0 ≤ v1 ∧ v1 ≤ 8) → (v2 = 0 ∨ v2 = 1) → (M a 6 = -1) → (M a 5 ≤ 3440) → (13 * (8 - v1) + 1 ≤ (n : Int)) → zCt w (n + 4) 0 0 yX9_single cX9_single 7 (some .long) [.ref (w.2.1 + a), zi v1, zi v2] (T, M, J, R) (zPl T R G (fun M2 => (zKp G 2 M M2) ∧ ((M2 a 6 = -1 ∧ M2 a 5 ≤ 3440) ∨ (¬ M2 a 6 = -1 ∧ M2 a 5 ≤ 3460 - v1))))) : zCt w (n + 5) 0 0 yX9_single cX9_single 7 (some .long) [.ref (w.2.1 + a), zi v1, zi v2] (T, M, J, R) (zPl T R G (fun M2 => (zKp G 2 M M2) ∧ ((M2 a 6 = -1 ∧ M2 a 5 ≤ 3440) ∨ (¬ M2 a 6 = -1 ∧ M2 a 5 ≤ 3460 - v1)))) := by
  refine zCt.of rfl (Nat.le_of_ble_eq_true rfl) ?_
  intro p e s m args below meth c C
  obtain ⟨Po, hPo⟩ : ∃ Po, Po = zPl T R G (fun M2 => (zKp G 2 M M2) ∧ ((M2 a 6 = -1 ∧ M2 a 5 ≤ 3440) ∨ (¬ M2 a 6 = -1 ∧ M2 a 5 ≤ 3460 - v1))) := ⟨_, rfl⟩
  rw [← hPo]
  have hK0 : zKp G 2 M M := zKp.rf
  show zK w p e (n + 5) 0 0 s m args below meth c 7 T Po 0 [.ref (w.2.1 + a), zi v1, zi v2, .null, .null, .null, .null] [] (T, M, J, R)
  refine q_aload_n C dX9_single_0 (n := 1) rfl rfl ?_
  refine q_callVp C dX9_single_1 (n := 4) rfl m_X9_98 v_yX9_sign h0.1 ⟨by decide, rfl⟩ (c_X9_sign (w := w) (J := J) hI hF h0 (by assumption) (by assumption)) (by omega) rfl rfl (Nat.le_of_ble_eq_true rfl) ⟨Nat.le_refl _, Nat.le_refl _⟩ (fun x3 h4 => ?_)
  obtain ⟨h1, h2⟩ := h4
  refine q_istore_n C [.ref (w.2.1 + a), zi v1, zi v2, zi x3, .null, .null, .null] dX9_single_4 (n := 5) rfl rfl rfl ?_
  refine q_iload_n C dX9_single_5 (n := 6) rfl rfl ?_
  refine q_if_ne C 31 dX9_single_6 (n := 9) rfl rfl (by omega) (fun h5 => ?_) (fun h5 => ?_)
  · refine q_iload_n C dX9_single_31 (n := 32) rfl rfl ?_
    refine q_bipush C dX9_single_32 (n := 34) rfl (x := 33) (by decide) ?_
    have J_10 : ∀ (u6 : Int), (-2147483648 ≤ u6 ∧ u6 ≤ 2147483647) → (u6 = 0 ∨ u6 = 1) → (u6 = 0 ∨ M a 5 < 3440) → zK w p e (n + 5) 0 0 s m args below meth c 7 T Po 60 [.ref (w.2.1 + a), zi v1, zi v2, zi x3, .null, .null, .null] [zi u6] (T, M, J, R) := by
      intro u6 h7 h8 h9
      refine q_istore C [.ref (w.2.1 + a), zi v1, zi v2, zi x3, zi u6, .null, .null] dX9_single_60 (n := 62) rfl rfl rfl ?_
      refine q_iload C dX9_single_62 (n := 64) rfl rfl ?_
      have J_11 : zK w p e (n + 5) 0 0 s m args below meth c 7 T Po 79 [.ref (w.2.1 + a), .null, .null, .null, .null, .null, .null] [] (T, M, J, R) := by
        refine q_aload_n C dX9_single_79 (n := 80) rfl rfl ?_
        refine q_callVv C dX9_single_80 (n := 83) rfl m_X9_105 v_yX9_refuse h0.1 ⟨by decide, rfl⟩ (c_X9_refuse (w := w) (J := J) hI hF h0) (by omega) rfl rfl (Nat.le_of_ble_eq_true rfl) ⟨Nat.le_refl _, Nat.le_refl _⟩ (fun M14 J15  hI16 h17 => ?_)
        obtain ⟨hk18, h12, h13⟩ := h17
        have hK19 := hK0.tr hk18 (by decide)
        refine q_lconst C dX9_single_83 (n := 84) rfl ?_
        exact q_lret C dX9_single_84 ⟨rfl, rfl⟩ (by rw [hPo]; exact ⟨Int64.ofNat ((0 : Fin 2) : Nat), M14, J15, rfl, rfl, hI16, hK19, (by have hz20 : M14 a 5 = M a 5 := (h12); omega)⟩)
      have J_22 : (M a 5 < 3440) → zK w p e (n + 5) 0 0 s m args below meth c 7 T Po 73 [.ref (w.2.1 + a), zi v1, zi v2, zi x3, .null, .null, .null] [] (T, M, J, R) := by
        intro h21
        refine q_iload_n C dX9_single_73 (n := 74) rfl rfl ?_
        refine q_bipush C dX9_single_74 (n := 76) rfl (x := 8) (by decide) ?_
        refine q_icmp_lt C 85 dX9_single_76 (n := 79) rfl rfl (by omega) (fun h23 => ?_) (fun h23 => ?_)
        · refine q_aload_n C dX9_single_85 (n := 86) rfl rfl ?_
          refine q_dup C dX9_single_86 (n := 87) rfl rfl ?_
          have g24 := zI.at hI h0.2.2.2.2.2.2.2.2.2.2.2.1
          refine q_getI C dX9_single_87 (n := 90) rfl f_X9_19 h0.1 (v := M a 5) rfl ?_
          refine q_iconst C dX9_single_90 (n := 91) rfl ?_
          refine q_iadd C dX9_single_91 (n := 92) rfl (v := (M a 5) + 1) rfl ?_
          refine q_putI C dX9_single_92 (n := 95) rfl f_X9_19 h0.1 ⟨rfl, rfl⟩ (fun M25 (e26 : M25 = zup M a 5 ((M a 5) + 1)) => ?_)
          have hI27 : zI G M25 := hI.put e26 h0.2.2.2.2.2.2.2.2.2.2.2.1 rfl (by omega)
          have hK28 := hK0.put e26 h0.2.2.2.2.2.2.2.2.2.2.2.1 (by decide)
          refine q_iload_n C dX9_single_95 (n := 96) rfl rfl ?_
          refine q_bipush C dX9_single_96 (n := 98) rfl (x := 40) (by decide) ?_
          refine q_icmp_ne C 137 dX9_single_98 (n := 101) rfl rfl (by omega) (fun h29 => ?_) (fun h29 => ?_)
          · refine q_aload_n C dX9_single_137 (n := 138) rfl rfl ?_
            refine q_iload_n C dX9_single_138 (n := 139) rfl rfl ?_
            refine q_iconst C dX9_single_139 (n := 140) rfl ?_
            refine q_iadd C dX9_single_140 (n := 141) rfl (v := v1 + 1) rfl ?_
            refine q_iload_n C dX9_single_141 (n := 142) rfl rfl ?_
            refine q_callVl C dX9_single_142 (n := 145) rfl m_X9_108 v_yX9_single h0.1 ⟨by decide, rfl⟩ (ih_single M25 J hI27 (v1 + 1) v2 (by omega) (by omega) (by have hz30 : M25 a 6 = M a 6 := (zup_n e26 (by omega)); omega) (by have hz31 : M25 a 5 = (M a 5) + 1 := (zup_s e26); omega) (by omega)) (by omega) rfl rfl (Nat.le_of_ble_eq_true rfl) ⟨Nat.le_refl _, Nat.le_refl _⟩ (fun l37 M33 J34  hI35 h36 => ?_)
            obtain ⟨hk38, h32⟩ := h36
            have hK39 := hK28.tr hk38 (by decide)
            refine q_lstore C [.ref (w.2.1 + a), zi v1, zi v2, zi x3, .null, .long l37, .null] dX9_single_145 (n := 147) rfl rfl rfl ?_
            refine q_iload_n C dX9_single_147 (n := 148) rfl rfl ?_
            refine q_bipush C dX9_single_148 (n := 150) rfl (x := 33) (by decide) ?_
            refine q_icmp_ne C 166 dX9_single_150 (n := 153) rfl rfl (by omega) (fun h40 => ?_) (fun h40 => ?_)
            · refine q_iload_n C dX9_single_166 (n := 167) rfl rfl ?_
              refine q_bipush C dX9_single_167 (n := 169) rfl (x := 126) (by decide) ?_
              refine q_icmp_ne C 181 dX9_single_169 (n := 172) rfl rfl (by omega) (fun h41 => ?_) (fun h41 => ?_)
              · refine q_iload_n C dX9_single_181 (n := 182) rfl rfl ?_
                refine q_bipush C dX9_single_182 (n := 184) rfl (x := 45) (by decide) ?_
                refine q_icmp_ne C 193 dX9_single_184 (n := 187) rfl rfl (by omega) (fun h42 => ?_) (fun h42 => ?_)
                · refine q_lload C dX9_single_193 (n := 195) rfl rfl ?_
                  exact q_lret C dX9_single_195 ⟨rfl, rfl⟩ (by rw [hPo]; exact ⟨l37, M33, J34, rfl, rfl, hI35, hK39, (by omega)⟩)
                · refine q_lload C dX9_single_187 (n := 189) rfl rfl ?_
                  refine q_lneg C dX9_single_189 (n := 190) rfl (fun l43 => ?_)
                  refine q_goto C 195 dX9_single_190 rfl ?_
                  exact q_lret C dX9_single_195 ⟨rfl, rfl⟩ (by rw [hPo]; exact ⟨l43, M33, J34, rfl, rfl, hI35, hK39, (by omega)⟩)
              · refine q_lload C dX9_single_172 (n := 174) rfl rfl ?_
                refine q_ldc2 C dX9_single_174 (n := 177) rfl k_X9_126 ?_
                refine q_lxor C dX9_single_177 (n := 178) rfl (fun l45 => ?_)
                refine q_goto C 195 dX9_single_178 rfl ?_
                exact q_lret C dX9_single_195 ⟨rfl, rfl⟩ (by rw [hPo]; exact ⟨l45, M33, J34, rfl, rfl, hI35, hK39, (by omega)⟩)
            · refine q_lload C dX9_single_153 (n := 155) rfl rfl ?_
              refine q_lconst C dX9_single_155 (n := 156) rfl ?_
              refine q_lcmp C dX9_single_156 (n := 157) rfl (fun z46 h47 => ?_)
              refine q_if_ne C 164 dX9_single_157 (n := 160) rfl rfl (by omega) (fun h48 => ?_) (fun h48 => ?_)
              · refine q_lconst C dX9_single_164 (n := 165) rfl ?_
                exact q_lret C dX9_single_165 ⟨rfl, rfl⟩ (by rw [hPo]; exact ⟨Int64.ofNat ((0 : Fin 2) : Nat), M33, J34, rfl, rfl, hI35, hK39, (by omega)⟩)
              · refine q_lconst C dX9_single_160 (n := 161) rfl ?_
                refine q_goto C 165 dX9_single_161 rfl ?_
                exact q_lret C dX9_single_165 ⟨rfl, rfl⟩ (by rw [hPo]; exact ⟨Int64.ofNat ((1 : Fin 2) : Nat), M33, J34, rfl, rfl, hI35, hK39, (by omega)⟩)
          · refine q_aload_n C dX9_single_101 (n := 102) rfl rfl ?_
            refine q_iload_n C dX9_single_102 (n := 103) rfl rfl ?_
            refine q_iconst C dX9_single_103 (n := 104) rfl ?_
            refine q_iadd C dX9_single_104 (n := 105) rfl (v := v1 + 1) rfl ?_
            refine q_iload_n C dX9_single_105 (n := 106) rfl rfl ?_
            refine q_callVl C dX9_single_106 (n := 109) rfl m_X9_56 v_yX9_choice h0.1 ⟨by decide, rfl⟩ (ih_choice M25 J hI27 (v1 + 1) v2 (by omega) (by omega) (by have hz49 : M25 a 6 = M a 6 := (zup_n e26 (by omega)); omega) (by have hz50 : M25 a 5 = (M a 5) + 1 := (zup_s e26); omega) (by omega)) (by omega) rfl rfl (Nat.le_of_ble_eq_true rfl) ⟨Nat.le_refl _, Nat.le_refl _⟩ (fun l56 M52 J53  hI54 h55 => ?_)
            obtain ⟨hk57, h51⟩ := h55
            have hK58 := hK28.tr hk57 (by decide)
            refine q_lstore C [.ref (w.2.1 + a), zi v1, zi v2, zi x3, .null, .long l56, .null] dX9_single_109 (n := 111) rfl rfl rfl ?_
            refine q_aload_n C dX9_single_111 (n := 112) rfl rfl ?_
            refine q_callVp C dX9_single_112 (n := 115) rfl m_X9_98 v_yX9_sign h0.1 ⟨by decide, rfl⟩ (c_X9_sign (w := w) (J := J53) hI54 hF h0 (by assumption) (by assumption)) (by omega) rfl rfl (Nat.le_of_ble_eq_true rfl) ⟨Nat.le_refl _, Nat.le_refl _⟩ (fun x61 h62 => ?_)
            obtain ⟨h59, h60⟩ := h62
            refine q_bipush C dX9_single_115 (n := 117) rfl (x := 41) (by decide) ?_
            have J_69 : ∀ (M63 : zMm) (J64 : zJm), zI G M63 → zKp G 2 M M63 → ((M63 a 6 = M52 a 6 ∧ M52 a 5 < 3440) ∨ ¬ M63 a 6 = -1) → (M63 a 5 = M52 a 5) → zK w p e (n + 5) 0 0 s m args below meth c 7 T Po 124 [.ref (w.2.1 + a), .null, .null, .null, .null, .long l56, .null] [] (T, M63, J64, R) := by
              intro M63 J64 hI65 hK66 h67 h68
              refine q_aload_n C dX9_single_124 (n := 125) rfl rfl ?_
              refine q_dup C dX9_single_125 (n := 126) rfl rfl ?_
              have g70 := zI.at hI54 h0.2.2.2.2.2.2.2.2.2.2.2.1
              refine q_getI C dX9_single_126 (n := 129) rfl f_X9_19 h0.1 (v := M52 a 5) (h68) ?_
              refine q_iconst C dX9_single_129 (n := 130) rfl ?_
              refine q_iadd C dX9_single_130 (n := 131) rfl (v := (M52 a 5) + 1) rfl ?_
              refine q_putI C dX9_single_131 (n := 134) rfl f_X9_19 h0.1 ⟨rfl, rfl⟩ (fun M71 (e72 : M71 = zup M63 a 5 ((M52 a 5) + 1)) => ?_)
              have hI73 : zI G M71 := hI65.put e72 h0.2.2.2.2.2.2.2.2.2.2.2.1 rfl (by omega)
              have hK74 := hK66.put e72 h0.2.2.2.2.2.2.2.2.2.2.2.1 (by decide)
              refine q_lload C dX9_single_134 (n := 136) rfl rfl ?_
              exact q_lret C dX9_single_136 ⟨rfl, rfl⟩ (by rw [hPo]; exact ⟨l56, M71, J64, rfl, rfl, hI73, hK74, (by have hz75 : M71 a 5 = (M52 a 5) + 1 := (zup_s e72); have hz76 : M71 a 6 = M63 a 6 := (zup_n e72 (by omega)); omega)⟩)
            refine q_icmp_eq C 124 dX9_single_117 (n := 120) rfl rfl (by omega) (fun h77 => ?_) (fun h77 => ?_)
            · exact zK.weak (J_69 M52 J53 hI54 hK58 (by omega) (by omega)) (zwk_c (zwk_n (zwk_n (zwk_n (zwk_n (zwk_c (zwk_n zwk_e)))))))
            · refine q_aload_n C dX9_single_120 (n := 121) rfl rfl ?_
              refine q_callVv C dX9_single_121 (n := 124) rfl m_X9_105 v_yX9_refuse h0.1 ⟨by decide, rfl⟩ (c_X9_refuse (w := w) (J := J53) hI54 hF h0) (by omega) rfl rfl (Nat.le_of_ble_eq_true rfl) ⟨Nat.le_refl _, Nat.le_refl _⟩ (fun M80 J81  hI82 h83 => ?_)
              obtain ⟨hk84, h78, h79⟩ := h83
              have hK85 := hK58.tr hk84 (by decide)
              exact zK.weak (J_69 M80 J81 hI82 hK85 (by omega) (by have hz86 : M80 a 5 = M52 a 5 := (h78); omega)) (zwk_c (zwk_n (zwk_n (zwk_n (zwk_n (zwk_c (zwk_n zwk_e)))))))
        · exact zK.weak (J_11) (zwk_c (zwk_n (zwk_n (zwk_n (zwk_n (zwk_n (zwk_n zwk_e)))))))
      refine q_if_ne C 73 dX9_single_64 (n := 67) rfl rfl (by omega) (fun h87 => ?_) (fun h87 => ?_)
      · exact zK.weak (J_22 (by omega)) (zwk_c (zwk_c (zwk_c (zwk_c (zwk_n (zwk_n (zwk_n zwk_e)))))))
      · refine q_iload_n C dX9_single_67 (n := 68) rfl rfl ?_
        refine q_bipush C dX9_single_68 (n := 70) rfl (x := 40) (by decide) ?_
        refine q_icmp_ne C 79 dX9_single_70 (n := 73) rfl rfl (by omega) (fun h88 => ?_) (fun h88 => ?_)
        · exact zK.weak (J_11) (zwk_c (zwk_n (zwk_n (zwk_n (zwk_n (zwk_n (zwk_n zwk_e)))))))
        · exact zK.weak (J_22 (by omega)) (zwk_c (zwk_c (zwk_c (zwk_c (zwk_n (zwk_n (zwk_n zwk_e)))))))
    have J_90 : (M a 5 < 3440) → zK w p e (n + 5) 0 0 s m args below meth c 7 T Po 55 [.ref (w.2.1 + a), zi v1, zi v2, zi x3, .null, .null, .null] [] (T, M, J, R) := by
      intro h89
      refine q_iconst C dX9_single_55 (n := 56) rfl ?_
      refine q_goto C 60 dX9_single_56 rfl ?_
      exact zK.weak (J_10 1 (by omega) (by omega) (by omega)) (zwk_c (zwk_c (zwk_c (zwk_c (zwk_n (zwk_n (zwk_n zwk_e)))))))
    refine q_icmp_eq C 55 dX9_single_34 (n := 37) rfl rfl (by omega) (fun h91 => ?_) (fun h91 => ?_)
    · exact zK.weak (J_90 (by omega)) (zwk_c (zwk_c (zwk_c (zwk_c (zwk_n (zwk_n (zwk_n zwk_e)))))))
    · refine q_iload_n C dX9_single_37 (n := 38) rfl rfl ?_
      refine q_bipush C dX9_single_38 (n := 40) rfl (x := 126) (by decide) ?_
      refine q_icmp_eq C 55 dX9_single_40 (n := 43) rfl rfl (by omega) (fun h92 => ?_) (fun h92 => ?_)
      · exact zK.weak (J_90 (by omega)) (zwk_c (zwk_c (zwk_c (zwk_c (zwk_n (zwk_n (zwk_n zwk_e)))))))
      · refine q_iload_n C dX9_single_43 (n := 44) rfl rfl ?_
        refine q_bipush C dX9_single_44 (n := 46) rfl (x := 45) (by decide) ?_
        refine q_icmp_eq C 55 dX9_single_46 (n := 49) rfl rfl (by omega) (fun h93 => ?_) (fun h93 => ?_)
        · exact zK.weak (J_90 (by omega)) (zwk_c (zwk_c (zwk_c (zwk_c (zwk_n (zwk_n (zwk_n zwk_e)))))))
        · refine q_iload_n C dX9_single_49 (n := 50) rfl rfl ?_
          refine q_bipush C dX9_single_50 (n := 52) rfl (x := 43) (by decide) ?_
          refine q_icmp_ne C 59 dX9_single_52 (n := 55) rfl rfl (by omega) (fun h94 => ?_) (fun h94 => ?_)
          · refine q_iconst C dX9_single_59 (n := 60) rfl ?_
            exact zK.weak (J_10 0 (by omega) (by omega) (by omega)) (zwk_c (zwk_c (zwk_c (zwk_c (zwk_n (zwk_n (zwk_n zwk_e)))))))
          · exact zK.weak (J_90 (by omega)) (zwk_c (zwk_c (zwk_c (zwk_c (zwk_n (zwk_n (zwk_n zwk_e)))))))
  · refine q_aload_n C dX9_single_9 (n := 10) rfl rfl ?_
    refine q_dup C dX9_single_10 (n := 11) rfl rfl ?_
    have g95 := zI.at hI h0.2.2.2.2.2.2.2.2.2.2.2.1
    refine q_getI C dX9_single_11 (n := 14) rfl f_X9_19 h0.1 (v := M a 5) rfl ?_
    refine q_iconst C dX9_single_14 (n := 15) rfl ?_
    refine q_iadd C dX9_single_15 (n := 16) rfl (v := (M a 5) + 1) rfl ?_
    refine q_putI C dX9_single_16 (n := 19) rfl f_X9_19 h0.1 ⟨rfl, rfl⟩ (fun M96 (e97 : M96 = zup M a 5 ((M a 5) + 1)) => ?_)
    have hI98 : zI G M96 := hI.put e97 h0.2.2.2.2.2.2.2.2.2.2.2.1 rfl (by omega)
    have hK99 := hK0.put e97 h0.2.2.2.2.2.2.2.2.2.2.2.1 (by decide)
    refine q_aload_n C dX9_single_19 (n := 20) rfl rfl ?_
    refine q_getR C dX9_single_20 (n := 23) rfl f_X9_15 h0.1 (hF _ _ _ h0.2.2.2.2.2.2.2.2.2.1) ?_
    refine q_aload_n C dX9_single_23 (n := 24) rfl rfl ?_
    refine q_getI C dX9_single_24 (n := 27) rfl f_X9_19 h0.1 (v := (M a 5) + 1) (zup_s e97) ?_
    refine q_iconst C dX9_single_27 (n := 28) rfl ?_
    refine q_isub C dX9_single_28 (n := 29) rfl (v := ((M a 5) + 1) - 1) rfl ?_
    refine q_lald C dX9_single_29 (n := 30) rfl h0.2.2.2.2.2.2.2.2.2.2.1 (by omega) (fun l100 => ?_)
    exact q_lret C dX9_single_30 ⟨rfl, rfl⟩ (by rw [hPo]; exact ⟨l100, M96, J, rfl, rfl, hI98, hK99, (by have hz101 : M96 a 5 = (M a 5) + 1 := (zup_s e97); have hz102 : M96 a 6 = M a 6 := (zup_n e97 (by omega)); omega)⟩)
