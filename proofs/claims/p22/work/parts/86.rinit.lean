theorem n_X6 {w : zWp} {P : zTl} {M : zMm} {J : zJm} {R : zRm'} {G : zGt} {a : Nat} {r : Nat} (hI : zI G M) (hP : P.length = a) (hz : zFr a M J R) (hg : zG6 G a (2576 + r * 30000)) (p_r : r ≤ 2) : zCt w 4 755 (57315 + (2576 + (r * 30000))) yX6_init cX6_init 2 none [.ref (w.2.1 + a), zi (r : Int)] (P ++ [(6, 20)], M, J, R) (zPn G P (zL6 r) a 756 M J R (fun R2 : zRm' => zN6 R2 a ∧ R2 (a + 39) 7 = some (a + 8))) := by
  refine zCt.of rfl (Nat.le_of_ble_eq_true rfl) ?_
  intro p e s m args below meth c C
  obtain ⟨Po, hPo⟩ : ∃ Po, Po = (zPn G P (zL6 r) a 756 M J R (fun R2 : zRm' => zN6 R2 a ∧ R2 (a + 39) 7 = some (a + 8))) := ⟨_, rfl⟩
  rw [← hPo]
  obtain ⟨T, eT⟩ : ∃ T : zTl, T = P ++ [(6, 20)] := ⟨_, rfl⟩
  have ht := zlast2 eT hP
  have hlen : T.length = a + 1 := zlen2 eT hP rfl rfl
  rw [← eT]
  show zK w p e 4 755 (57315 + (2576 + (r * 30000))) s m args below meth c 2 T Po 0 [.ref (w.2.1 + a), zi (r : Int)] [] (T, M, J, R)
  clear hP
  have hzs0 : zsz T = zsz T + 0 := rfl
  refine q_aload_n C dX6_init_0 (n := 1) rfl rfl ?_
  refine q_objI C dX6_init_1 (n := 4) rfl mo_X6 (Nat.le_of_ble_eq_true rfl) (Nat.le_of_ble_eq_true rfl) ?_
  refine q_aload_n C dX6_init_4 (n := 5) rfl rfl ?_
  have hz3 := hz.le (n2 := a + 1) (by omega)
  refine q_new C dX6_init_5 (n := 8) rfl (q := a + 1) nw_X6_9 hlen hz3 ⟨by omega, by omega⟩ (fun T1 e2 => ?_)
  have hl4 : T1.length = a + 2 := zlen2 e2 hlen rfl rfl
  have hs5 : zsz T1 = zsz T + (0 + 2) := zsz2 (l := 2) e2 hzs0 rfl (by omega)
  have ht6 := zlk2 e2 ht
  refine q_dup C dX6_init_8 (n := 9) rfl rfl ?_
  refine q_ctorN C dX6_init_9 (n := 12) rfl nl_X1 nn_X1 i_yX1_init e2 (n_X1 hI hlen hz3) (Nat.le_of_ble_eq_true rfl) rfl rfl (Nat.le_of_ble_eq_true rfl) ⟨by omega, by omega⟩ (fun T7 M8 R9 e10 hI11 hz12 hm13 hr14 hE15 => ?_)
  clear hl4 hs5
  have hl16 : T7.length = a + 2 := zlen2 e10 hlen (zL1_len) rfl
  have hs17 : zsz T7 = zsz T + (2) := zsz2 e10 hzs0 (zL1_sz) (by omega)
  have ht18 := zlk2 e10 ht
  refine q_putRF C dX6_init_12 (n := 15) rfl f_X6_12 ht18 rfl rfl (fun Cn Tn hq => by cases hq; rfl) ⟨rfl, rfl⟩ (fun R19 e20 => ?_)
  have hz21 := (hz12.le (n2 := a + 2) (by omega)).R e20 (by omega)
  refine q_aload_n C dX6_init_15 (n := 16) rfl rfl ?_
  have hz24 := hz21.le (n2 := a + 2) (by omega)
  refine q_new C dX6_init_16 (n := 19) rfl (q := a + 2) nw_X6_18 hl16 hz24 ⟨by omega, by omega⟩ (fun T22 e23 => ?_)
  have hl25 : T22.length = a + 3 := zlen2 e23 hl16 rfl rfl
  have hs26 : zsz T22 = zsz T + (2 + 4) := zsz2 (l := 4) e23 hs17 rfl (by omega)
  have ht27 := zlk2 e23 ht18
  refine q_dup C dX6_init_19 (n := 20) rfl rfl ?_
  refine q_sipush C dX6_init_20 (n := 23) rfl (x := 3440) (by decide) ?_
  refine q_ctor C dX6_init_23 (n := 26) rfl m_X6_20 i_yX5_init e23 (n_X5 (n := 3440) hI11 hl16 hz24 (by omega)) (Nat.le_of_ble_eq_true rfl) rfl rfl (Nat.le_of_ble_eq_true rfl) ⟨by omega, by omega⟩ (fun T28 M29 R30 e31 hI32 hz33 hm34 hr35 hE36 => ?_)
  clear hl25 hs26
  have hl37 : T28.length = a + 6 := zlen2 e31 hl16 (zL5_len _) rfl
  have hs38 : zsz T28 = zsz T + (10326) := zsz2 e31 hs17 (zL5_sz _) (by omega)
  have ht39 := zlk2 e31 ht18
  clear hl16 hs17 ht18
  refine q_putRF C dX6_init_26 (n := 29) rfl f_X6_23 ht39 rfl rfl (fun Cn Tn hq => by cases hq; rfl) ⟨rfl, rfl⟩ (fun R40 e41 => ?_)
  have hz42 := (hz33.le (n2 := a + 6) (by omega)).R e41 (by omega)
  refine q_aload_n C dX6_init_29 (n := 30) rfl rfl ?_
  refine q_bipush C dX6_init_30 (n := 32) rfl (x := 10) (by decide) ?_
  have hz45 := hz42.le (n2 := a + 6) (by omega)
  refine q_newI C dX6_init_32 (n := 34) rfl (N := 10) (q := a + 6) (by omega) (by omega) hl37 hz45 ⟨by omega, by omega⟩ (fun T43 e44 => ?_)
  have hl46 : T43.length = a + 7 := zlen2 e44 hl37 rfl rfl
  have hs47 : zsz T43 = zsz T + (10336) := zsz2 (l := 10) e44 hs38 rfl (by omega)
  have ht48 := zlk2 e44 ht39
  clear hl37 hs38 ht39
  refine q_putRF C dX6_init_34 (n := 37) rfl f_X6_27 ht48 rfl rfl (fun Cn Tn hq => by cases hq; rfl) ⟨rfl, rfl⟩ (fun R49 e50 => ?_)
  have hz51 := (hz45.le (n2 := a + 7) (by omega)).R e50 (by omega)
  refine q_aload_n C dX6_init_37 (n := 38) rfl rfl ?_
  refine q_sipush C dX6_init_38 (n := 41) rfl (x := 160) (by decide) ?_
  have hz54 := hz51.le (n2 := a + 7) (by omega)
  refine q_newI C dX6_init_41 (n := 43) rfl (N := 160) (q := a + 7) (by omega) (by omega) hl46 hz54 ⟨by omega, by omega⟩ (fun T52 e53 => ?_)
  have hl55 : T52.length = a + 8 := zlen2 e53 hl46 rfl rfl
  have hs56 : zsz T52 = zsz T + (10496) := zsz2 (l := 160) e53 hs47 rfl (by omega)
  have ht57 := zlk2 e53 ht48
  clear hl46 hs47 ht48
  refine q_putRF C dX6_init_43 (n := 46) rfl f_X6_31 ht57 rfl rfl (fun Cn Tn hq => by cases hq; rfl) ⟨rfl, rfl⟩ (fun R58 e59 => ?_)
  have hz60 := (hz54.le (n2 := a + 8) (by omega)).R e59 (by omega)
  refine q_aload_n C dX6_init_46 (n := 47) rfl rfl ?_
  refine q_bipush C dX6_init_47 (n := 49) rfl (x := 10) (by decide) ?_
  have hz63 := hz60.le (n2 := a + 8) (by omega)
  refine q_newI C dX6_init_49 (n := 51) rfl (N := 10) (q := a + 8) (by omega) (by omega) hl55 hz63 ⟨by omega, by omega⟩ (fun T61 e62 => ?_)
  have hl64 : T61.length = a + 9 := zlen2 e62 hl55 rfl rfl
  have hs65 : zsz T61 = zsz T + (10506) := zsz2 (l := 10) e62 hs56 rfl (by omega)
  have ht66 := zlk2 e62 ht57
  clear hl55 hs56 ht57
  refine q_putRF C dX6_init_51 (n := 54) rfl f_X6_34 ht66 rfl rfl (fun Cn Tn hq => by cases hq; rfl) ⟨rfl, rfl⟩ (fun R67 e68 => ?_)
  have hz69 := (hz63.le (n2 := a + 9) (by omega)).R e68 (by omega)
  refine q_aload_n C dX6_init_54 (n := 55) rfl rfl ?_
  have hz72 := hz69.le (n2 := a + 9) (by omega)
  refine q_new C dX6_init_55 (n := 58) rfl (q := a + 9) nw_X6_18 hl64 hz72 ⟨by omega, by omega⟩ (fun T70 e71 => ?_)
  have hl73 : T70.length = a + 10 := zlen2 e71 hl64 rfl rfl
  have hs74 : zsz T70 = zsz T + (10506 + 4) := zsz2 (l := 4) e71 hs65 rfl (by omega)
  have ht75 := zlk2 e71 ht66
  refine q_dup C dX6_init_58 (n := 59) rfl rfl ?_
  refine q_sipush C dX6_init_59 (n := 62) rfl (x := 440) (by decide) ?_
  refine q_ctor C dX6_init_62 (n := 65) rfl m_X6_20 i_yX5_init e71 (n_X5 (n := 440) hI32 hl64 hz72 (by omega)) (Nat.le_of_ble_eq_true rfl) rfl rfl (Nat.le_of_ble_eq_true rfl) ⟨by omega, by omega⟩ (fun T76 M77 R78 e79 hI80 hz81 hm82 hr83 hE84 => ?_)
  clear hl73 hs74
  have hl85 : T76.length = a + 13 := zlen2 e79 hl64 (zL5_len _) rfl
  have hs86 : zsz T76 = zsz T + (11830) := zsz2 e79 hs65 (zL5_sz _) (by omega)
  have ht87 := zlk2 e79 ht66
  clear hl64 hs65 ht66
  refine q_putRF C dX6_init_65 (n := 68) rfl f_X6_37 ht87 rfl rfl (fun Cn Tn hq => by cases hq; rfl) ⟨rfl, rfl⟩ (fun R88 e89 => ?_)
  have hz90 := (hz81.le (n2 := a + 13) (by omega)).R e89 (by omega)
  refine q_aload_n C dX6_init_68 (n := 69) rfl rfl ?_
  have hz93 := hz90.le (n2 := a + 13) (by omega)
  refine q_new C dX6_init_69 (n := 72) rfl (q := a + 13) nw_X6_18 hl85 hz93 ⟨by omega, by omega⟩ (fun T91 e92 => ?_)
  have hl94 : T91.length = a + 14 := zlen2 e92 hl85 rfl rfl
  have hs95 : zsz T91 = zsz T + (11830 + 4) := zsz2 (l := 4) e92 hs86 rfl (by omega)
  have ht96 := zlk2 e92 ht87
  refine q_dup C dX6_init_72 (n := 73) rfl rfl ?_
  refine q_sipush C dX6_init_73 (n := 76) rfl (x := 3440) (by decide) ?_
  refine q_ctor C dX6_init_76 (n := 79) rfl m_X6_20 i_yX5_init e92 (n_X5 (n := 3440) hI80 hl85 hz93 (by omega)) (Nat.le_of_ble_eq_true rfl) rfl rfl (Nat.le_of_ble_eq_true rfl) ⟨by omega, by omega⟩ (fun T97 M98 R99 e100 hI101 hz102 hm103 hr104 hE105 => ?_)
  clear hl94 hs95
  have hl106 : T97.length = a + 17 := zlen2 e100 hl85 (zL5_len _) rfl
  have hs107 : zsz T97 = zsz T + (22154) := zsz2 e100 hs86 (zL5_sz _) (by omega)
  have ht108 := zlk2 e100 ht87
  clear hl85 hs86 ht87
  refine q_putRF C dX6_init_79 (n := 82) rfl f_X6_40 ht108 rfl rfl (fun Cn Tn hq => by cases hq; rfl) ⟨rfl, rfl⟩ (fun R109 e110 => ?_)
  have hz111 := (hz102.le (n2 := a + 17) (by omega)).R e110 (by omega)
  refine q_aload_n C dX6_init_82 (n := 83) rfl rfl ?_
  refine q_bipush C dX6_init_83 (n := 85) rfl (x := 7) (by decide) ?_
  have hz114 := hz111.le (n2 := a + 17) (by omega)
  refine q_newI C dX6_init_85 (n := 87) rfl (N := 7) (q := a + 17) (by omega) (by omega) hl106 hz114 ⟨by omega, by omega⟩ (fun T112 e113 => ?_)
  have hl115 : T112.length = a + 18 := zlen2 e113 hl106 rfl rfl
  have hs116 : zsz T112 = zsz T + (22161) := zsz2 (l := 7) e113 hs107 rfl (by omega)
  have ht117 := zlk2 e113 ht108
  clear hl106 hs107 ht108
  refine q_putRF C dX6_init_87 (n := 90) rfl f_X6_43 ht117 rfl rfl (fun Cn Tn hq => by cases hq; rfl) ⟨rfl, rfl⟩ (fun R118 e119 => ?_)
  have hz120 := (hz114.le (n2 := a + 18) (by omega)).R e119 (by omega)
  refine q_aload_n C dX6_init_90 (n := 91) rfl rfl ?_
  refine q_bipush C dX6_init_91 (n := 93) rfl (x := 7) (by decide) ?_
  have hz123 := hz120.le (n2 := a + 18) (by omega)
  refine q_newI C dX6_init_93 (n := 95) rfl (N := 7) (q := a + 18) (by omega) (by omega) hl115 hz123 ⟨by omega, by omega⟩ (fun T121 e122 => ?_)
  have hl124 : T121.length = a + 19 := zlen2 e122 hl115 rfl rfl
  have hs125 : zsz T121 = zsz T + (22168) := zsz2 (l := 7) e122 hs116 rfl (by omega)
  have ht126 := zlk2 e122 ht117
  clear hl115 hs116 ht117
  refine q_putRF C dX6_init_95 (n := 98) rfl f_X6_46 ht126 rfl rfl (fun Cn Tn hq => by cases hq; rfl) ⟨rfl, rfl⟩ (fun R127 e128 => ?_)
  have hz129 := (hz123.le (n2 := a + 19) (by omega)).R e128 (by omega)
  refine q_aload_n C dX6_init_98 (n := 99) rfl rfl ?_
  refine q_bipush C dX6_init_99 (n := 101) rfl (x := 7) (by decide) ?_
  have hz132 := hz129.le (n2 := a + 19) (by omega)
  refine q_newI C dX6_init_101 (n := 103) rfl (N := 7) (q := a + 19) (by omega) (by omega) hl124 hz132 ⟨by omega, by omega⟩ (fun T130 e131 => ?_)
  have hl133 : T130.length = a + 20 := zlen2 e131 hl124 rfl rfl
  have hs134 : zsz T130 = zsz T + (22175) := zsz2 (l := 7) e131 hs125 rfl (by omega)
  have ht135 := zlk2 e131 ht126
  clear hl124 hs125 ht126
  refine q_putRF C dX6_init_103 (n := 106) rfl f_X6_49 ht135 rfl rfl (fun Cn Tn hq => by cases hq; rfl) ⟨rfl, rfl⟩ (fun R136 e137 => ?_)
  have hz138 := (hz132.le (n2 := a + 20) (by omega)).R e137 (by omega)
  refine q_aload_n C dX6_init_106 (n := 107) rfl rfl ?_
  refine q_iconst C dX6_init_107 (n := 108) rfl ?_
  refine q_putI C dX6_init_108 (n := 111) rfl f_X6_52 ht135 ⟨rfl, rfl⟩ (fun M139 e140 => ?_)
  have hI141 : zI G M139 := hI101.put e140 (hg.2.2.2.2.2.2.2.2.2.2.2.2.2.2.1) rfl (by omega)
  have hz142 := (hz138.le (n2 := a + 20) (by omega)).M e140 (by omega)
  refine q_aload_n C dX6_init_111 (n := 112) rfl rfl ?_
  refine q_sipush C dX6_init_112 (n := 115) rfl (x := 280) (by decide) ?_
  have hz145 := hz142.le (n2 := a + 20) (by omega)
  refine q_newI C dX6_init_115 (n := 117) rfl (N := 280) (q := a + 20) (by omega) (by omega) hl133 hz145 ⟨by omega, by omega⟩ (fun T143 e144 => ?_)
  have hl146 : T143.length = a + 21 := zlen2 e144 hl133 rfl rfl
  have hs147 : zsz T143 = zsz T + (22455) := zsz2 (l := 280) e144 hs134 rfl (by omega)
  have ht148 := zlk2 e144 ht135
  clear hl133 hs134 ht135
  refine q_putRF C dX6_init_117 (n := 120) rfl f_X6_56 ht148 rfl rfl (fun Cn Tn hq => by cases hq; rfl) ⟨rfl, rfl⟩ (fun R149 e150 => ?_)
  have hz151 := (hz145.le (n2 := a + 21) (by omega)).R e150 (by omega)
  refine q_aload_n C dX6_init_120 (n := 121) rfl rfl ?_
  refine q_sipush C dX6_init_121 (n := 124) rfl (x := 280) (by decide) ?_
  have hz154 := hz151.le (n2 := a + 21) (by omega)
  refine q_newI C dX6_init_124 (n := 126) rfl (N := 280) (q := a + 21) (by omega) (by omega) hl146 hz154 ⟨by omega, by omega⟩ (fun T152 e153 => ?_)
  have hl155 : T152.length = a + 22 := zlen2 e153 hl146 rfl rfl
  have hs156 : zsz T152 = zsz T + (22735) := zsz2 (l := 280) e153 hs147 rfl (by omega)
  have ht157 := zlk2 e153 ht148
  clear hl146 hs147 ht148
  refine q_putRF C dX6_init_126 (n := 129) rfl f_X6_59 ht157 rfl rfl (fun Cn Tn hq => by cases hq; rfl) ⟨rfl, rfl⟩ (fun R158 e159 => ?_)
  have hz160 := (hz154.le (n2 := a + 22) (by omega)).R e159 (by omega)
  refine q_aload_n C dX6_init_129 (n := 130) rfl rfl ?_
  refine q_iconst C dX6_init_130 (n := 131) rfl ?_
  refine q_put0 C dX6_init_131 (n := 134) rfl f_X6_62 rfl ht157 ((zup_n e140 (by omega)).trans ((hm103 _ _ (by omega)).trans ((hm82 _ _ (by omega)).trans ((hm34 _ _ (by omega)).trans ((hm13 _ _ (by omega)).trans ((hz a (Nat.le_refl _) 18).1)))))) ⟨rfl, rfl⟩ ?_
  refine q_aload_n C dX6_init_134 (n := 135) rfl rfl ?_
  refine q_iconst C dX6_init_135 (n := 136) rfl ?_
  refine q_put0 C dX6_init_136 (n := 139) rfl f_X6_65 rfl ht157 ((zup_n e140 (by omega)).trans ((hm103 _ _ (by omega)).trans ((hm82 _ _ (by omega)).trans ((hm34 _ _ (by omega)).trans ((hm13 _ _ (by omega)).trans ((hz a (Nat.le_refl _) 19).1)))))) ⟨rfl, rfl⟩ ?_
  refine q_aload_n C dX6_init_139 (n := 140) rfl rfl ?_
  have hz163 := hz160.le (n2 := a + 22) (by omega)
  refine q_new C dX6_init_140 (n := 143) rfl (q := a + 22) nw_X6_68 hl155 hz163 ⟨by omega, by omega⟩ (fun T161 e162 => ?_)
  have hl164 : T161.length = a + 23 := zlen2 e162 hl155 rfl rfl
  have hs165 : zsz T161 = zsz T + (22735 + 2) := zsz2 (l := 2) e162 hs156 rfl (by omega)
  have ht166 := zlk2 e162 ht157
  refine q_dup C dX6_init_143 (n := 144) rfl rfl ?_
  refine q_iload_n C dX6_init_144 (n := 145) rfl rfl ?_
  refine q_sipush C dX6_init_145 (n := 148) rfl (x := 30000) (by decide) ?_
  refine q_imul C dX6_init_148 (n := 149) rfl (v := ((r * 30000 : Nat) : Int)) (by omega) ?_
  refine q_ctor C dX6_init_149 (n := 152) rfl m_X6_70 i_yX10_init e162 (n_X10 (n := r * 30000) hI141 hl155 hz163 (hg.1) (by omega)) (Nat.le_of_ble_eq_true rfl) rfl rfl (Nat.le_of_ble_eq_true rfl) ⟨by omega, by omega⟩ (fun T167 M168 R169 e170 hI171 hz172 hm173 hr174 hE175 => ?_)
  clear hl164 hs165
  have hl176 : T167.length = a + 24 := zlen2 e170 hl155 (zL10_len _) rfl
  have hs177 : zsz T167 = zsz T + (22737 + (2576 + (r * 30000))) := zsz2 e170 hs156 (zL10_sz _) (by omega)
  have ht178 := zlk2 e170 ht157
  clear hl155 hs156 ht157
  refine q_putRF C dX6_init_152 (n := 155) rfl f_X6_71 ht178 rfl rfl (fun Cn Tn hq => by cases hq; rfl) ⟨rfl, rfl⟩ (fun R179 e180 => ?_)
  have hz181 := (hz172.le (n2 := a + 24) (by omega)).R e180 (by omega)
  refine q_aload_n C dX6_init_155 (n := 156) rfl rfl ?_
  have hz184 := hz181.le (n2 := a + 24) (by omega)
  refine q_new C dX6_init_156 (n := 159) rfl (q := a + 24) nw_X6_75 hl176 hz184 ⟨by omega, by omega⟩ (fun T182 e183 => ?_)
  have hl185 : T182.length = a + 25 := zlen2 e183 hl176 rfl rfl
  have hs186 : zsz T182 = zsz T + (22737 + (2576 + (r * 30000)) + 18) := zsz2 (l := 18) e183 hs177 rfl (by omega)
  have ht187 := zlk2 e183 ht178
  refine q_dup C dX6_init_159 (n := 160) rfl rfl ?_
  refine q_aload_n C dX6_init_160 (n := 161) rfl rfl ?_
  refine q_getR C dX6_init_161 (n := 164) rfl f_X6_71 ht187 (zup_s e180) ?_
  refine q_aload_n C dX6_init_164 (n := 165) rfl rfl ?_
  refine q_getR C dX6_init_165 (n := 168) rfl f_X6_12 ht187 ((zup_n e180 (fun z => absurd z.2 (by decide))).trans ((hr174 _ _ (by omega)).trans ((zup_n e159 (fun z => absurd z.2 (by decide))).trans ((zup_n e150 (fun z => absurd z.2 (by decide))).trans ((zup_n e137 (fun z => absurd z.2 (by decide))).trans ((zup_n e128 (fun z => absurd z.2 (by decide))).trans ((zup_n e119 (fun z => absurd z.2 (by decide))).trans ((zup_n e110 (fun z => absurd z.2 (by decide))).trans ((hr104 _ _ (by omega)).trans ((zup_n e89 (fun z => absurd z.2 (by decide))).trans ((hr83 _ _ (by omega)).trans ((zup_n e68 (fun z => absurd z.2 (by decide))).trans ((zup_n e59 (fun z => absurd z.2 (by decide))).trans ((zup_n e50 (fun z => absurd z.2 (by decide))).trans ((zup_n e41 (fun z => absurd z.2 (by decide))).trans ((hr35 _ _ (by omega)).trans (zup_s e20))))))))))))))))) ?_
  refine q_ctor C dX6_init_168 (n := 171) rfl m_X6_77 i_yX3_init e183 (n_X3 (t := a + 22) (q := a + 1) hI171 hl176 hz184 (by omega) (by omega)) (Nat.le_of_ble_eq_true rfl) rfl rfl (Nat.le_of_ble_eq_true rfl) ⟨by omega, by omega⟩ (fun T188 M189 R190 e191 hI192 hz193 hm194 hr195 hE196 => ?_)
  clear hl185 hs186
  have hl197 : T188.length = a + 39 := zlen2 e191 hl176 (zL3_len) rfl
  have hs198 : zsz T188 = zsz T + (23827 + (2576 + (r * 30000))) := zsz2 e191 hs177 (zL3_sz) (by omega)
  have ht199 := zlk2 e191 ht178
  clear hl176 hs177 ht178
  refine q_putRF C dX6_init_171 (n := 174) rfl f_X6_80 ht199 rfl rfl (fun Cn Tn hq => by cases hq; rfl) ⟨rfl, rfl⟩ (fun R200 e201 => ?_)
  have hz202 := (hz193.le (n2 := a + 39) (by omega)).R e201 (by omega)
  refine q_aload_n C dX6_init_174 (n := 175) rfl rfl ?_
  have hz205 := hz202.le (n2 := a + 39) (by omega)
  refine q_new C dX6_init_175 (n := 178) rfl (q := a + 39) nw_X6_84 hl197 hz205 ⟨by omega, by omega⟩ (fun T203 e204 => ?_)
  have hl206 : T203.length = a + 40 := zlen2 e204 hl197 rfl rfl
  have hs207 : zsz T203 = zsz T + (23827 + (2576 + (r * 30000)) + 9) := zsz2 (l := 9) e204 hs198 rfl (by omega)
  have ht208 := zlk2 e204 ht199
  refine q_dup C dX6_init_178 (n := 179) rfl rfl ?_
  refine q_aload_n C dX6_init_179 (n := 180) rfl rfl ?_
  refine q_getR C dX6_init_180 (n := 183) rfl f_X6_71 ht208 ((zup_n e201 (fun z => absurd z.2 (by decide))).trans ((hr195 _ _ (by omega)).trans (zup_s e180))) ?_
  refine q_aload_n C dX6_init_183 (n := 184) rfl rfl ?_
  refine q_getR C dX6_init_184 (n := 187) rfl f_X6_80 ht208 (zup_s e201) ?_
  refine q_aload_n C dX6_init_187 (n := 188) rfl rfl ?_
  refine q_getR C dX6_init_188 (n := 191) rfl f_X6_12 ht208 ((zup_n e201 (fun z => absurd z.2 (by decide))).trans ((hr195 _ _ (by omega)).trans ((zup_n e180 (fun z => absurd z.2 (by decide))).trans ((hr174 _ _ (by omega)).trans ((zup_n e159 (fun z => absurd z.2 (by decide))).trans ((zup_n e150 (fun z => absurd z.2 (by decide))).trans ((zup_n e137 (fun z => absurd z.2 (by decide))).trans ((zup_n e128 (fun z => absurd z.2 (by decide))).trans ((zup_n e119 (fun z => absurd z.2 (by decide))).trans ((zup_n e110 (fun z => absurd z.2 (by decide))).trans ((hr104 _ _ (by omega)).trans ((zup_n e89 (fun z => absurd z.2 (by decide))).trans ((hr83 _ _ (by omega)).trans ((zup_n e68 (fun z => absurd z.2 (by decide))).trans ((zup_n e59 (fun z => absurd z.2 (by decide))).trans ((zup_n e50 (fun z => absurd z.2 (by decide))).trans ((zup_n e41 (fun z => absurd z.2 (by decide))).trans ((hr35 _ _ (by omega)).trans (zup_s e20))))))))))))))))))) ?_
  refine q_aload_n C dX6_init_191 (n := 192) rfl rfl ?_
  refine q_getR C dX6_init_192 (n := 195) rfl f_X6_34 ht208 ((zup_n e201 (fun z => absurd z.2 (by decide))).trans ((hr195 _ _ (by omega)).trans ((zup_n e180 (fun z => absurd z.2 (by decide))).trans ((hr174 _ _ (by omega)).trans ((zup_n e159 (fun z => absurd z.2 (by decide))).trans ((zup_n e150 (fun z => absurd z.2 (by decide))).trans ((zup_n e137 (fun z => absurd z.2 (by decide))).trans ((zup_n e128 (fun z => absurd z.2 (by decide))).trans ((zup_n e119 (fun z => absurd z.2 (by decide))).trans ((zup_n e110 (fun z => absurd z.2 (by decide))).trans ((hr104 _ _ (by omega)).trans ((zup_n e89 (fun z => absurd z.2 (by decide))).trans ((hr83 _ _ (by omega)).trans (zup_s e68)))))))))))))) ?_
  refine q_ctor C dX6_init_195 (n := 198) rfl m_X6_86 i_yX0_init e204 (n_X0 (t := a + 22) (mm := a + 24) (q := a + 1) (tl := a + 8) hI192 hl197 hz205 (hg.2.2.2.2.2.2.2.1) (by omega) (by omega) (by omega) (by omega)) (Nat.le_of_ble_eq_true rfl) rfl rfl (Nat.le_of_ble_eq_true rfl) ⟨by omega, by omega⟩ (fun T209 M210 R211 e212 hI213 hz214 hm215 hr216 hE217 => ?_)
  clear hl206 hs207
  have hl218 : T209.length = a + 753 := zlen2 e212 hl197 (zL0_len) rfl
  have hs219 : zsz T209 = zsz T + (50427 + (2576 + (r * 30000))) := zsz2 e212 hs198 (zL0_sz) (by omega)
  have ht220 := zlk2 e212 ht199
  clear hl197 hs198 ht199
  refine q_putRF C dX6_init_198 (n := 201) rfl f_X6_89 ht220 rfl rfl (fun Cn Tn hq => by cases hq; rfl) ⟨rfl, rfl⟩ (fun R221 e222 => ?_)
  have hz223 := (hz214.le (n2 := a + 753) (by omega)).R e222 (by omega)
  refine q_aload_n C dX6_init_201 (n := 202) rfl rfl ?_
  have hz226 := hz223.le (n2 := a + 753) (by omega)
  refine q_new C dX6_init_202 (n := 205) rfl (q := a + 753) nw_X6_93 hl218 hz226 ⟨by omega, by omega⟩ (fun T224 e225 => ?_)
  have hl227 : T224.length = a + 754 := zlen2 e225 hl218 rfl rfl
  have hs228 : zsz T224 = zsz T + (50427 + (2576 + (r * 30000)) + 8) := zsz2 (l := 8) e225 hs219 rfl (by omega)
  have ht229 := zlk2 e225 ht220
  refine q_dup C dX6_init_205 (n := 206) rfl rfl ?_
  refine q_aload_n C dX6_init_206 (n := 207) rfl rfl ?_
  refine q_getR C dX6_init_207 (n := 210) rfl f_X6_71 ht229 ((zup_n e222 (fun z => absurd z.2 (by decide))).trans ((hr216 _ _ (by omega)).trans ((zup_n e201 (fun z => absurd z.2 (by decide))).trans ((hr195 _ _ (by omega)).trans (zup_s e180))))) ?_
  refine q_aload_n C dX6_init_210 (n := 211) rfl rfl ?_
  refine q_getR C dX6_init_211 (n := 214) rfl f_X6_12 ht229 ((zup_n e222 (fun z => absurd z.2 (by decide))).trans ((hr216 _ _ (by omega)).trans ((zup_n e201 (fun z => absurd z.2 (by decide))).trans ((hr195 _ _ (by omega)).trans ((zup_n e180 (fun z => absurd z.2 (by decide))).trans ((hr174 _ _ (by omega)).trans ((zup_n e159 (fun z => absurd z.2 (by decide))).trans ((zup_n e150 (fun z => absurd z.2 (by decide))).trans ((zup_n e137 (fun z => absurd z.2 (by decide))).trans ((zup_n e128 (fun z => absurd z.2 (by decide))).trans ((zup_n e119 (fun z => absurd z.2 (by decide))).trans ((zup_n e110 (fun z => absurd z.2 (by decide))).trans ((hr104 _ _ (by omega)).trans ((zup_n e89 (fun z => absurd z.2 (by decide))).trans ((hr83 _ _ (by omega)).trans ((zup_n e68 (fun z => absurd z.2 (by decide))).trans ((zup_n e59 (fun z => absurd z.2 (by decide))).trans ((zup_n e50 (fun z => absurd z.2 (by decide))).trans ((zup_n e41 (fun z => absurd z.2 (by decide))).trans ((hr35 _ _ (by omega)).trans (zup_s e20))))))))))))))))))))) ?_
  refine q_ctor C dX6_init_214 (n := 217) rfl m_X6_95 i_yX9_init e225 (n_X9 (t := a + 22) (q := a + 1) hI213 hl218 hz226 (hg.2.2.2.2.2.2.2.2.1) (by omega) (by omega)) (Nat.le_of_ble_eq_true rfl) rfl rfl (Nat.le_of_ble_eq_true rfl) ⟨by omega, by omega⟩ (fun T230 M231 R232 e233 hI234 hz235 hm236 hr237 hE238 => ?_)
  clear hl227 hs228
  have hl239 : T230.length = a + 756 := zlen2 e233 hl218 (zL9_len) rfl
  have hs240 : zsz T230 = zsz T + (57315 + (2576 + (r * 30000))) := zsz2 e233 hs219 (zL9_sz) (by omega)
  have ht241 := zlk2 e233 ht220
  clear hl218 hs219 ht220
  refine q_putRF C dX6_init_217 (n := 220) rfl f_X6_96 ht241 rfl rfl (fun Cn Tn hq => by cases hq; rfl) ⟨rfl, rfl⟩ (fun R242 e243 => ?_)
  have hz244 := (hz235.le (n2 := a + 756) (by omega)).R e243 (by omega)
  refine q_vret C dX6_init_220 ⟨by omega, by omega⟩ ?_
  rw [hPo]
  refine ⟨rfl, M231, R242, ?_, hI234, hz244.le (by omega), ?_, ?_, ?_⟩
  · subst e233 e212 e191 e170 e153 e144 e131 e122 e113 e100 e79 e62 e53 e44 e31 e10
    rw [eT]
    simp [zL6]
  · intro c q hc
    exact (hm236 _ _ (by omega)).trans ((hm215 _ _ (by omega)).trans ((hm194 _ _ (by omega)).trans ((hm173 _ _ (by omega)).trans ((zup_p e140 (by omega) _).trans ((hm103 _ _ (by omega)).trans ((hm82 _ _ (by omega)).trans ((hm34 _ _ (by omega)).trans (hm13 _ _ (by omega)))))))))
  · intro c q hc
    exact (zup_p e243 (by omega) _).trans ((hr237 _ _ (by omega)).trans ((zup_p e222 (by omega) _).trans ((hr216 _ _ (by omega)).trans ((zup_p e201 (by omega) _).trans ((hr195 _ _ (by omega)).trans ((zup_p e180 (by omega) _).trans ((hr174 _ _ (by omega)).trans ((zup_p e159 (by omega) _).trans ((zup_p e150 (by omega) _).trans ((zup_p e137 (by omega) _).trans ((zup_p e128 (by omega) _).trans ((zup_p e119 (by omega) _).trans ((zup_p e110 (by omega) _).trans ((hr104 _ _ (by omega)).trans ((zup_p e89 (by omega) _).trans ((hr83 _ _ (by omega)).trans ((zup_p e68 (by omega) _).trans ((zup_p e59 (by omega) _).trans ((zup_p e50 (by omega) _).trans ((zup_p e41 (by omega) _).trans ((hr35 _ _ (by omega)).trans ((zup_p e20 (by omega) _).trans (hr14 _ _ (by omega))))))))))))))))))))))))
  · exact ⟨⟨(zup_n e243 (fun z => absurd z.2 (by decide))).trans ((hr237 _ _ (by omega)).trans ((zup_n e222 (fun z => absurd z.2 (by decide))).trans ((hr216 _ _ (by omega)).trans ((zup_n e201 (fun z => absurd z.2 (by decide))).trans ((hr195 _ _ (by omega)).trans ((zup_n e180 (fun z => absurd z.2 (by decide))).trans ((hr174 _ _ (by omega)).trans ((zup_n e159 (fun z => absurd z.2 (by decide))).trans ((zup_n e150 (fun z => absurd z.2 (by decide))).trans ((zup_n e137 (fun z => absurd z.2 (by decide))).trans ((zup_n e128 (fun z => absurd z.2 (by decide))).trans ((zup_n e119 (fun z => absurd z.2 (by decide))).trans ((zup_n e110 (fun z => absurd z.2 (by decide))).trans ((hr104 _ _ (by omega)).trans ((zup_n e89 (fun z => absurd z.2 (by decide))).trans ((hr83 _ _ (by omega)).trans ((zup_n e68 (fun z => absurd z.2 (by decide))).trans ((zup_n e59 (fun z => absurd z.2 (by decide))).trans ((zup_n e50 (fun z => absurd z.2 (by decide))).trans ((zup_n e41 (fun z => absurd z.2 (by decide))).trans ((hr35 _ _ (by omega)).trans (zup_s e20)))))))))))))))))))))), (zup_n e243 (fun z => absurd z.2 (by decide))).trans ((hr237 _ _ (by omega)).trans ((zup_n e222 (fun z => absurd z.2 (by decide))).trans ((hr216 _ _ (by omega)).trans ((zup_n e201 (fun z => absurd z.2 (by decide))).trans ((hr195 _ _ (by omega)).trans ((zup_n e180 (fun z => absurd z.2 (by decide))).trans ((hr174 _ _ (by omega)).trans ((zup_n e159 (fun z => absurd z.2 (by decide))).trans ((zup_n e150 (fun z => absurd z.2 (by decide))).trans ((zup_n e137 (fun z => absurd z.2 (by decide))).trans ((zup_n e128 (fun z => absurd z.2 (by decide))).trans ((zup_n e119 (fun z => absurd z.2 (by decide))).trans ((zup_n e110 (fun z => absurd z.2 (by decide))).trans ((hr104 _ _ (by omega)).trans ((zup_n e89 (fun z => absurd z.2 (by decide))).trans ((hr83 _ _ (by omega)).trans ((zup_n e68 (fun z => absurd z.2 (by decide))).trans ((zup_n e59 (fun z => absurd z.2 (by decide))).trans ((zup_n e50 (fun z => absurd z.2 (by decide))).trans (zup_s e41)))))))))))))))))))), (zup_n e243 (fun z => absurd z.2 (by decide))).trans ((hr237 _ _ (by omega)).trans ((zup_n e222 (fun z => absurd z.2 (by decide))).trans ((hr216 _ _ (by omega)).trans ((zup_n e201 (fun z => absurd z.2 (by decide))).trans ((hr195 _ _ (by omega)).trans ((zup_n e180 (fun z => absurd z.2 (by decide))).trans ((hr174 _ _ (by omega)).trans ((zup_n e159 (fun z => absurd z.2 (by decide))).trans ((zup_n e150 (fun z => absurd z.2 (by decide))).trans ((zup_n e137 (fun z => absurd z.2 (by decide))).trans ((zup_n e128 (fun z => absurd z.2 (by decide))).trans ((zup_n e119 (fun z => absurd z.2 (by decide))).trans ((zup_n e110 (fun z => absurd z.2 (by decide))).trans ((hr104 _ _ (by omega)).trans ((zup_n e89 (fun z => absurd z.2 (by decide))).trans ((hr83 _ _ (by omega)).trans ((zup_n e68 (fun z => absurd z.2 (by decide))).trans ((zup_n e59 (fun z => absurd z.2 (by decide))).trans (zup_s e50))))))))))))))))))), (zup_n e243 (fun z => absurd z.2 (by decide))).trans ((hr237 _ _ (by omega)).trans ((zup_n e222 (fun z => absurd z.2 (by decide))).trans ((hr216 _ _ (by omega)).trans ((zup_n e201 (fun z => absurd z.2 (by decide))).trans ((hr195 _ _ (by omega)).trans ((zup_n e180 (fun z => absurd z.2 (by decide))).trans ((hr174 _ _ (by omega)).trans ((zup_n e159 (fun z => absurd z.2 (by decide))).trans ((zup_n e150 (fun z => absurd z.2 (by decide))).trans ((zup_n e137 (fun z => absurd z.2 (by decide))).trans ((zup_n e128 (fun z => absurd z.2 (by decide))).trans ((zup_n e119 (fun z => absurd z.2 (by decide))).trans ((zup_n e110 (fun z => absurd z.2 (by decide))).trans ((hr104 _ _ (by omega)).trans ((zup_n e89 (fun z => absurd z.2 (by decide))).trans ((hr83 _ _ (by omega)).trans ((zup_n e68 (fun z => absurd z.2 (by decide))).trans (zup_s e59)))))))))))))))))), (zup_n e243 (fun z => absurd z.2 (by decide))).trans ((hr237 _ _ (by omega)).trans ((zup_n e222 (fun z => absurd z.2 (by decide))).trans ((hr216 _ _ (by omega)).trans ((zup_n e201 (fun z => absurd z.2 (by decide))).trans ((hr195 _ _ (by omega)).trans ((zup_n e180 (fun z => absurd z.2 (by decide))).trans ((hr174 _ _ (by omega)).trans ((zup_n e159 (fun z => absurd z.2 (by decide))).trans ((zup_n e150 (fun z => absurd z.2 (by decide))).trans ((zup_n e137 (fun z => absurd z.2 (by decide))).trans ((zup_n e128 (fun z => absurd z.2 (by decide))).trans ((zup_n e119 (fun z => absurd z.2 (by decide))).trans ((zup_n e110 (fun z => absurd z.2 (by decide))).trans ((hr104 _ _ (by omega)).trans ((zup_n e89 (fun z => absurd z.2 (by decide))).trans ((hr83 _ _ (by omega)).trans (zup_s e68))))))))))))))))), (zup_n e243 (fun z => absurd z.2 (by decide))).trans ((hr237 _ _ (by omega)).trans ((zup_n e222 (fun z => absurd z.2 (by decide))).trans ((hr216 _ _ (by omega)).trans ((zup_n e201 (fun z => absurd z.2 (by decide))).trans ((hr195 _ _ (by omega)).trans ((zup_n e180 (fun z => absurd z.2 (by decide))).trans ((hr174 _ _ (by omega)).trans ((zup_n e159 (fun z => absurd z.2 (by decide))).trans ((zup_n e150 (fun z => absurd z.2 (by decide))).trans ((zup_n e137 (fun z => absurd z.2 (by decide))).trans ((zup_n e128 (fun z => absurd z.2 (by decide))).trans ((zup_n e119 (fun z => absurd z.2 (by decide))).trans ((zup_n e110 (fun z => absurd z.2 (by decide))).trans ((hr104 _ _ (by omega)).trans (zup_s e89))))))))))))))), (zup_n e243 (fun z => absurd z.2 (by decide))).trans ((hr237 _ _ (by omega)).trans ((zup_n e222 (fun z => absurd z.2 (by decide))).trans ((hr216 _ _ (by omega)).trans ((zup_n e201 (fun z => absurd z.2 (by decide))).trans ((hr195 _ _ (by omega)).trans ((zup_n e180 (fun z => absurd z.2 (by decide))).trans ((hr174 _ _ (by omega)).trans ((zup_n e159 (fun z => absurd z.2 (by decide))).trans ((zup_n e150 (fun z => absurd z.2 (by decide))).trans ((zup_n e137 (fun z => absurd z.2 (by decide))).trans ((zup_n e128 (fun z => absurd z.2 (by decide))).trans ((zup_n e119 (fun z => absurd z.2 (by decide))).trans (zup_s e110))))))))))))), (zup_n e243 (fun z => absurd z.2 (by decide))).trans ((hr237 _ _ (by omega)).trans ((zup_n e222 (fun z => absurd z.2 (by decide))).trans ((hr216 _ _ (by omega)).trans ((zup_n e201 (fun z => absurd z.2 (by decide))).trans ((hr195 _ _ (by omega)).trans ((zup_n e180 (fun z => absurd z.2 (by decide))).trans ((hr174 _ _ (by omega)).trans ((zup_n e159 (fun z => absurd z.2 (by decide))).trans ((zup_n e150 (fun z => absurd z.2 (by decide))).trans ((zup_n e137 (fun z => absurd z.2 (by decide))).trans ((zup_n e128 (fun z => absurd z.2 (by decide))).trans (zup_s e119)))))))))))), (zup_n e243 (fun z => absurd z.2 (by decide))).trans ((hr237 _ _ (by omega)).trans ((zup_n e222 (fun z => absurd z.2 (by decide))).trans ((hr216 _ _ (by omega)).trans ((zup_n e201 (fun z => absurd z.2 (by decide))).trans ((hr195 _ _ (by omega)).trans ((zup_n e180 (fun z => absurd z.2 (by decide))).trans ((hr174 _ _ (by omega)).trans ((zup_n e159 (fun z => absurd z.2 (by decide))).trans ((zup_n e150 (fun z => absurd z.2 (by decide))).trans ((zup_n e137 (fun z => absurd z.2 (by decide))).trans (zup_s e128))))))))))), (zup_n e243 (fun z => absurd z.2 (by decide))).trans ((hr237 _ _ (by omega)).trans ((zup_n e222 (fun z => absurd z.2 (by decide))).trans ((hr216 _ _ (by omega)).trans ((zup_n e201 (fun z => absurd z.2 (by decide))).trans ((hr195 _ _ (by omega)).trans ((zup_n e180 (fun z => absurd z.2 (by decide))).trans ((hr174 _ _ (by omega)).trans ((zup_n e159 (fun z => absurd z.2 (by decide))).trans ((zup_n e150 (fun z => absurd z.2 (by decide))).trans (zup_s e137)))))))))), (zup_n e243 (fun z => absurd z.2 (by decide))).trans ((hr237 _ _ (by omega)).trans ((zup_n e222 (fun z => absurd z.2 (by decide))).trans ((hr216 _ _ (by omega)).trans ((zup_n e201 (fun z => absurd z.2 (by decide))).trans ((hr195 _ _ (by omega)).trans ((zup_n e180 (fun z => absurd z.2 (by decide))).trans ((hr174 _ _ (by omega)).trans ((zup_n e159 (fun z => absurd z.2 (by decide))).trans (zup_s e150))))))))), (zup_n e243 (fun z => absurd z.2 (by decide))).trans ((hr237 _ _ (by omega)).trans ((zup_n e222 (fun z => absurd z.2 (by decide))).trans ((hr216 _ _ (by omega)).trans ((zup_n e201 (fun z => absurd z.2 (by decide))).trans ((hr195 _ _ (by omega)).trans ((zup_n e180 (fun z => absurd z.2 (by decide))).trans ((hr174 _ _ (by omega)).trans (zup_s e159)))))))), (zup_n e243 (fun z => absurd z.2 (by decide))).trans ((hr237 _ _ (by omega)).trans ((zup_n e222 (fun z => absurd z.2 (by decide))).trans ((hr216 _ _ (by omega)).trans ((zup_n e201 (fun z => absurd z.2 (by decide))).trans ((hr195 _ _ (by omega)).trans (zup_s e180)))))), (zup_n e243 (fun z => absurd z.2 (by decide))).trans ((hr237 _ _ (by omega)).trans ((zup_n e222 (fun z => absurd z.2 (by decide))).trans ((hr216 _ _ (by omega)).trans (zup_s e201)))), (zup_n e243 (fun z => absurd z.2 (by decide))).trans ((hr237 _ _ (by omega)).trans (zup_s e222)), zup_s e243, zN5.cg (fun c z h1 h2 => (zup_p e243 (by omega) _).trans ((hr237 _ _ (by omega)).trans ((zup_p e222 (by omega) _).trans ((hr216 _ _ (by omega)).trans ((zup_p e201 (by omega) _).trans ((hr195 _ _ (by omega)).trans ((zup_p e180 (by omega) _).trans ((hr174 _ _ (by omega)).trans ((zup_p e159 (by omega) _).trans ((zup_p e150 (by omega) _).trans ((zup_p e137 (by omega) _).trans ((zup_p e128 (by omega) _).trans ((zup_p e119 (by omega) _).trans ((zup_p e110 (by omega) _).trans ((hr104 _ _ (by omega)).trans ((zup_p e89 (by omega) _).trans ((hr83 _ _ (by omega)).trans ((zup_p e68 (by omega) _).trans ((zup_p e59 (by omega) _).trans ((zup_p e50 (by omega) _).trans (zup_p e41 (by omega) _))))))))))))))))))))) hE36, zN5.cg (fun c z h1 h2 => (zup_p e243 (by omega) _).trans ((hr237 _ _ (by omega)).trans ((zup_p e222 (by omega) _).trans ((hr216 _ _ (by omega)).trans ((zup_p e201 (by omega) _).trans ((hr195 _ _ (by omega)).trans ((zup_p e180 (by omega) _).trans ((hr174 _ _ (by omega)).trans ((zup_p e159 (by omega) _).trans ((zup_p e150 (by omega) _).trans ((zup_p e137 (by omega) _).trans ((zup_p e128 (by omega) _).trans ((zup_p e119 (by omega) _).trans ((zup_p e110 (by omega) _).trans ((hr104 _ _ (by omega)).trans (zup_p e89 (by omega) _)))))))))))))))) hE84, zN5.cg (fun c z h1 h2 => (zup_p e243 (by omega) _).trans ((hr237 _ _ (by omega)).trans ((zup_p e222 (by omega) _).trans ((hr216 _ _ (by omega)).trans ((zup_p e201 (by omega) _).trans ((hr195 _ _ (by omega)).trans ((zup_p e180 (by omega) _).trans ((hr174 _ _ (by omega)).trans ((zup_p e159 (by omega) _).trans ((zup_p e150 (by omega) _).trans ((zup_p e137 (by omega) _).trans ((zup_p e128 (by omega) _).trans ((zup_p e119 (by omega) _).trans (zup_p e110 (by omega) _)))))))))))))) hE105, zN10.cg (fun c z h1 h2 => (zup_p e243 (by omega) _).trans ((hr237 _ _ (by omega)).trans ((zup_p e222 (by omega) _).trans ((hr216 _ _ (by omega)).trans ((zup_p e201 (by omega) _).trans ((hr195 _ _ (by omega)).trans (zup_p e180 (by omega) _))))))) hE175, zN3.cg (fun c z h1 h2 => (zup_p e243 (by omega) _).trans ((hr237 _ _ (by omega)).trans ((zup_p e222 (by omega) _).trans ((hr216 _ _ (by omega)).trans (zup_p e201 (by omega) _))))) hE196, zN0.cg (fun c z h1 h2 => (zup_p e243 (by omega) _).trans ((hr237 _ _ (by omega)).trans (zup_p e222 (by omega) _))) hE217.1, zN9.cg (fun c z h1 h2 => zup_p e243 (by omega) _) hE238⟩, (zup_p e243 (by omega) _).trans ((hr237 _ _ (by omega)).trans ((zup_p e222 (by omega) _).trans (hE217.2)))⟩
theorem n_X8 {w : zWp} {P : zTl} {M : zMm} {J : zJm} {R : zRm'} {G : zGt} {a : Nat}  (hI : zI G M) (hP : P.length = a) (hz : zFr a M J R) (hg : zG8 G a)  : zCt w 5 760 (164527) yX8_init cX8_init 1 none [.ref (w.2.1 + a)] (P ++ [(8, 6)], M, J, R) (zPn G P zL8 a 761 M J R (fun R2 : zRm' => zN8 R2 a ∧ R2 (a + 40) 7 = some (a + 9))) := by
  refine zCt.of rfl (Nat.le_of_ble_eq_true rfl) ?_
  intro p e s m args below meth c C
  obtain ⟨Po, hPo⟩ : ∃ Po, Po = (zPn G P zL8 a 761 M J R (fun R2 : zRm' => zN8 R2 a ∧ R2 (a + 40) 7 = some (a + 9))) := ⟨_, rfl⟩
  rw [← hPo]
  obtain ⟨T, eT⟩ : ∃ T : zTl, T = P ++ [(8, 6)] := ⟨_, rfl⟩
  have ht := zlast2 eT hP
  have hlen : T.length = a + 1 := zlen2 eT hP rfl rfl
  rw [← eT]
  show zK w p e 5 760 (164527) s m args below meth c 1 T Po 0 [.ref (w.2.1 + a)] [] (T, M, J, R)
  clear hP
  have hzs0 : zsz T = zsz T + 0 := rfl
  refine q_aload_n C dX8_init_0 (n := 1) rfl rfl ?_
  refine q_objI C dX8_init_1 (n := 4) rfl mo_X8 (Nat.le_of_ble_eq_true rfl) (Nat.le_of_ble_eq_true rfl) ?_
  refine q_aload_n C dX8_init_4 (n := 5) rfl rfl ?_
  have hz3 := hz.le (n2 := a + 1) (by omega)
  refine q_new C dX8_init_5 (n := 8) rfl (q := a + 1) nw_X8_9 hlen hz3 ⟨by omega, by omega⟩ (fun T1 e2 => ?_)
  have hl4 : T1.length = a + 2 := zlen2 e2 hlen rfl rfl
  have hs5 : zsz T1 = zsz T + (0 + 20) := zsz2 (l := 20) e2 hzs0 rfl (by omega)
  have ht6 := zlk2 e2 ht
  refine q_dup C dX8_init_8 (n := 9) rfl rfl ?_
  refine q_iconst C dX8_init_9 (n := 10) rfl ?_
  refine q_ctor C dX8_init_10 (n := 13) rfl m_X8_11 i_yX6_init e2 (n_X6 (r := 1) hI hlen hz3 (hg.1) (by omega)) (Nat.le_of_ble_eq_true rfl) rfl rfl (Nat.le_of_ble_eq_true rfl) ⟨by omega, by omega⟩ (fun T7 M8 R9 e10 hI11 hz12 hm13 hr14 hE15 => ?_)
  clear hl4 hs5
  have hl16 : T7.length = a + 757 := zlen2 e10 hlen (zL6_len _) rfl
  have hs17 : zsz T7 = zsz T + (89911) := zsz2 e10 hzs0 (zL6_sz _) (by omega)
  have ht18 := zlk2 e10 ht
  refine q_putRF C dX8_init_13 (n := 16) rfl f_X8_14 ht18 rfl rfl (fun Cn Tn hq => by cases hq; rfl) ⟨rfl, rfl⟩ (fun R19 e20 => ?_)
  have hz21 := (hz12.le (n2 := a + 757) (by omega)).R e20 (by omega)
  refine q_aload_n C dX8_init_16 (n := 17) rfl rfl ?_
  refine q_ldc C dX8_init_17 (n := 19) rfl (x := 74440) k_X8_20 ?_
  have hz24 := hz21.le (n2 := a + 757) (by omega)
  refine q_newB C dX8_init_19 (n := 21) rfl (N := 74440) (q := a + 757) (by omega) (by omega) hl16 hz24 ⟨by omega, by omega⟩ (fun T22 e23 => ?_)
  have hl25 : T22.length = a + 758 := zlen2 e23 hl16 rfl rfl
  have hs26 : zsz T22 = zsz T + (164351) := zsz2 (l := 74440) e23 hs17 rfl (by omega)
  have ht27 := zlk2 e23 ht18
  clear hl16 hs17 ht18
  refine q_putRF C dX8_init_21 (n := 24) rfl f_X8_21 ht27 rfl rfl (fun Cn Tn hq => by cases hq; rfl) ⟨rfl, rfl⟩ (fun R28 e29 => ?_)
  have hz30 := (hz24.le (n2 := a + 758) (by omega)).R e29 (by omega)
  refine q_aload_n C dX8_init_24 (n := 25) rfl rfl ?_
  refine q_bipush C dX8_init_25 (n := 27) rfl (x := 8) (by decide) ?_
  have hz33 := hz30.le (n2 := a + 758) (by omega)
  refine q_newI C dX8_init_27 (n := 29) rfl (N := 8) (q := a + 758) (by omega) (by omega) hl25 hz33 ⟨by omega, by omega⟩ (fun T31 e32 => ?_)
  have hl34 : T31.length = a + 759 := zlen2 e32 hl25 rfl rfl
  have hs35 : zsz T31 = zsz T + (164359) := zsz2 (l := 8) e32 hs26 rfl (by omega)
  have ht36 := zlk2 e32 ht27
  clear hl25 hs26 ht27
  refine q_putRF C dX8_init_29 (n := 32) rfl f_X8_25 ht36 rfl rfl (fun Cn Tn hq => by cases hq; rfl) ⟨rfl, rfl⟩ (fun R37 e38 => ?_)
  have hz39 := (hz33.le (n2 := a + 759) (by omega)).R e38 (by omega)
  refine q_aload_n C dX8_init_32 (n := 33) rfl rfl ?_
  refine q_bipush C dX8_init_33 (n := 35) rfl (x := 8) (by decide) ?_
  have hz42 := hz39.le (n2 := a + 759) (by omega)
  refine q_newI C dX8_init_35 (n := 37) rfl (N := 8) (q := a + 759) (by omega) (by omega) hl34 hz42 ⟨by omega, by omega⟩ (fun T40 e41 => ?_)
  have hl43 : T40.length = a + 760 := zlen2 e41 hl34 rfl rfl
  have hs44 : zsz T40 = zsz T + (164367) := zsz2 (l := 8) e41 hs35 rfl (by omega)
  have ht45 := zlk2 e41 ht36
  clear hl34 hs35 ht36
  refine q_putRF C dX8_init_37 (n := 40) rfl f_X8_29 ht45 rfl rfl (fun Cn Tn hq => by cases hq; rfl) ⟨rfl, rfl⟩ (fun R46 e47 => ?_)
  have hz48 := (hz42.le (n2 := a + 760) (by omega)).R e47 (by omega)
  refine q_aload_n C dX8_init_40 (n := 41) rfl rfl ?_
  refine q_sipush C dX8_init_41 (n := 44) rfl (x := 160) (by decide) ?_
  have hz51 := hz48.le (n2 := a + 760) (by omega)
  refine q_newI C dX8_init_44 (n := 46) rfl (N := 160) (q := a + 760) (by omega) (by omega) hl43 hz51 ⟨by omega, by omega⟩ (fun T49 e50 => ?_)
  have hl52 : T49.length = a + 761 := zlen2 e50 hl43 rfl rfl
  have hs53 : zsz T49 = zsz T + (164527) := zsz2 (l := 160) e50 hs44 rfl (by omega)
  have ht54 := zlk2 e50 ht45
  clear hl43 hs44 ht45
  refine q_putRF C dX8_init_46 (n := 49) rfl f_X8_32 ht54 rfl rfl (fun Cn Tn hq => by cases hq; rfl) ⟨rfl, rfl⟩ (fun R55 e56 => ?_)
  have hz57 := (hz51.le (n2 := a + 761) (by omega)).R e56 (by omega)
  refine q_aload_n C dX8_init_49 (n := 50) rfl rfl ?_
  refine q_iconst C dX8_init_50 (n := 51) rfl ?_
  refine q_putI C dX8_init_51 (n := 54) rfl f_X8_35 ht54 ⟨rfl, rfl⟩ (fun M58 e59 => ?_)
  have hI60 : zI G M58 := hI11.put e59 (hg.2.2.2.2.2) rfl (by omega)
  have hz61 := (hz57.le (n2 := a + 761) (by omega)).M e59 (by omega)
  refine q_vret C dX8_init_54 ⟨by omega, by omega⟩ ?_
  rw [hPo]
  refine ⟨rfl, M58, R55, ?_, hI60, hz61.le (by omega), ?_, ?_, ?_⟩
  · subst e50 e41 e32 e23 e10
    rw [eT]
    simp [zL8]
  · intro c q hc
    exact (zup_p e59 (by omega) _).trans (hm13 _ _ (by omega))
  · intro c q hc
    exact (zup_p e56 (by omega) _).trans ((zup_p e47 (by omega) _).trans ((zup_p e38 (by omega) _).trans ((zup_p e29 (by omega) _).trans ((zup_p e20 (by omega) _).trans (hr14 _ _ (by omega))))))
  · exact ⟨⟨(zup_n e56 (fun z => absurd z.2 (by decide))).trans ((zup_n e47 (fun z => absurd z.2 (by decide))).trans ((zup_n e38 (fun z => absurd z.2 (by decide))).trans ((zup_n e29 (fun z => absurd z.2 (by decide))).trans (zup_s e20)))), (zup_n e56 (fun z => absurd z.2 (by decide))).trans ((zup_n e47 (fun z => absurd z.2 (by decide))).trans ((zup_n e38 (fun z => absurd z.2 (by decide))).trans (zup_s e29))), (zup_n e56 (fun z => absurd z.2 (by decide))).trans ((zup_n e47 (fun z => absurd z.2 (by decide))).trans (zup_s e38)), (zup_n e56 (fun z => absurd z.2 (by decide))).trans (zup_s e47), zup_s e56, zN6.cg (fun c z h1 h2 => (zup_p e56 (by omega) _).trans ((zup_p e47 (by omega) _).trans ((zup_p e38 (by omega) _).trans ((zup_p e29 (by omega) _).trans (zup_p e20 (by omega) _))))) hE15.1⟩, (zup_p e56 (by omega) _).trans ((zup_p e47 (by omega) _).trans ((zup_p e38 (by omega) _).trans ((zup_p e29 (by omega) _).trans ((zup_p e20 (by omega) _).trans (hE15.2)))))⟩
