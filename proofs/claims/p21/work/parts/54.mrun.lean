theorem zMe.zero {M : zMm} {a : Nat} (h : ∀ j, 199 ≤ j → j < 1219 → M (a + 18) j = 0) : zMe M a := ⟨fun _ => 0, fun _ => 0, fun m m0 m1 => ⟨h _ (by omega) (by omega), h _ (by omega) (by omega), fun b b0 b1 => by have b1 : b < 0 := b1; omega⟩, fun _ => ⟨Int.le_refl _, by show (0 : Int) ≤ 20; omega⟩, fun _ => by show (0 : Int) ≤ 4; omega⟩
theorem c_X12_comes {w : zWp} {T : zTl} {M : zMm} {J : zJm} {R : zRm'} {G : zGt} {F : zRm'} {a : Nat} (hI : zI G M) (hF : zF F R) (h0 : zModel T F G a) (v1 : Int) (p1 : 0 ≤ v1 ∧ v1 ≤ 3499) (p2 : M a 99 ≤ 3499) (p3 : M a 100 ≤ 92970) : zCt w 2 0 0 yX12_comes cX12_comes 4 none [.ref (w.2.1 + a), zi v1] (T, M, J, R) (zPv T R G (fun M2 => (zMd a [59, 60, 61, 62, 63, 64, 65, 66, 67] [99, 100] [] M M2) ∧ (M2 a 99 = M a 99 + 1) ∧ (M2 a 100 = M a 100 + M (a + 11) v1) ∧ (0 ≤ M (a + 11) v1 ∧ M (a + 11) v1 ≤ 30))) := by
  refine zCt.of rfl (Nat.le_of_ble_eq_true rfl) ?_
  intro p e s m args below meth c C
  obtain ⟨Po, hPo⟩ : ∃ Po, Po = zPv T R G (fun M2 => (zMd a [59, 60, 61, 62, 63, 64, 65, 66, 67] [99, 100] [] M M2) ∧ (M2 a 99 = M a 99 + 1) ∧ (M2 a 100 = M a 100 + M (a + 11) v1) ∧ (0 ≤ M (a + 11) v1 ∧ M (a + 11) v1 ≤ 30)) := ⟨_, rfl⟩
  rw [← hPo]
  have hK0 : zMd a [59, 60, 61, 62, 63, 64, 65, 66, 67] [99, 100] [] M M := zMd.rf
  have gk_outMany := zI.at hI (zM230 h0)
  have gk_outBytes := zI.at hI (zM231 h0)
  show zK w p e 2 0 0 s m args below meth c 4 T Po 0 [.ref (w.2.1 + a), zi v1, .null, .null] [] (T, M, J, R)
  refine q_aload_n C dX12_comes_0 (n := 1) rfl rfl ?_
  have g1 := zI.at hI (zM230 h0)
  refine q_getI C dX12_comes_1 (n := 4) rfl f_X12_636 (zM0 h0) (v := M a 99) rfl ?_
  refine q_istore_n C [.ref (w.2.1 + a), zi v1, zi (M a 99), .null] dX12_comes_4 (n := 5) rfl rfl rfl ?_
  refine q_aload_n C dX12_comes_5 (n := 6) rfl rfl ?_
  refine q_getR C dX12_comes_6 (n := 9) rfl f_X12_193 (zM0 h0) (hF _ _ _ (zM203 h0)) ?_
  refine q_iload_n C dX12_comes_9 (n := 10) rfl rfl ?_
  refine q_aload_n C dX12_comes_10 (n := 11) rfl rfl ?_
  refine q_getR C dX12_comes_11 (n := 14) rfl f_X12_40 (zM0 h0) (hF _ _ _ (zM31 h0)) ?_
  refine q_iload_n C dX12_comes_14 (n := 15) rfl rfl ?_
  have g2 := zI.at hI ((zM33 h0) v1)
  refine q_iald C dX12_comes_15 (n := 16) rfl (zM32 h0) (by omega) (v := M (a + 9) v1) rfl ?_
  refine q_iast C dX12_comes_16 (n := 17) rfl (zM204 h0) (by omega)  (fun M3 e4 => ?_)
  have hI5 : zI G M3 := hI.put e4 ((zM205 h0) (M a 99)) rfl (by omega)
  have hK6 := hK0.upA e4 rfl
  refine q_aload_n C dX12_comes_17 (n := 18) rfl rfl ?_
  refine q_getR C dX12_comes_18 (n := 21) rfl f_X12_196 (zM0 h0) (hF _ _ _ (zM206 h0)) ?_
  refine q_iload_n C dX12_comes_21 (n := 22) rfl rfl ?_
  refine q_aload_n C dX12_comes_22 (n := 23) rfl rfl ?_
  have g7 := zI.at hI (zM231 h0)
  refine q_getI C dX12_comes_23 (n := 26) rfl f_X12_639 (zM0 h0) (v := M a 100) (zup_p e4 (by omega) _) ?_
  refine q_iast C dX12_comes_26 (n := 27) rfl (zM207 h0) (by omega)  (fun M8 e9 => ?_)
  have hI10 : zI G M8 := hI5.put e9 ((zM208 h0) (M a 99)) rfl (by omega)
  have hK11 := hK6.upA e9 rfl
  refine q_aload_n C dX12_comes_27 (n := 28) rfl rfl ?_
  refine q_getR C dX12_comes_28 (n := 31) rfl f_X12_199 (zM0 h0) (hF _ _ _ (zM209 h0)) ?_
  refine q_iload_n C dX12_comes_31 (n := 32) rfl rfl ?_
  refine q_aload_n C dX12_comes_32 (n := 33) rfl rfl ?_
  refine q_getR C dX12_comes_33 (n := 36) rfl f_X12_46 (zM0 h0) (hF _ _ _ (zM37 h0)) ?_
  refine q_iload_n C dX12_comes_36 (n := 37) rfl rfl ?_
  have g12 := zI.at hI ((zM39 h0) v1)
  refine q_iald C dX12_comes_37 (n := 38) rfl (zM38 h0) (by omega) (v := M (a + 11) v1) ((zup_p e9 (by omega) _).trans (zup_p e4 (by omega) _)) ?_
  refine q_iast C dX12_comes_38 (n := 39) rfl (zM210 h0) (by omega)  (fun M13 e14 => ?_)
  have hI15 : zI G M13 := hI10.put e14 ((zM211 h0) (M a 99)) rfl (by omega)
  have hK16 := hK11.upA e14 rfl
  refine q_aload_n C dX12_comes_39 (n := 40) rfl rfl ?_
  refine q_getR C dX12_comes_40 (n := 43) rfl f_X12_202 (zM0 h0) (hF _ _ _ (zM212 h0)) ?_
  refine q_iload_n C dX12_comes_43 (n := 44) rfl rfl ?_
  refine q_aload_n C dX12_comes_44 (n := 45) rfl rfl ?_
  refine q_getR C dX12_comes_45 (n := 48) rfl f_X12_49 (zM0 h0) (hF _ _ _ (zM40 h0)) ?_
  refine q_iload_n C dX12_comes_48 (n := 49) rfl rfl ?_
  have g17 := zI.at hI ((zM42 h0) v1)
  refine q_iald C dX12_comes_49 (n := 50) rfl (zM41 h0) (by omega) (v := M (a + 12) v1) ((zup_p e14 (by omega) _).trans ((zup_p e9 (by omega) _).trans (zup_p e4 (by omega) _))) ?_
  refine q_iast C dX12_comes_50 (n := 51) rfl (zM213 h0) (by omega)  (fun M18 e19 => ?_)
  have hI20 : zI G M18 := hI15.put e19 ((zM214 h0) (M a 99)) rfl (by omega)
  have hK21 := hK16.upA e19 rfl
  refine q_aload_n C dX12_comes_51 (n := 52) rfl rfl ?_
  refine q_getR C dX12_comes_52 (n := 55) rfl f_X12_205 (zM0 h0) (hF _ _ _ (zM215 h0)) ?_
  refine q_iload_n C dX12_comes_55 (n := 56) rfl rfl ?_
  refine q_aload_n C dX12_comes_56 (n := 57) rfl rfl ?_
  refine q_getR C dX12_comes_57 (n := 60) rfl f_X12_52 (zM0 h0) (hF _ _ _ (zM43 h0)) ?_
  refine q_iload_n C dX12_comes_60 (n := 61) rfl rfl ?_
  have g22 := zI.at hI ((zM45 h0) v1)
  refine q_iald C dX12_comes_61 (n := 62) rfl (zM44 h0) (by omega) (v := M (a + 13) v1) ((zup_p e19 (by omega) _).trans ((zup_p e14 (by omega) _).trans ((zup_p e9 (by omega) _).trans (zup_p e4 (by omega) _)))) ?_
  refine q_iast C dX12_comes_62 (n := 63) rfl (zM216 h0) (by omega)  (fun M23 e24 => ?_)
  have hI25 : zI G M23 := hI20.put e24 ((zM217 h0) (M a 99)) rfl (by omega)
  have hK26 := hK21.upA e24 rfl
  refine q_aload_n C dX12_comes_63 (n := 64) rfl rfl ?_
  refine q_getR C dX12_comes_64 (n := 67) rfl f_X12_208 (zM0 h0) (hF _ _ _ (zM218 h0)) ?_
  refine q_iload_n C dX12_comes_67 (n := 68) rfl rfl ?_
  refine q_aload_n C dX12_comes_68 (n := 69) rfl rfl ?_
  refine q_getR C dX12_comes_69 (n := 72) rfl f_X12_55 (zM0 h0) (hF _ _ _ (zM46 h0)) ?_
  refine q_iload_n C dX12_comes_72 (n := 73) rfl rfl ?_
  have g27 := zI.at hI ((zM48 h0) v1)
  refine q_iald C dX12_comes_73 (n := 74) rfl (zM47 h0) (by omega) (v := M (a + 14) v1) ((zup_p e24 (by omega) _).trans ((zup_p e19 (by omega) _).trans ((zup_p e14 (by omega) _).trans ((zup_p e9 (by omega) _).trans (zup_p e4 (by omega) _))))) ?_
  refine q_iast C dX12_comes_74 (n := 75) rfl (zM219 h0) (by omega)  (fun M28 e29 => ?_)
  have hI30 : zI G M28 := hI25.put e29 ((zM220 h0) (M a 99)) rfl (by omega)
  have hK31 := hK26.upA e29 rfl
  refine q_aload_n C dX12_comes_75 (n := 76) rfl rfl ?_
  refine q_getR C dX12_comes_76 (n := 79) rfl f_X12_211 (zM0 h0) (hF _ _ _ (zM221 h0)) ?_
  refine q_iload_n C dX12_comes_79 (n := 80) rfl rfl ?_
  refine q_aload_n C dX12_comes_80 (n := 81) rfl rfl ?_
  refine q_getR C dX12_comes_81 (n := 84) rfl f_X12_58 (zM0 h0) (hF _ _ _ (zM49 h0)) ?_
  refine q_iload_n C dX12_comes_84 (n := 85) rfl rfl ?_
  have g32 := zI.at hI ((zM51 h0) v1)
  refine q_iald C dX12_comes_85 (n := 86) rfl (zM50 h0) (by omega) (v := M (a + 15) v1) ((zup_p e29 (by omega) _).trans ((zup_p e24 (by omega) _).trans ((zup_p e19 (by omega) _).trans ((zup_p e14 (by omega) _).trans ((zup_p e9 (by omega) _).trans (zup_p e4 (by omega) _)))))) ?_
  refine q_iast C dX12_comes_86 (n := 87) rfl (zM222 h0) (by omega)  (fun M33 e34 => ?_)
  have hI35 : zI G M33 := hI30.put e34 ((zM223 h0) (M a 99)) rfl (by omega)
  have hK36 := hK31.upA e34 rfl
  refine q_aload_n C dX12_comes_87 (n := 88) rfl rfl ?_
  refine q_getR C dX12_comes_88 (n := 91) rfl f_X12_214 (zM0 h0) (hF _ _ _ (zM224 h0)) ?_
  refine q_iload_n C dX12_comes_91 (n := 92) rfl rfl ?_
  refine q_aload_n C dX12_comes_92 (n := 93) rfl rfl ?_
  refine q_getR C dX12_comes_93 (n := 96) rfl f_X12_61 (zM0 h0) (hF _ _ _ (zM52 h0)) ?_
  refine q_iload_n C dX12_comes_96 (n := 97) rfl rfl ?_
  have g37 := zI.at hI ((zM54 h0) v1)
  refine q_iald C dX12_comes_97 (n := 98) rfl (zM53 h0) (by omega) (v := M (a + 16) v1) ((zup_p e34 (by omega) _).trans ((zup_p e29 (by omega) _).trans ((zup_p e24 (by omega) _).trans ((zup_p e19 (by omega) _).trans ((zup_p e14 (by omega) _).trans ((zup_p e9 (by omega) _).trans (zup_p e4 (by omega) _))))))) ?_
  refine q_iast C dX12_comes_98 (n := 99) rfl (zM225 h0) (by omega)  (fun M38 e39 => ?_)
  have hI40 : zI G M38 := hI35.put e39 ((zM226 h0) (M a 99)) rfl (by omega)
  have hK41 := hK36.upA e39 rfl
  refine q_iconst C dX12_comes_99 (n := 100) rfl ?_
  refine q_istore_n C [.ref (w.2.1 + a), zi v1, zi (M a 99), zi 0] dX12_comes_100 (n := 101) rfl rfl rfl ?_
  have L_51 : ∀ n52 : Nat, ∀ (u42 : Int) (M44 : zMm) (J45 : zJm), zI G M44 → zMd a [59, 60, 61, 62, 63, 64, 65, 66, 67] [99, 100] [] M M44 → zMd a [67] [] [] M38 M44 → (-2147483648 ≤ u42 ∧ u42 ≤ 2147483647) → (0 ≤ u42 ∧ u42 ≤ 30) → (30 - u42 + 1 ≤ (n52 : Int)) → zK w p e 2 0 0 s m args below meth c 4 T Po 101 [.ref (w.2.1 + a), zi v1, .null, zi u42] [] (T, M44, J45, R) := by
    intro n52
    induction n52 with
    | zero =>
      intro u42 M44 J45 hI46 hK47 hK48 h49 h50 hm54
      exfalso
      omega
    | succ n52 ih53 =>
      intro u42 M44 J45 hI46 hK47 hK48 h49 h50 hm54
      refine q_iload_n C dX12_comes_101 (n := 102) rfl rfl ?_
      refine q_aload_n C dX12_comes_102 (n := 103) rfl rfl ?_
      refine q_getR C dX12_comes_103 (n := 106) rfl f_X12_46 (zM0 h0) (hF _ _ _ (zM37 h0)) ?_
      refine q_iload_n C dX12_comes_106 (n := 107) rfl rfl ?_
      refine q_iald C dX12_comes_107 (n := 108) rfl (zM38 h0) (by omega) (v := M (a + 11) v1) ((hK48.getA rfl rfl rfl).trans ((zup_p e39 (by omega) _).trans ((zup_p e34 (by omega) _).trans ((zup_p e29 (by omega) _).trans ((zup_p e24 (by omega) _).trans ((zup_p e19 (by omega) _).trans ((zup_p e14 (by omega) _).trans ((zup_p e9 (by omega) _).trans (zup_p e4 (by omega) _))))))))) ?_
      refine q_icmp_ge C 135 dX12_comes_108 (n := 111) rfl rfl (by omega) (fun h55 => ?_) (fun h55 => ?_)
      · refine q_aload_n C dX12_comes_135 (n := 136) rfl rfl ?_
        refine q_dup C dX12_comes_136 (n := 137) rfl rfl ?_
        refine q_getI C dX12_comes_137 (n := 140) rfl f_X12_639 (zM0 h0) (v := M a 100) ((hK48.getS rfl rfl).trans ((zup_p e39 (by omega) _).trans ((zup_p e34 (by omega) _).trans ((zup_p e29 (by omega) _).trans ((zup_p e24 (by omega) _).trans ((zup_p e19 (by omega) _).trans ((zup_p e14 (by omega) _).trans ((zup_p e9 (by omega) _).trans (zup_p e4 (by omega) _))))))))) ?_
        refine q_aload_n C dX12_comes_140 (n := 141) rfl rfl ?_
        refine q_getR C dX12_comes_141 (n := 144) rfl f_X12_46 (zM0 h0) (hF _ _ _ (zM37 h0)) ?_
        refine q_iload_n C dX12_comes_144 (n := 145) rfl rfl ?_
        refine q_iald C dX12_comes_145 (n := 146) rfl (zM38 h0) (by omega) (v := M (a + 11) v1) ((hK48.getA rfl rfl rfl).trans ((zup_p e39 (by omega) _).trans ((zup_p e34 (by omega) _).trans ((zup_p e29 (by omega) _).trans ((zup_p e24 (by omega) _).trans ((zup_p e19 (by omega) _).trans ((zup_p e14 (by omega) _).trans ((zup_p e9 (by omega) _).trans (zup_p e4 (by omega) _))))))))) ?_
        refine q_iadd C dX12_comes_146 (n := 147) rfl (v := (M a 100) + (M (a + 11) v1)) rfl ?_
        refine q_putI C dX12_comes_147 (n := 150) rfl f_X12_639 (zM0 h0) ⟨rfl, rfl⟩ (fun M56 (e57 : M56 = zup M44 a 100 ((M a 100) + (M (a + 11) v1))) => ?_)
        have hI58 : zI G M56 := hI46.put e57 (zM231 h0) rfl (by omega)
        have hK59 := hK47.upS e57 rfl
        refine q_aload_n C dX12_comes_150 (n := 151) rfl rfl ?_
        refine q_dup C dX12_comes_151 (n := 152) rfl rfl ?_
        refine q_getI C dX12_comes_152 (n := 155) rfl f_X12_636 (zM0 h0) (v := M a 99) ((zup_n e57 (by omega)).trans ((hK48.getS rfl rfl).trans ((zup_p e39 (by omega) _).trans ((zup_p e34 (by omega) _).trans ((zup_p e29 (by omega) _).trans ((zup_p e24 (by omega) _).trans ((zup_p e19 (by omega) _).trans ((zup_p e14 (by omega) _).trans ((zup_p e9 (by omega) _).trans (zup_p e4 (by omega) _)))))))))) ?_
        refine q_iconst C dX12_comes_155 (n := 156) rfl ?_
        refine q_iadd C dX12_comes_156 (n := 157) rfl (v := (M a 99) + 1) rfl ?_
        refine q_putI C dX12_comes_157 (n := 160) rfl f_X12_636 (zM0 h0) ⟨rfl, rfl⟩ (fun M61 (e62 : M61 = zup M56 a 99 ((M a 99) + 1)) => ?_)
        have hI63 : zI G M61 := hI58.put e62 (zM230 h0) rfl (by omega)
        have hK64 := hK59.upS e62 rfl
        exact q_vret C dX12_comes_160 ⟨rfl, rfl⟩ (by rw [hPo]; exact ⟨M61, J45, rfl, rfl, hI63, hK64, by have hz65 : M61 a 99 = (M a 99) + 1 := (zup_s e62); omega, by have hz66 : M61 a 100 = (M a 100) + (M (a + 11) v1) := ((zup_n e62 (by omega)).trans (zup_s e57)); omega, by omega⟩)
      · refine q_aload_n C dX12_comes_111 (n := 112) rfl rfl ?_
        refine q_getR C dX12_comes_112 (n := 115) rfl f_X12_218 (zM0 h0) (hF _ _ _ (zM227 h0)) ?_
        refine q_aload_n C dX12_comes_115 (n := 116) rfl rfl ?_
        refine q_getI C dX12_comes_116 (n := 119) rfl f_X12_639 (zM0 h0) (v := M a 100) ((hK48.getS rfl rfl).trans ((zup_p e39 (by omega) _).trans ((zup_p e34 (by omega) _).trans ((zup_p e29 (by omega) _).trans ((zup_p e24 (by omega) _).trans ((zup_p e19 (by omega) _).trans ((zup_p e14 (by omega) _).trans ((zup_p e9 (by omega) _).trans (zup_p e4 (by omega) _))))))))) ?_
        refine q_iload_n C dX12_comes_119 (n := 120) rfl rfl ?_
        refine q_iadd C dX12_comes_120 (n := 121) rfl (v := (M a 100) + u42) rfl ?_
        refine q_aload_n C dX12_comes_121 (n := 122) rfl rfl ?_
        refine q_iload_n C dX12_comes_122 (n := 123) rfl rfl ?_
        refine q_iload_n C dX12_comes_123 (n := 124) rfl rfl ?_
        refine q_callVp C dX12_comes_124 (n := 127) rfl m_X12_370 v_yX12_byteIn (zM0 h0) ⟨by decide, rfl⟩ (c_X12_byteIn (w := w) (J := J45) hI46 hF h0 v1 u42 (by omega) (by omega)) (Nat.le_of_ble_eq_true rfl) rfl rfl (Nat.le_of_ble_eq_true rfl) ⟨Nat.le_refl _, Nat.le_refl _⟩ (fun x69 h70 => ?_)
        obtain ⟨h67, h68⟩ := h70
        refine q_i2b C dX12_comes_127 (n := 128) rfl (v := zi2b x69) rfl ?_
        have g71 := z8_r x69
        refine q_bast C dX12_comes_128 (n := 129) rfl (zM228 h0) (by omega) (by omega) (fun M72 e73 => ?_)
        have hI74 : zI G M72 := hI46.put e73 ((zM229 h0) ((M a 100) + u42)) rfl (by omega)
        have hK75 := hK47.upA e73 rfl
        have hK76 := hK48.upA e73 rfl
        refine q_iinc C [.ref (w.2.1 + a), zi v1, .null, zi (u42 + 1)] dX12_comes_129 (n := 132) rfl rfl rfl rfl ?_
        refine q_goto C 101 dX12_comes_132 rfl ?_
        exact zK.weak (ih53 (u42 + 1) M72 J45 hI74 hK75 hK76 (by omega) (by omega) (by omega)) (zwk_c (zwk_c (zwk_n (zwk_c zwk_e))))
  exact zK.weak (L_51 _ 0 M38 J hI40 hK41 (zMd.rf : zMd a [67] [] [] M38 M38) (by omega) (by omega) (Int.self_le_toNat _)) (zwk_c (zwk_c (zwk_n (zwk_c zwk_e))))
theorem c_X12_counts {w : zWp} {T : zTl} {M : zMm} {J : zJm} {R : zRm'} {G : zGt} {F : zRm'} {a : Nat} (hI : zI G M) (hF : zF F R) (h0 : zModel T F G a) (v1 : Int) (v2 : Int) (p1 : 0 ≤ v1 ∧ v1 ≤ 3) (p2 : 0 ≤ v2 ∧ v2 ≤ 39) (p3 : zMe M a) : zCt w 1 0 0 yX12_counts cX12_counts 3 none [.ref (w.2.1 + a), zi v1, zi v2] (T, M, J, R) (zPv T R G (fun M2 => (zMd a [18] [] [] M M2) ∧ (zMe M2 a) ∧ (M2 (a + 18) 3 = M (a + 18) 3))) := by
  refine zCt.of rfl (Nat.le_of_ble_eq_true rfl) ?_
  intro p e s m args below meth c C
  obtain ⟨Po, hPo⟩ : ∃ Po, Po = zPv T R G (fun M2 => (zMd a [18] [] [] M M2) ∧ (zMe M2 a) ∧ (M2 (a + 18) 3 = M (a + 18) 3)) := ⟨_, rfl⟩
  rw [← hPo]
  have hK0 : zMd a [18] [] [] M M := zMd.rf
  show zK w p e 1 0 0 s m args below meth c 3 T Po 0 [.ref (w.2.1 + a), zi v1, zi v2] [] (T, M, J, R)
  refine q_aload_n C dX12_counts_0 (n := 1) rfl rfl ?_
  refine q_getR C dX12_counts_1 (n := 4) rfl f_X12_68 (zM0 h0) (hF _ _ _ (zM65 h0)) ?_
  refine q_bipush C dX12_counts_4 (n := 6) rfl (x := 15) (by decide) ?_
  refine q_bipush C dX12_counts_6 (n := 8) rfl (x := 40) (by decide) ?_
  refine q_iload_n C dX12_counts_8 (n := 9) rfl rfl ?_
  refine q_imul C dX12_counts_9 (n := 10) rfl (v := 40 * v1) rfl ?_
  refine q_iadd C dX12_counts_10 (n := 11) rfl (v := 15 + (40 * v1)) rfl ?_
  refine q_iload_n C dX12_counts_11 (n := 12) rfl rfl ?_
  refine q_iadd C dX12_counts_12 (n := 13) rfl (v := (15 + (40 * v1)) + v2) rfl ?_
  refine q_dup2 C dX12_counts_13 (n := 14) rfl ⟨rfl, rfl⟩ ?_
  have g1 := zI.at hI (((zM67 h0) ((15 + (40 * v1)) + v2)).trans (zwG_1 (by omega)))
  refine q_iald C dX12_counts_14 (n := 15) rfl (zM66 h0) (by omega) (v := M (a + 18) ((15 + (40 * v1)) + v2)) rfl ?_
  refine q_iconst C dX12_counts_15 (n := 16) rfl ?_
  refine q_iadd C dX12_counts_16 (n := 17) rfl (v := (M (a + 18) ((15 + (40 * v1)) + v2)) + 1) rfl ?_
  refine q_wrap C ?_
  have g2 := zr_wr ((M (a + 18) ((15 + (40 * v1)) + v2)) + 1)
  refine q_iast C dX12_counts_17 (n := 18) rfl (zM66 h0) (by omega)  (fun M3 e4 => ?_)
  have hp5 : zMe M3 a := p3.up e4 (by omega)
  have hI6 : zI G M3 := hI.put e4 (((zM67 h0) ((15 + (40 * v1)) + v2)).trans (zwG_1 (by omega))) rfl (by omega)
  have hK7 := hK0.upA e4 rfl
  exact q_vret C dX12_counts_18 ⟨rfl, rfl⟩ (by rw [hPo]; exact ⟨M3, J, rfl, rfl, hI6, hK7, hp5, ((zup_n e4 (by omega)))⟩)
theorem c_X12_group {w : zWp} {T : zTl} {M : zMm} {J : zJm} {R : zRm'} {G : zGt} {F : zRm'} {a : Nat} (hI : zI G M) (hF : zF F R) (h0 : zModel T F G a) (v1 : Int) (v2 : Int) (v3 : Int) (p1 : M a 89 ≤ 289) (p2 : 0 ≤ v1 ∧ v1 ≤ 39) (p3 : v2 = 0 ∨ v2 = 1) (p4 : v3 = 0 ∨ v3 = 1) : zCt w 1 0 0 yX12_group cX12_group 4 none [.ref (w.2.1 + a), zi v1, zi v2, zi v3] (T, M, J, R) (zPv T R G (fun M2 => (zMd a [54, 55, 56, 57, 58] [89] [] M M2) ∧ (M2 a 89 = M a 89 + 1) ∧ (∀ j, j ≠ M a 89 → M2 (a + 54) j = M (a + 54) j) ∧ (M2 (a + 54) (M a 89) = v1))) := by
  refine zCt.of rfl (Nat.le_of_ble_eq_true rfl) ?_
  intro p e s m args below meth c C
  obtain ⟨Po, hPo⟩ : ∃ Po, Po = zPv T R G (fun M2 => (zMd a [54, 55, 56, 57, 58] [89] [] M M2) ∧ (M2 a 89 = M a 89 + 1) ∧ (∀ j, j ≠ M a 89 → M2 (a + 54) j = M (a + 54) j) ∧ (M2 (a + 54) (M a 89) = v1)) := ⟨_, rfl⟩
  rw [← hPo]
  have hK0 : zMd a [54, 55, 56, 57, 58] [89] [] M M := zMd.rf
  have gk_groups := zI.at hI (zM202 h0)
  show zK w p e 1 0 0 s m args below meth c 4 T Po 0 [.ref (w.2.1 + a), zi v1, zi v2, zi v3] [] (T, M, J, R)
  refine q_aload_n C dX12_group_0 (n := 1) rfl rfl ?_
  refine q_getR C dX12_group_1 (n := 4) rfl f_X12_178 (zM0 h0) (hF _ _ _ (zM186 h0)) ?_
  refine q_aload_n C dX12_group_4 (n := 5) rfl rfl ?_
  have g1 := zI.at hI (zM202 h0)
  refine q_getI C dX12_group_5 (n := 8) rfl f_X12_642 (zM0 h0) (v := M a 89) rfl ?_
  refine q_iload_n C dX12_group_8 (n := 9) rfl rfl ?_
  refine q_iast C dX12_group_9 (n := 10) rfl (zM187 h0) (by omega)  (fun M2 e3 => ?_)
  have hI4 : zI G M2 := hI.put e3 ((zM188 h0) (M a 89)) rfl (by omega)
  have hK5 := hK0.upA e3 rfl
  refine q_aload_n C dX12_group_10 (n := 11) rfl rfl ?_
  refine q_getR C dX12_group_11 (n := 14) rfl f_X12_181 (zM0 h0) (hF _ _ _ (zM189 h0)) ?_
  refine q_aload_n C dX12_group_14 (n := 15) rfl rfl ?_
  refine q_getI C dX12_group_15 (n := 18) rfl f_X12_642 (zM0 h0) (v := M a 89) (zup_p e3 (by omega) _) ?_
  refine q_iload_n C dX12_group_18 (n := 19) rfl rfl ?_
  have J_9 : ∀ (u6 : Int), (-2147483648 ≤ u6 ∧ u6 ≤ 2147483647) → (u6 = 0 ∨ u6 = 1) → zK w p e 1 0 0 s m args below meth c 4 T Po 27 [.ref (w.2.1 + a), .null, zi v2, zi v3] [zi u6, zi (M a 89), .ref (w.2.1 + (a + 55))] (T, M2, J, R) := by
    intro u6 h7 h8
    refine q_iast C dX12_group_27 (n := 28) rfl (zM190 h0) (by omega)  (fun M10 e11 => ?_)
    have hI12 : zI G M10 := hI4.put e11 ((zM191 h0) (M a 89)) rfl (by omega)
    have hK13 := hK5.upA e11 rfl
    refine q_aload_n C dX12_group_28 (n := 29) rfl rfl ?_
    refine q_getR C dX12_group_29 (n := 32) rfl f_X12_184 (zM0 h0) (hF _ _ _ (zM192 h0)) ?_
    refine q_aload_n C dX12_group_32 (n := 33) rfl rfl ?_
    refine q_getI C dX12_group_33 (n := 36) rfl f_X12_642 (zM0 h0) (v := M a 89) ((zup_p e11 (by omega) _).trans (zup_p e3 (by omega) _)) ?_
    refine q_iload_n C dX12_group_36 (n := 37) rfl rfl ?_
    have J_17 : ∀ (u14 : Int), (-2147483648 ≤ u14 ∧ u14 ≤ 2147483647) → (u14 = 0 ∨ u14 = 1) → zK w p e 1 0 0 s m args below meth c 4 T Po 45 [.ref (w.2.1 + a), .null, .null, zi v3] [zi u14, zi (M a 89), .ref (w.2.1 + (a + 56))] (T, M10, J, R) := by
      intro u14 h15 h16
      refine q_iast C dX12_group_45 (n := 46) rfl (zM193 h0) (by omega)  (fun M18 e19 => ?_)
      have hI20 : zI G M18 := hI12.put e19 ((zM194 h0) (M a 89)) rfl (by omega)
      have hK21 := hK13.upA e19 rfl
      refine q_aload_n C dX12_group_46 (n := 47) rfl rfl ?_
      refine q_getR C dX12_group_47 (n := 50) rfl f_X12_187 (zM0 h0) (hF _ _ _ (zM195 h0)) ?_
      refine q_aload_n C dX12_group_50 (n := 51) rfl rfl ?_
      refine q_getI C dX12_group_51 (n := 54) rfl f_X12_642 (zM0 h0) (v := M a 89) ((zup_p e19 (by omega) _).trans ((zup_p e11 (by omega) _).trans (zup_p e3 (by omega) _))) ?_
      refine q_iconst C dX12_group_54 (n := 55) rfl ?_
      refine q_iast C dX12_group_55 (n := 56) rfl (zM196 h0) (by omega)  (fun M22 e23 => ?_)
      have hI24 : zI G M22 := hI20.put e23 ((zM197 h0) (M a 89)) rfl (by omega)
      have hK25 := hK21.upA e23 rfl
      refine q_aload_n C dX12_group_56 (n := 57) rfl rfl ?_
      refine q_getR C dX12_group_57 (n := 60) rfl f_X12_190 (zM0 h0) (hF _ _ _ (zM198 h0)) ?_
      refine q_aload_n C dX12_group_60 (n := 61) rfl rfl ?_
      refine q_getI C dX12_group_61 (n := 64) rfl f_X12_642 (zM0 h0) (v := M a 89) ((zup_p e23 (by omega) _).trans ((zup_p e19 (by omega) _).trans ((zup_p e11 (by omega) _).trans (zup_p e3 (by omega) _)))) ?_
      refine q_iload_n C dX12_group_64 (n := 65) rfl rfl ?_
      refine q_if_eq C 72 dX12_group_65 (n := 68) rfl rfl (by omega) (fun h26 => ?_) (fun h26 => ?_)
      · refine q_iconst C dX12_group_72 (n := 73) rfl ?_
        refine q_iast C dX12_group_73 (n := 74) rfl (zM199 h0) (by omega)  (fun M27 e28 => ?_)
        have hI29 : zI G M27 := hI24.put e28 ((zM200 h0) (M a 89)) rfl (by omega)
        have hK30 := hK25.upA e28 rfl
        refine q_aload_n C dX12_group_74 (n := 75) rfl rfl ?_
        refine q_dup C dX12_group_75 (n := 76) rfl rfl ?_
        refine q_getI C dX12_group_76 (n := 79) rfl f_X12_642 (zM0 h0) (v := M a 89) ((zup_p e28 (by omega) _).trans ((zup_p e23 (by omega) _).trans ((zup_p e19 (by omega) _).trans ((zup_p e11 (by omega) _).trans (zup_p e3 (by omega) _))))) ?_
        refine q_iconst C dX12_group_79 (n := 80) rfl ?_
        refine q_iadd C dX12_group_80 (n := 81) rfl (v := (M a 89) + 1) rfl ?_
        refine q_putI C dX12_group_81 (n := 84) rfl f_X12_642 (zM0 h0) ⟨rfl, rfl⟩ (fun M31 (e32 : M31 = zup M27 a 89 ((M a 89) + 1)) => ?_)
        have hI33 : zI G M31 := hI29.put e32 (zM202 h0) rfl (by omega)
        have hK34 := hK30.upS e32 rfl
        exact q_vret C dX12_group_84 ⟨rfl, rfl⟩ (by rw [hPo]; exact ⟨M31, J, rfl, rfl, hI33, hK34, by have hz35 : M31 a 89 = (M a 89) + 1 := (zup_s e32); omega, (fun j hj => ((zup_p e32 (by omega) _).trans ((zup_p e28 (by omega) _).trans ((zup_p e23 (by omega) _).trans ((zup_p e19 (by omega) _).trans ((zup_p e11 (by omega) _).trans (zup_n e3 (by omega)))))))), by have hz36 : M31 (a + 54) (M a 89) = v1 := ((zup_p e32 (by omega) _).trans ((zup_p e28 (by omega) _).trans ((zup_p e23 (by omega) _).trans ((zup_p e19 (by omega) _).trans ((zup_p e11 (by omega) _).trans (zup_s e3)))))); omega⟩)
      · refine q_iconst C dX12_group_68 (n := 69) rfl ?_
        refine q_goto C 73 dX12_group_69 rfl ?_
        refine q_iast C dX12_group_73 (n := 74) rfl (zM199 h0) (by omega)  (fun M37 e38 => ?_)
        have hI39 : zI G M37 := hI24.put e38 ((zM200 h0) (M a 89)) rfl (by omega)
        have hK40 := hK25.upA e38 rfl
        refine q_aload_n C dX12_group_74 (n := 75) rfl rfl ?_
        refine q_dup C dX12_group_75 (n := 76) rfl rfl ?_
        refine q_getI C dX12_group_76 (n := 79) rfl f_X12_642 (zM0 h0) (v := M a 89) ((zup_p e38 (by omega) _).trans ((zup_p e23 (by omega) _).trans ((zup_p e19 (by omega) _).trans ((zup_p e11 (by omega) _).trans (zup_p e3 (by omega) _))))) ?_
        refine q_iconst C dX12_group_79 (n := 80) rfl ?_
        refine q_iadd C dX12_group_80 (n := 81) rfl (v := (M a 89) + 1) rfl ?_
        refine q_putI C dX12_group_81 (n := 84) rfl f_X12_642 (zM0 h0) ⟨rfl, rfl⟩ (fun M41 (e42 : M41 = zup M37 a 89 ((M a 89) + 1)) => ?_)
        have hI43 : zI G M41 := hI39.put e42 (zM202 h0) rfl (by omega)
        have hK44 := hK40.upS e42 rfl
        exact q_vret C dX12_group_84 ⟨rfl, rfl⟩ (by rw [hPo]; exact ⟨M41, J, rfl, rfl, hI43, hK44, by have hz45 : M41 a 89 = (M a 89) + 1 := (zup_s e42); omega, (fun j hj => ((zup_p e42 (by omega) _).trans ((zup_p e38 (by omega) _).trans ((zup_p e23 (by omega) _).trans ((zup_p e19 (by omega) _).trans ((zup_p e11 (by omega) _).trans (zup_n e3 (by omega)))))))), by have hz46 : M41 (a + 54) (M a 89) = v1 := ((zup_p e42 (by omega) _).trans ((zup_p e38 (by omega) _).trans ((zup_p e23 (by omega) _).trans ((zup_p e19 (by omega) _).trans ((zup_p e11 (by omega) _).trans (zup_s e3)))))); omega⟩)
    refine q_if_eq C 44 dX12_group_37 (n := 40) rfl rfl (by omega) (fun h47 => ?_) (fun h47 => ?_)
    · refine q_iconst C dX12_group_44 (n := 45) rfl ?_
      exact zK.weak (J_17 0 (by omega) (by omega)) (zwk_c (zwk_n (zwk_n (zwk_c zwk_e))))
    · refine q_iconst C dX12_group_40 (n := 41) rfl ?_
      refine q_goto C 45 dX12_group_41 rfl ?_
      exact zK.weak (J_17 1 (by omega) (by omega)) (zwk_c (zwk_n (zwk_n (zwk_c zwk_e))))
  refine q_if_eq C 26 dX12_group_19 (n := 22) rfl rfl (by omega) (fun h48 => ?_) (fun h48 => ?_)
  · refine q_iconst C dX12_group_26 (n := 27) rfl ?_
    exact zK.weak (J_9 0 (by omega) (by omega)) (zwk_c (zwk_n (zwk_c (zwk_c zwk_e))))
  · refine q_iconst C dX12_group_22 (n := 23) rfl ?_
    refine q_goto C 27 dX12_group_23 rfl ?_
    exact zK.weak (J_9 1 (by omega) (by omega)) (zwk_c (zwk_n (zwk_c (zwk_c zwk_e))))
theorem c_X12_isInside {w : zWp} {T : zTl} {M : zMm} {J : zJm} {R : zRm'} {G : zGt} {F : zRm'} {a : Nat} (hI : zI G M) (hF : zF F R) (h0 : zModel T F G a) (dp : Int) (p1 : M a 88 = dp) (p2 : 0 ≤ dp ∧ dp ≤ 7) : zCt w 1 0 0 yX12_isInside cX12_isInside 1 (some .boolean) [.ref (w.2.1 + a)] (T, M, J, R) (zPp T M J R (fun x => (x = 0 ∨ x = 1) ∧ (x = 0 ∨ M (a + 53) dp < M a 89) ∧ (x = 1 ∨ M a 89 ≤ M (a + 53) dp))) := by
  refine zCt.of rfl (Nat.le_of_ble_eq_true rfl) ?_
  intro p e s m args below meth c C
  obtain ⟨Po, hPo⟩ : ∃ Po, Po = zPp T M J R (fun x => (x = 0 ∨ x = 1) ∧ (x = 0 ∨ M (a + 53) dp < M a 89) ∧ (x = 1 ∨ M a 89 ≤ M (a + 53) dp)) := ⟨_, rfl⟩
  rw [← hPo]
  subst p1
  show zK w p e 1 0 0 s m args below meth c 1 T Po 0 [.ref (w.2.1 + a)] [] (T, M, J, R)
  refine q_aload_n C dX12_isInside_0 (n := 1) rfl rfl ?_
  have g1 := zI.at hI (zM202 h0)
  refine q_getI C dX12_isInside_1 (n := 4) rfl f_X12_642 (zM0 h0) (v := M a 89) rfl ?_
  refine q_aload_n C dX12_isInside_4 (n := 5) rfl rfl ?_
  refine q_getR C dX12_isInside_5 (n := 8) rfl f_X12_175 (zM0 h0) (hF _ _ _ (zM183 h0)) ?_
  refine q_aload_n C dX12_isInside_8 (n := 9) rfl rfl ?_
  have g2 := zI.at hI (zM201 h0)
  refine q_getI C dX12_isInside_9 (n := 12) rfl f_X12_645 (zM0 h0) (v := M a 88) rfl ?_
  have g3 := zI.at hI ((zM185 h0) (M a 88))
  refine q_iald C dX12_isInside_12 (n := 13) rfl (zM184 h0) (by omega) (v := M (a + 53) (M a 88)) rfl ?_
  refine q_icmp_le C 20 dX12_isInside_13 (n := 16) rfl rfl (by omega) (fun h4 => ?_) (fun h4 => ?_)
  · refine q_iconst C dX12_isInside_20 (n := 21) rfl ?_
    exact q_zret C dX12_isInside_21 ⟨rfl, rfl⟩ (by omega) (by rw [hPo]; exact ⟨0, rfl, rfl, by omega, by omega, by omega⟩)
  · refine q_iconst C dX12_isInside_16 (n := 17) rfl ?_
    refine q_goto C 21 dX12_isInside_17 rfl ?_
    exact q_zret C dX12_isInside_21 ⟨rfl, rfl⟩ (by omega) (by rw [hPo]; exact ⟨1, rfl, rfl, by omega, by omega, by omega⟩)
theorem c_X12_isNothing {w : zWp} {T : zTl} {M : zMm} {J : zJm} {R : zRm'} {G : zGt} {F : zRm'} {a : Nat} (hI : zI G M) (hF : zF F R) (h0 : zModel T F G a) (v1 : Int) (p1 : 0 ≤ v1 ∧ v1 ≤ 3) : zCt w 4 0 0 yX12_isNothing cX12_isNothing 2 (some .boolean) [.ref (w.2.1 + a), zi v1] (T, M, J, R) (zPi T R G (fun x M2 => (zMd a [] [] [(18, 11), (18, 12), (18, 13), (18, 14)] M M2) ∧ (x = 0 ∨ x = 1))) := by
  refine zCt.of rfl (Nat.le_of_ble_eq_true rfl) ?_
  intro p e s m args below meth c C
  obtain ⟨Po, hPo⟩ : ∃ Po, Po = zPi T R G (fun x M2 => (zMd a [] [] [(18, 11), (18, 12), (18, 13), (18, 14)] M M2) ∧ (x = 0 ∨ x = 1)) := ⟨_, rfl⟩
  rw [← hPo]
  have hK0 : zMd a [] [] [(18, 11), (18, 12), (18, 13), (18, 14)] M M := zMd.rf
  show zK w p e 4 0 0 s m args below meth c 2 T Po 0 [.ref (w.2.1 + a), zi v1] [] (T, M, J, R)
  refine q_aload_n C dX12_isNothing_0 (n := 1) rfl rfl ?_
  have g1 := zI.at hI (zM58 h0)
  refine q_getI C dX12_isNothing_1 (n := 4) rfl f_X12_355 (zM0 h0) (v := M a 23) rfl ?_
  refine q_iload_n C dX12_isNothing_4 (n := 5) rfl rfl ?_
  refine q_icmp_eq C 17 dX12_isNothing_5 (n := 8) rfl rfl (by omega) (fun h2 => ?_) (fun h2 => ?_)
  · refine q_iconst C dX12_isNothing_17 (n := 18) rfl ?_
    refine q_goto C 22 dX12_isNothing_18 rfl ?_
    exact q_zret C dX12_isNothing_22 ⟨rfl, rfl⟩ (by omega) (by rw [hPo]; exact ⟨1, M, J, rfl, rfl, hI, hK0, by omega⟩)
  · refine q_aload_n C dX12_isNothing_8 (n := 9) rfl rfl ?_
    refine q_iconst C dX12_isNothing_9 (n := 10) rfl ?_
    refine q_iload_n C dX12_isNothing_10 (n := 11) rfl rfl ?_
    refine q_callVi C dX12_isNothing_11 (n := 14) rfl m_X12_430 v_yX12_badToken (zM0 h0) ⟨by decide, rfl⟩ (c_X12_badToken (w := w) (J := J) hI hF h0 2 v1 (by omega) (by omega)) (Nat.le_of_ble_eq_true rfl) rfl rfl (Nat.le_of_ble_eq_true rfl) ⟨Nat.le_refl _, Nat.le_refl _⟩ (fun x9 M5 J6  hI7 h8 => ?_)
    obtain ⟨hk10, h3, h4⟩ := h8
    have hK11 := hK0.tr hk10 rfl rfl rfl
    refine q_if_eq C 21 dX12_isNothing_14 (n := 17) rfl rfl (by omega) (fun h12 => ?_) (fun h12 => ?_)
    · refine q_iconst C dX12_isNothing_21 (n := 22) rfl ?_
      exact q_zret C dX12_isNothing_22 ⟨rfl, rfl⟩ (by omega) (by rw [hPo]; exact ⟨0, M5, J6, rfl, rfl, hI7, hK11, by omega⟩)
    · refine q_iconst C dX12_isNothing_17 (n := 18) rfl ?_
      refine q_goto C 22 dX12_isNothing_18 rfl ?_
      exact q_zret C dX12_isNothing_22 ⟨rfl, rfl⟩ (by omega) (by rw [hPo]; exact ⟨1, M5, J6, rfl, rfl, hI7, hK11, by omega⟩)
theorem c_X12_clears {w : zWp} {T : zTl} {M : zMm} {J : zJm} {R : zRm'} {G : zGt} {F : zRm'} {a : Nat} (hI : zI G M) (hF : zF F R) (h0 : zModel T F G a) : zCt w 2 0 0 yX12_clears cX12_clears 2 none [.ref (w.2.1 + a)] (T, M, J, R) (zPv T R G (fun M2 => (zMd a [18] [62, 99, 100] [] M M2) ∧ (zMe M2 a) ∧ (M2 (a + 18) 3 = 0) ∧ (M2 a 99 = 0) ∧ (M2 a 100 = 0) ∧ (M2 a 62 = 0))) := by
  refine zCt.of rfl (Nat.le_of_ble_eq_true rfl) ?_
  intro p e s m args below meth c C
  obtain ⟨Po, hPo⟩ : ∃ Po, Po = zPv T R G (fun M2 => (zMd a [18] [62, 99, 100] [] M M2) ∧ (zMe M2 a) ∧ (M2 (a + 18) 3 = 0) ∧ (M2 a 99 = 0) ∧ (M2 a 100 = 0) ∧ (M2 a 62 = 0)) := ⟨_, rfl⟩
  rw [← hPo]
  have hK0 : zMd a [18] [62, 99, 100] [] M M := zMd.rf
  show zK w p e 2 0 0 s m args below meth c 2 T Po 0 [.ref (w.2.1 + a), .null] [] (T, M, J, R)
  refine q_iconst C dX12_clears_0 (n := 1) rfl ?_
  refine q_istore_n C [.ref (w.2.1 + a), zi 0] dX12_clears_1 (n := 2) rfl rfl rfl ?_
  have L_11 : ∀ n12 : Nat, ∀ (u1 : Int) (M3 : zMm) (J4 : zJm), zI G M3 → zMd a [18] [62, 99, 100] [] M M3 → zMd a [18] [] [] M M3 → (-2147483648 ≤ u1 ∧ u1 ≤ 2147483647) → (0 ≤ u1 ∧ u1 ≤ 1219) → (∀ j, 0 ≤ j → j < u1 → M3 (a + 18) j = 0) → (1219 - u1 + 1 ≤ (n12 : Int)) → zK w p e 2 0 0 s m args below meth c 2 T Po 2 [.ref (w.2.1 + a), zi u1] [] (T, M3, J4, R) := by
    intro n12
    induction n12 with
    | zero =>
      intro u1 M3 J4 hI5 hK6 hK7 h8 h9 h10 hm14
      exfalso
      omega
    | succ n12 ih13 =>
      intro u1 M3 J4 hI5 hK6 hK7 h8 h9 h10 hm14
      refine q_iload_n C dX12_clears_2 (n := 3) rfl rfl ?_
      refine q_sipush C dX12_clears_3 (n := 6) rfl (x := 1219) (by decide) ?_
      refine q_icmp_ge C 22 dX12_clears_6 (n := 9) rfl rfl (by omega) (fun h15 => ?_) (fun h15 => ?_)
      · refine q_aload_n C dX12_clears_22 (n := 23) rfl rfl ?_
        refine q_iconst C dX12_clears_23 (n := 24) rfl ?_
        refine q_iconst C dX12_clears_24 (n := 25) rfl ?_
        refine q_iconst C dX12_clears_25 (n := 26) rfl ?_
        refine q_iconst C dX12_clears_26 (n := 27) rfl ?_
        refine q_callVi C dX12_clears_27 (n := 30) rfl m_X12_373 v_yX12_bad (zM0 h0) ⟨by decide, rfl⟩ (c_X12_bad (w := w) (J := J4) hI5 hF h0 0 (-1) (-1) (-1) (by omega) (by omega) (by omega) (by omega)) (Nat.le_of_ble_eq_true rfl) rfl rfl (Nat.le_of_ble_eq_true rfl) ⟨Nat.le_refl _, Nat.le_refl _⟩ (fun x22 M18 J19  hI20 h21 => ?_)
        obtain ⟨hk23, h16, h17⟩ := h21
        have hK24 := hK6.tr hk23 rfl rfl rfl
        have hK25 := hK7.tr hk23 rfl rfl rfl
        refine q_pop C dX12_clears_30 (n := 31) rfl rfl ?_
        refine q_aload_n C dX12_clears_31 (n := 32) rfl rfl ?_
        refine q_iconst C dX12_clears_32 (n := 33) rfl ?_
        refine q_putI C dX12_clears_33 (n := 36) rfl f_X12_636 (zM0 h0) ⟨rfl, rfl⟩ (fun M26 (e27 : M26 = zup M18 a 99 0) => ?_)
        have hI28 : zI G M26 := hI20.put e27 (zM230 h0) rfl (by omega)
        have hK29 := hK24.upS e27 rfl
        refine q_aload_n C dX12_clears_36 (n := 37) rfl rfl ?_
        refine q_iconst C dX12_clears_37 (n := 38) rfl ?_
        refine q_putI C dX12_clears_38 (n := 41) rfl f_X12_639 (zM0 h0) ⟨rfl, rfl⟩ (fun M31 (e32 : M31 = zup M26 a 100 0) => ?_)
        have hI33 : zI G M31 := hI28.put e32 (zM231 h0) rfl (by omega)
        have hK34 := hK29.upS e32 rfl
        refine q_aload_n C dX12_clears_41 (n := 42) rfl rfl ?_
        refine q_iconst C dX12_clears_42 (n := 43) rfl ?_
        refine q_putI C dX12_clears_43 (n := 46) rfl f_X12_509 (zM0 h0) ⟨rfl, rfl⟩ (fun M35 (e36 : M35 = zup M31 a 62 0) => ?_)
        have hI37 : zI G M35 := hI33.put e36 (zM147 h0) rfl (by omega)
        have hK38 := hK34.upS e36 rfl
        exact q_vret C dX12_clears_46 ⟨rfl, rfl⟩ (by rw [hPo]; exact ⟨M35, J19, rfl, rfl, hI37, hK38, (zMe.zero (fun j j0 j1 => (((zup_p e36 (by omega) _).trans ((zup_p e32 (by omega) _).trans ((zup_p e27 (by omega) _).trans (hk23.getW rfl rfl (by omega)))))).trans (h10 j (by omega) (by omega)))), ((((zup_p e36 (by omega) _).trans ((zup_p e32 (by omega) _).trans ((zup_p e27 (by omega) _).trans (hk23.getP rfl rfl rfl))))).trans (h10 3 (by omega) (by omega))), by have hz39 : M35 a 99 = 0 := ((zup_n e36 (by omega)).trans ((zup_n e32 (by omega)).trans (zup_s e27))); omega, by have hz40 : M35 a 100 = 0 := ((zup_n e36 (by omega)).trans (zup_s e32)); omega, by have hz41 : M35 a 62 = 0 := (zup_s e36); omega⟩)
      · refine q_aload_n C dX12_clears_9 (n := 10) rfl rfl ?_
        refine q_getR C dX12_clears_10 (n := 13) rfl f_X12_68 (zM0 h0) (hF _ _ _ (zM65 h0)) ?_
        refine q_iload_n C dX12_clears_13 (n := 14) rfl rfl ?_
        refine q_iconst C dX12_clears_14 (n := 15) rfl ?_
        have gz := zwG_z u1
        refine q_iast C dX12_clears_15 (n := 16) rfl (zM66 h0) (by omega)  (fun M42 e43 => ?_)
        have hI44 : zI G M42 := hI5.put e43 (((zM67 h0) u1).trans (zwG_e u1)) rfl (by omega)
        have hK45 := hK6.upA e43 rfl
        have hK46 := hK7.upA e43 rfl
        refine q_iinc C [.ref (w.2.1 + a), zi (u1 + 1)] dX12_clears_16 (n := 19) rfl rfl rfl rfl ?_
        refine q_goto C 2 dX12_clears_19 rfl ?_
        exact zK.weak (ih13 (u1 + 1) M42 J4 hI44 hK45 hK46 (by omega) (by omega) (fun j j0 j1 => by by_cases q : j = u1; (rw [q]; exact zup_s e43); (exact (zup_n e43 (by omega)).trans (h10 j j0 (by omega)))) (by omega)) (zwk_c (zwk_c zwk_e))
  exact zK.weak (L_11 _ 0 M J hI hK0 (zMd.rf : zMd a [18] [] [] M M) (by omega) (by omega) (fun j j0 j1 => by omega) (Int.self_le_toNat _)) (zwk_c (zwk_c zwk_e))
theorem c_X12_tellsFault {w : zWp} {T : zTl} {M : zMm} {J : zJm} {R : zRm'} {G : zGt} {F : zRm'} {a : Nat} (hI : zI G M) (hF : zF F R) (h0 : zModel T F G a) : zCt w 1 0 0 yX12_tellsFault cX12_tellsFault 2 none [.ref (w.2.1 + a)] (T, M, J, R) (zPv T R G (fun M2 => (zMd a [68] [] [] M M2))) := by
  refine zCt.of rfl (Nat.le_of_ble_eq_true rfl) ?_
  intro p e s m args below meth c C
  obtain ⟨Po, hPo⟩ : ∃ Po, Po = zPv T R G (fun M2 => (zMd a [68] [] [] M M2)) := ⟨_, rfl⟩
  rw [← hPo]
  have hK0 : zMd a [68] [] [] M M := zMd.rf
  show zK w p e 1 0 0 s m args below meth c 2 T Po 0 [.ref (w.2.1 + a), .null] [] (T, M, J, R)
  refine q_iconst C dX12_tellsFault_0 (n := 1) rfl ?_
  refine q_istore_n C [.ref (w.2.1 + a), zi 0] dX12_tellsFault_1 (n := 2) rfl rfl rfl ?_
  have L_10 : ∀ n11 : Nat, ∀ (u1 : Int) (M3 : zMm) (J4 : zJm), zI G M3 → zMd a [68] [] [] M M3 → zMd a [68] [] [] M M3 → (-2147483648 ≤ u1 ∧ u1 ≤ 2147483647) → (0 ≤ u1 ∧ u1 ≤ 4) → (4 - u1 + 1 ≤ (n11 : Int)) → zK w p e 1 0 0 s m args below meth c 2 T Po 2 [.ref (w.2.1 + a), zi u1] [] (T, M3, J4, R) := by
    intro n11
    induction n11 with
    | zero =>
      intro u1 M3 J4 hI5 hK6 hK7 h8 h9 hm13
      exfalso
      omega
    | succ n11 ih12 =>
      intro u1 M3 J4 hI5 hK6 hK7 h8 h9 hm13
      refine q_iload_n C dX12_tellsFault_2 (n := 3) rfl rfl ?_
      refine q_iconst C dX12_tellsFault_3 (n := 4) rfl ?_
      refine q_icmp_ge C 28 dX12_tellsFault_4 (n := 7) rfl rfl (by omega) (fun h14 => ?_) (fun h14 => ?_)
      · exact q_vret C dX12_tellsFault_28 ⟨rfl, rfl⟩ (by rw [hPo]; exact ⟨M3, J4, rfl, rfl, hI5, hK6⟩)
      · refine q_aload_n C dX12_tellsFault_7 (n := 8) rfl rfl ?_
        refine q_getR C dX12_tellsFault_8 (n := 11) rfl f_X12_221 (zM0 h0) (hF _ _ _ (zM233 h0)) ?_
        refine q_iload_n C dX12_tellsFault_11 (n := 12) rfl rfl ?_
        refine q_aload_n C dX12_tellsFault_12 (n := 13) rfl rfl ?_
        refine q_getR C dX12_tellsFault_13 (n := 16) rfl f_X12_68 (zM0 h0) (hF _ _ _ (zM65 h0)) ?_
        refine q_bipush C dX12_tellsFault_16 (n := 18) rfl (x := 11) (by decide) ?_
        refine q_iload_n C dX12_tellsFault_18 (n := 19) rfl rfl ?_
        refine q_iadd C dX12_tellsFault_19 (n := 20) rfl (v := 11 + u1) rfl ?_
        have g15 := zI.at hI (((zM67 h0) (11 + u1)).trans (zwG_1 (by omega)))
        refine q_iald C dX12_tellsFault_20 (n := 21) rfl (zM66 h0) (by omega) (v := M (a + 18) (11 + u1)) (hK7.getA rfl rfl rfl) ?_
        refine q_iast C dX12_tellsFault_21 (n := 22) rfl (zM234 h0) (by omega)  (fun M16 e17 => ?_)
        have hI18 : zI G M16 := hI5.put e17 ((zM235 h0) u1) rfl (by omega)
        have hK19 := hK6.upA e17 rfl
        have hK20 := hK7.upA e17 rfl
        refine q_iinc C [.ref (w.2.1 + a), zi (u1 + 1)] dX12_tellsFault_22 (n := 25) rfl rfl rfl rfl ?_
        refine q_goto C 2 dX12_tellsFault_25 rfl ?_
        exact zK.weak (ih12 (u1 + 1) M16 J4 hI18 hK19 hK20 (by omega) (by omega) (by omega)) (zwk_c (zwk_c zwk_e))
  exact zK.weak (L_10 _ 0 M J hI hK0 (zMd.rf : zMd a [68] [] [] M M) (by omega) (by omega) (Int.self_le_toNat _)) (zwk_c (zwk_c zwk_e))
theorem c_X12_tellsTokens {w : zWp} {T : zTl} {M : zMm} {J : zJm} {R : zRm'} {G : zGt} {F : zRm'} {a : Nat} (hI : zI G M) (hF : zF F R) (h0 : zModel T F G a) (v1 : Int) (p1 : 0 ≤ v1 ∧ v1 ≤ 3500) : zCt w 1 0 0 yX12_tellsTokens cX12_tellsTokens 4 none [.ref (w.2.1 + a), zi v1] (T, M, J, R) (zPv T R G (fun M2 => (zMd a [69, 70, 71, 72, 73, 74, 75, 76, 77] [112] [] M M2))) := by
  refine zCt.of rfl (Nat.le_of_ble_eq_true rfl) ?_
  intro p e s m args below meth c C
  obtain ⟨Po, hPo⟩ : ∃ Po, Po = zPv T R G (fun M2 => (zMd a [69, 70, 71, 72, 73, 74, 75, 76, 77] [112] [] M M2)) := ⟨_, rfl⟩
  rw [← hPo]
  have hK0 : zMd a [69, 70, 71, 72, 73, 74, 75, 76, 77] [112] [] M M := zMd.rf
  show zK w p e 1 0 0 s m args below meth c 4 T Po 0 [.ref (w.2.1 + a), zi v1, .null, .null] [] (T, M, J, R)
  refine q_aload_n C dX12_tellsTokens_0 (n := 1) rfl rfl ?_
  refine q_iload_n C dX12_tellsTokens_1 (n := 2) rfl rfl ?_
  refine q_putI C dX12_tellsTokens_2 (n := 5) rfl f_X12_700 (zM0 h0) ⟨rfl, rfl⟩ (fun M1 (e2 : M1 = zup M a 112 v1) => ?_)
  have hI3 : zI G M1 := hI.put e2 (zM263 h0) rfl (by omega)
  have hK4 := hK0.upS e2 rfl
  refine q_iconst C dX12_tellsTokens_5 (n := 6) rfl ?_
  refine q_istore_n C [.ref (w.2.1 + a), zi v1, zi 0, .null] dX12_tellsTokens_6 (n := 7) rfl rfl rfl ?_
  have L_14 : ∀ n15 : Nat, ∀ (u5 : Int) (M7 : zMm) (J8 : zJm), zI G M7 → zMd a [69, 70, 71, 72, 73, 74, 75, 76, 77] [112] [] M M7 → zMd a [69, 70, 71, 72, 73, 74, 75, 76, 77] [] [] M1 M7 → (-2147483648 ≤ u5 ∧ u5 ≤ 2147483647) → (0 ≤ u5 ∧ u5 ≤ v1) → (v1 - u5 + 1 ≤ (n15 : Int)) → zK w p e 1 0 0 s m args below meth c 4 T Po 7 [.ref (w.2.1 + a), zi v1, zi u5, .null] [] (T, M7, J8, R) := by
    intro n15
    induction n15 with
    | zero =>
      intro u5 M7 J8 hI9 hK10 hK11 h12 h13 hm17
      exfalso
      omega
    | succ n15 ih16 =>
      intro u5 M7 J8 hI9 hK10 hK11 h12 h13 hm17
      refine q_iload_n C dX12_tellsTokens_7 (n := 8) rfl rfl ?_
      refine q_iload_n C dX12_tellsTokens_8 (n := 9) rfl rfl ?_
      refine q_icmp_ge C 158 dX12_tellsTokens_9 (n := 12) rfl rfl (by omega) (fun h18 => ?_) (fun h18 => ?_)
      · exact q_vret C dX12_tellsTokens_158 ⟨rfl, rfl⟩ (by rw [hPo]; exact ⟨M7, J8, rfl, rfl, hI9, hK10⟩)
      · refine q_aload_n C dX12_tellsTokens_12 (n := 13) rfl rfl ?_
        refine q_getR C dX12_tellsTokens_13 (n := 16) rfl f_X12_224 (zM0 h0) (hF _ _ _ (zM236 h0)) ?_
        refine q_iload_n C dX12_tellsTokens_16 (n := 17) rfl rfl ?_
        refine q_aload_n C dX12_tellsTokens_17 (n := 18) rfl rfl ?_
        refine q_getR C dX12_tellsTokens_18 (n := 21) rfl f_X12_193 (zM0 h0) (hF _ _ _ (zM203 h0)) ?_
        refine q_iload_n C dX12_tellsTokens_21 (n := 22) rfl rfl ?_
        have g19 := zI.at hI ((zM205 h0) u5)
        refine q_iald C dX12_tellsTokens_22 (n := 23) rfl (zM204 h0) (by omega) (v := M (a + 59) u5) ((hK11.getA rfl rfl rfl).trans (zup_p e2 (by omega) _)) ?_
        refine q_iast C dX12_tellsTokens_23 (n := 24) rfl (zM237 h0) (by omega)  (fun M20 e21 => ?_)
        have hI22 : zI G M20 := hI9.put e21 ((zM238 h0) u5) rfl (by omega)
        have hK23 := hK10.upA e21 rfl
        have hK24 := hK11.upA e21 rfl
        refine q_aload_n C dX12_tellsTokens_24 (n := 25) rfl rfl ?_
        refine q_getR C dX12_tellsTokens_25 (n := 28) rfl f_X12_227 (zM0 h0) (hF _ _ _ (zM239 h0)) ?_
        refine q_iload_n C dX12_tellsTokens_28 (n := 29) rfl rfl ?_
        refine q_aload_n C dX12_tellsTokens_29 (n := 30) rfl rfl ?_
        refine q_getR C dX12_tellsTokens_30 (n := 33) rfl f_X12_196 (zM0 h0) (hF _ _ _ (zM206 h0)) ?_
        refine q_iload_n C dX12_tellsTokens_33 (n := 34) rfl rfl ?_
        have g25 := zI.at hI ((zM208 h0) u5)
        refine q_iald C dX12_tellsTokens_34 (n := 35) rfl (zM207 h0) (by omega) (v := M (a + 60) u5) ((zup_p e21 (by omega) _).trans ((hK11.getA rfl rfl rfl).trans (zup_p e2 (by omega) _))) ?_
        refine q_iast C dX12_tellsTokens_35 (n := 36) rfl (zM240 h0) (by omega)  (fun M26 e27 => ?_)
        have hI28 : zI G M26 := hI22.put e27 ((zM241 h0) u5) rfl (by omega)
        have hK29 := hK23.upA e27 rfl
        have hK30 := hK24.upA e27 rfl
        refine q_aload_n C dX12_tellsTokens_36 (n := 37) rfl rfl ?_
        refine q_getR C dX12_tellsTokens_37 (n := 40) rfl f_X12_230 (zM0 h0) (hF _ _ _ (zM242 h0)) ?_
        refine q_iload_n C dX12_tellsTokens_40 (n := 41) rfl rfl ?_
        refine q_aload_n C dX12_tellsTokens_41 (n := 42) rfl rfl ?_
        refine q_getR C dX12_tellsTokens_42 (n := 45) rfl f_X12_199 (zM0 h0) (hF _ _ _ (zM209 h0)) ?_
        refine q_iload_n C dX12_tellsTokens_45 (n := 46) rfl rfl ?_
        have g31 := zI.at hI ((zM211 h0) u5)
        refine q_iald C dX12_tellsTokens_46 (n := 47) rfl (zM210 h0) (by omega) (v := M (a + 61) u5) ((zup_p e27 (by omega) _).trans ((zup_p e21 (by omega) _).trans ((hK11.getA rfl rfl rfl).trans (zup_p e2 (by omega) _)))) ?_
        refine q_iast C dX12_tellsTokens_47 (n := 48) rfl (zM243 h0) (by omega)  (fun M32 e33 => ?_)
        have hI34 : zI G M32 := hI28.put e33 ((zM244 h0) u5) rfl (by omega)
        have hK35 := hK29.upA e33 rfl
        have hK36 := hK30.upA e33 rfl
        refine q_aload_n C dX12_tellsTokens_48 (n := 49) rfl rfl ?_
        refine q_getR C dX12_tellsTokens_49 (n := 52) rfl f_X12_233 (zM0 h0) (hF _ _ _ (zM245 h0)) ?_
        refine q_iload_n C dX12_tellsTokens_52 (n := 53) rfl rfl ?_
        refine q_aload_n C dX12_tellsTokens_53 (n := 54) rfl rfl ?_
        refine q_getR C dX12_tellsTokens_54 (n := 57) rfl f_X12_202 (zM0 h0) (hF _ _ _ (zM212 h0)) ?_
        refine q_iload_n C dX12_tellsTokens_57 (n := 58) rfl rfl ?_
        have g37 := zI.at hI ((zM214 h0) u5)
        refine q_iald C dX12_tellsTokens_58 (n := 59) rfl (zM213 h0) (by omega) (v := M (a + 62) u5) ((zup_p e33 (by omega) _).trans ((zup_p e27 (by omega) _).trans ((zup_p e21 (by omega) _).trans ((hK11.getA rfl rfl rfl).trans (zup_p e2 (by omega) _))))) ?_
        refine q_iast C dX12_tellsTokens_59 (n := 60) rfl (zM246 h0) (by omega)  (fun M38 e39 => ?_)
        have hI40 : zI G M38 := hI34.put e39 ((zM247 h0) u5) rfl (by omega)
        have hK41 := hK35.upA e39 rfl
        have hK42 := hK36.upA e39 rfl
        refine q_aload_n C dX12_tellsTokens_60 (n := 61) rfl rfl ?_
        refine q_getR C dX12_tellsTokens_61 (n := 64) rfl f_X12_236 (zM0 h0) (hF _ _ _ (zM248 h0)) ?_
        refine q_iload_n C dX12_tellsTokens_64 (n := 65) rfl rfl ?_
        refine q_aload_n C dX12_tellsTokens_65 (n := 66) rfl rfl ?_
        refine q_getR C dX12_tellsTokens_66 (n := 69) rfl f_X12_205 (zM0 h0) (hF _ _ _ (zM215 h0)) ?_
        refine q_iload_n C dX12_tellsTokens_69 (n := 70) rfl rfl ?_
        have g43 := zI.at hI ((zM217 h0) u5)
        refine q_iald C dX12_tellsTokens_70 (n := 71) rfl (zM216 h0) (by omega) (v := M (a + 63) u5) ((zup_p e39 (by omega) _).trans ((zup_p e33 (by omega) _).trans ((zup_p e27 (by omega) _).trans ((zup_p e21 (by omega) _).trans ((hK11.getA rfl rfl rfl).trans (zup_p e2 (by omega) _)))))) ?_
        refine q_iast C dX12_tellsTokens_71 (n := 72) rfl (zM249 h0) (by omega)  (fun M44 e45 => ?_)
        have hI46 : zI G M44 := hI40.put e45 ((zM250 h0) u5) rfl (by omega)
        have hK47 := hK41.upA e45 rfl
        have hK48 := hK42.upA e45 rfl
        refine q_aload_n C dX12_tellsTokens_72 (n := 73) rfl rfl ?_
        refine q_getR C dX12_tellsTokens_73 (n := 76) rfl f_X12_239 (zM0 h0) (hF _ _ _ (zM251 h0)) ?_
        refine q_iload_n C dX12_tellsTokens_76 (n := 77) rfl rfl ?_
        refine q_aload_n C dX12_tellsTokens_77 (n := 78) rfl rfl ?_
        refine q_getR C dX12_tellsTokens_78 (n := 81) rfl f_X12_208 (zM0 h0) (hF _ _ _ (zM218 h0)) ?_
        refine q_iload_n C dX12_tellsTokens_81 (n := 82) rfl rfl ?_
        have g49 := zI.at hI ((zM220 h0) u5)
        refine q_iald C dX12_tellsTokens_82 (n := 83) rfl (zM219 h0) (by omega) (v := M (a + 64) u5) ((zup_p e45 (by omega) _).trans ((zup_p e39 (by omega) _).trans ((zup_p e33 (by omega) _).trans ((zup_p e27 (by omega) _).trans ((zup_p e21 (by omega) _).trans ((hK11.getA rfl rfl rfl).trans (zup_p e2 (by omega) _))))))) ?_
        refine q_iast C dX12_tellsTokens_83 (n := 84) rfl (zM252 h0) (by omega)  (fun M50 e51 => ?_)
        have hI52 : zI G M50 := hI46.put e51 ((zM253 h0) u5) rfl (by omega)
        have hK53 := hK47.upA e51 rfl
        have hK54 := hK48.upA e51 rfl
        refine q_aload_n C dX12_tellsTokens_84 (n := 85) rfl rfl ?_
        refine q_getR C dX12_tellsTokens_85 (n := 88) rfl f_X12_242 (zM0 h0) (hF _ _ _ (zM254 h0)) ?_
        refine q_iload_n C dX12_tellsTokens_88 (n := 89) rfl rfl ?_
        refine q_aload_n C dX12_tellsTokens_89 (n := 90) rfl rfl ?_
        refine q_getR C dX12_tellsTokens_90 (n := 93) rfl f_X12_211 (zM0 h0) (hF _ _ _ (zM221 h0)) ?_
        refine q_iload_n C dX12_tellsTokens_93 (n := 94) rfl rfl ?_
        have g55 := zI.at hI ((zM223 h0) u5)
        refine q_iald C dX12_tellsTokens_94 (n := 95) rfl (zM222 h0) (by omega) (v := M (a + 65) u5) ((zup_p e51 (by omega) _).trans ((zup_p e45 (by omega) _).trans ((zup_p e39 (by omega) _).trans ((zup_p e33 (by omega) _).trans ((zup_p e27 (by omega) _).trans ((zup_p e21 (by omega) _).trans ((hK11.getA rfl rfl rfl).trans (zup_p e2 (by omega) _)))))))) ?_
        refine q_iast C dX12_tellsTokens_95 (n := 96) rfl (zM255 h0) (by omega)  (fun M56 e57 => ?_)
        have hI58 : zI G M56 := hI52.put e57 ((zM256 h0) u5) rfl (by omega)
        have hK59 := hK53.upA e57 rfl
        have hK60 := hK54.upA e57 rfl
        refine q_aload_n C dX12_tellsTokens_96 (n := 97) rfl rfl ?_
        refine q_getR C dX12_tellsTokens_97 (n := 100) rfl f_X12_245 (zM0 h0) (hF _ _ _ (zM257 h0)) ?_
        refine q_iload_n C dX12_tellsTokens_100 (n := 101) rfl rfl ?_
        refine q_aload_n C dX12_tellsTokens_101 (n := 102) rfl rfl ?_
        refine q_getR C dX12_tellsTokens_102 (n := 105) rfl f_X12_214 (zM0 h0) (hF _ _ _ (zM224 h0)) ?_
        refine q_iload_n C dX12_tellsTokens_105 (n := 106) rfl rfl ?_
        have g61 := zI.at hI ((zM226 h0) u5)
        refine q_iald C dX12_tellsTokens_106 (n := 107) rfl (zM225 h0) (by omega) (v := M (a + 66) u5) ((zup_p e57 (by omega) _).trans ((zup_p e51 (by omega) _).trans ((zup_p e45 (by omega) _).trans ((zup_p e39 (by omega) _).trans ((zup_p e33 (by omega) _).trans ((zup_p e27 (by omega) _).trans ((zup_p e21 (by omega) _).trans ((hK11.getA rfl rfl rfl).trans (zup_p e2 (by omega) _))))))))) ?_
        refine q_iast C dX12_tellsTokens_107 (n := 108) rfl (zM258 h0) (by omega)  (fun M62 e63 => ?_)
        have hI64 : zI G M62 := hI58.put e63 ((zM259 h0) u5) rfl (by omega)
        have hK65 := hK59.upA e63 rfl
        have hK66 := hK60.upA e63 rfl
        refine q_iconst C dX12_tellsTokens_108 (n := 109) rfl ?_
        refine q_istore_n C [.ref (w.2.1 + a), zi v1, zi u5, zi 0] dX12_tellsTokens_109 (n := 110) rfl rfl rfl ?_
        have L_77 : ∀ n78 : Nat, ∀ (u67 : Int) (M69 : zMm) (J70 : zJm), zI G M69 → zMd a [69, 70, 71, 72, 73, 74, 75, 76, 77] [112] [] M M69 → zMd a [69, 70, 71, 72, 73, 74, 75, 76, 77] [] [] M1 M69 → zMd a [77] [] [] M62 M69 → (-2147483648 ≤ u67 ∧ u67 ≤ 2147483647) → (0 ≤ u67 ∧ u67 ≤ 30) → (30 - u67 + 1 ≤ (n78 : Int)) → zK w p e 1 0 0 s m args below meth c 4 T Po 110 [.ref (w.2.1 + a), zi v1, zi u5, zi u67] [] (T, M69, J70, R) := by
          intro n78
          induction n78 with
          | zero =>
            intro u67 M69 J70 hI71 hK72 hK73 hK74 h75 h76 hm80
            exfalso
            omega
          | succ n78 ih79 =>
            intro u67 M69 J70 hI71 hK72 hK73 hK74 h75 h76 hm80
            refine q_iload_n C dX12_tellsTokens_110 (n := 111) rfl rfl ?_
            refine q_aload_n C dX12_tellsTokens_111 (n := 112) rfl rfl ?_
            refine q_getR C dX12_tellsTokens_112 (n := 115) rfl f_X12_199 (zM0 h0) (hF _ _ _ (zM209 h0)) ?_
            refine q_iload_n C dX12_tellsTokens_115 (n := 116) rfl rfl ?_
            refine q_iald C dX12_tellsTokens_116 (n := 117) rfl (zM210 h0) (by omega) (v := M (a + 61) u5) ((hK74.getA rfl rfl rfl).trans ((zup_p e63 (by omega) _).trans ((zup_p e57 (by omega) _).trans ((zup_p e51 (by omega) _).trans ((zup_p e45 (by omega) _).trans ((zup_p e39 (by omega) _).trans ((zup_p e33 (by omega) _).trans ((zup_p e27 (by omega) _).trans ((zup_p e21 (by omega) _).trans ((hK11.getA rfl rfl rfl).trans (zup_p e2 (by omega) _))))))))))) ?_
            refine q_icmp_ge C 152 dX12_tellsTokens_117 (n := 120) rfl rfl (by omega) (fun h81 => ?_) (fun h81 => ?_)
            · refine q_iinc C [.ref (w.2.1 + a), zi v1, zi (u5 + 1), zi u67] dX12_tellsTokens_152 (n := 155) rfl rfl rfl rfl ?_
              refine q_goto C 7 dX12_tellsTokens_155 rfl ?_
              exact zK.weak (ih16 (u5 + 1) M69 J70 hI71 hK72 hK73 (by omega) (by omega) (by omega)) (zwk_c (zwk_c (zwk_c (zwk_n zwk_e))))
            · refine q_aload_n C dX12_tellsTokens_120 (n := 121) rfl rfl ?_
              refine q_getR C dX12_tellsTokens_121 (n := 124) rfl f_X12_248 (zM0 h0) (hF _ _ _ (zM260 h0)) ?_
              refine q_aload_n C dX12_tellsTokens_124 (n := 125) rfl rfl ?_
              refine q_getR C dX12_tellsTokens_125 (n := 128) rfl f_X12_196 (zM0 h0) (hF _ _ _ (zM206 h0)) ?_
              refine q_iload_n C dX12_tellsTokens_128 (n := 129) rfl rfl ?_
              refine q_iald C dX12_tellsTokens_129 (n := 130) rfl (zM207 h0) (by omega) (v := M (a + 60) u5) ((hK74.getA rfl rfl rfl).trans ((zup_p e63 (by omega) _).trans ((zup_p e57 (by omega) _).trans ((zup_p e51 (by omega) _).trans ((zup_p e45 (by omega) _).trans ((zup_p e39 (by omega) _).trans ((zup_p e33 (by omega) _).trans ((zup_p e27 (by omega) _).trans ((zup_p e21 (by omega) _).trans ((hK11.getA rfl rfl rfl).trans (zup_p e2 (by omega) _))))))))))) ?_
              refine q_iload_n C dX12_tellsTokens_130 (n := 131) rfl rfl ?_
              refine q_iadd C dX12_tellsTokens_131 (n := 132) rfl (v := (M (a + 60) u5) + u67) rfl ?_
              refine q_aload_n C dX12_tellsTokens_132 (n := 133) rfl rfl ?_
              refine q_getR C dX12_tellsTokens_133 (n := 136) rfl f_X12_218 (zM0 h0) (hF _ _ _ (zM227 h0)) ?_
              refine q_aload_n C dX12_tellsTokens_136 (n := 137) rfl rfl ?_
              refine q_getR C dX12_tellsTokens_137 (n := 140) rfl f_X12_196 (zM0 h0) (hF _ _ _ (zM206 h0)) ?_
              refine q_iload_n C dX12_tellsTokens_140 (n := 141) rfl rfl ?_
              refine q_iald C dX12_tellsTokens_141 (n := 142) rfl (zM207 h0) (by omega) (v := M (a + 60) u5) ((hK74.getA rfl rfl rfl).trans ((zup_p e63 (by omega) _).trans ((zup_p e57 (by omega) _).trans ((zup_p e51 (by omega) _).trans ((zup_p e45 (by omega) _).trans ((zup_p e39 (by omega) _).trans ((zup_p e33 (by omega) _).trans ((zup_p e27 (by omega) _).trans ((zup_p e21 (by omega) _).trans ((hK11.getA rfl rfl rfl).trans (zup_p e2 (by omega) _))))))))))) ?_
              refine q_iload_n C dX12_tellsTokens_142 (n := 143) rfl rfl ?_
              refine q_iadd C dX12_tellsTokens_143 (n := 144) rfl (v := (M (a + 60) u5) + u67) rfl ?_
              have g82 := zI.at hI ((zM229 h0) ((M (a + 60) u5) + u67))
              refine q_bald C dX12_tellsTokens_144 (n := 145) rfl (zM228 h0) (by omega) (v := M (a + 67) ((M (a + 60) u5) + u67)) ((hK74.getA rfl rfl rfl).trans ((zup_p e63 (by omega) _).trans ((zup_p e57 (by omega) _).trans ((zup_p e51 (by omega) _).trans ((zup_p e45 (by omega) _).trans ((zup_p e39 (by omega) _).trans ((zup_p e33 (by omega) _).trans ((zup_p e27 (by omega) _).trans ((zup_p e21 (by omega) _).trans ((hK11.getA rfl rfl rfl).trans (zup_p e2 (by omega) _))))))))))) ?_
              refine q_bast C dX12_tellsTokens_145 (n := 146) rfl (zM261 h0) (by omega) (by omega) (fun M83 e84 => ?_)
              have hI85 : zI G M83 := hI71.put e84 ((zM262 h0) ((M (a + 60) u5) + u67)) rfl (by omega)
              have hK86 := hK72.upA e84 rfl
              have hK87 := hK73.upA e84 rfl
              have hK88 := hK74.upA e84 rfl
              refine q_iinc C [.ref (w.2.1 + a), zi v1, zi u5, zi (u67 + 1)] dX12_tellsTokens_146 (n := 149) rfl rfl rfl rfl ?_
              refine q_goto C 110 dX12_tellsTokens_149 rfl ?_
              exact zK.weak (ih79 (u67 + 1) M83 J70 hI85 hK86 hK87 hK88 (by omega) (by omega) (by omega)) (zwk_c (zwk_c (zwk_c (zwk_c zwk_e))))
        exact zK.weak (L_77 _ 0 M62 J8 hI64 hK65 hK66 (zMd.rf : zMd a [77] [] [] M62 M62) (by omega) (by omega) (Int.self_le_toNat _)) (zwk_c (zwk_c (zwk_c (zwk_c zwk_e))))
  exact zK.weak (L_14 _ 0 M1 J hI3 hK4 (zMd.rf : zMd a [69, 70, 71, 72, 73, 74, 75, 76, 77] [] [] M1 M1) (by omega) (by omega) (Int.self_le_toNat _)) (zwk_c (zwk_c (zwk_c (zwk_n zwk_e))))
theorem c_X12_fault {w : zWp} {T : zTl} {M : zMm} {J : zJm} {R : zRm'} {G : zGt} {F : zRm'} {a : Nat} (hI : zI G M) (hF : zF F R) (h0 : zModel T F G a) (v1 : Int) (p1 : -2147483648 ≤ v1 ∧ v1 ≤ 2147483647) : zCt w 2 0 0 yX12_fault cX12_fault 2 (some .int) [.ref (w.2.1 + a), zi v1] (T, M, J, R) (zPi T R G (fun x M2 => (zMd a [] [0] [] M M2))) := by
  refine zCt.of rfl (Nat.le_of_ble_eq_true rfl) ?_
  intro p e s m args below meth c C
  obtain ⟨Po, hPo⟩ : ∃ Po, Po = zPi T R G (fun x M2 => (zMd a [] [0] [] M M2)) := ⟨_, rfl⟩
  rw [← hPo]
  have hK0 : zMd a [] [0] [] M M := zMd.rf
  show zK w p e 2 0 0 s m args below meth c 2 T Po 0 [.ref (w.2.1 + a), zi v1] [] (T, M, J, R)
  refine q_aload_n C dX12_fault_0 (n := 1) rfl rfl ?_
  refine q_iconst C dX12_fault_1 (n := 2) rfl ?_
  refine q_putI C dX12_fault_2 (n := 5) rfl f_X12_1 (zM0 h0) ⟨rfl, rfl⟩ (fun M1 (e2 : M1 = zup M a 0 0) => ?_)
  have hI3 : zI G M1 := hI.put e2 (zM1 h0) rfl (by omega)
  have hK4 := hK0.upS e2 rfl
  refine q_iload_n C dX12_fault_5 (n := 6) rfl rfl ?_
  refine q_if_ne C 16 dX12_fault_6 (n := 9) rfl rfl (by omega) (fun h5 => ?_) (fun h5 => ?_)
  · refine q_iload_n C dX12_fault_16 (n := 17) rfl rfl ?_
    refine q_iconst C dX12_fault_17 (n := 18) rfl ?_
    refine q_iconst C dX12_fault_18 (n := 19) rfl ?_
    refine q_callSp C dX12_fault_19 (n := 22) rfl m_X12_277 s_yX12_isIn (c_X12_isIn (w := w) (J := J) hI3 hF v1 1 3 (by omega) (by omega) (by omega)) (Nat.le_of_ble_eq_true rfl) rfl rfl (Nat.le_of_ble_eq_true rfl) ⟨Nat.le_refl _, Nat.le_refl _⟩ (fun x9 h10 => ?_)
    obtain ⟨h6, h7, h8⟩ := h10
    refine q_if_eq C 34 dX12_fault_22 (n := 25) rfl rfl (by omega) (fun h11 => ?_) (fun h11 => ?_)
    · refine q_iconst C dX12_fault_34 (n := 35) rfl ?_
      refine q_goto C 44 dX12_fault_35 rfl ?_
      exact q_iret C dX12_fault_44 ⟨rfl, rfl⟩ (by rw [hPo]; exact ⟨(-1), M1, J, rfl, rfl, hI3, hK4⟩)
    · refine q_aload_n C dX12_fault_25 (n := 26) rfl rfl ?_
      refine q_getR C dX12_fault_26 (n := 29) rfl f_X12_221 (zM0 h0) (hF _ _ _ (zM233 h0)) ?_
      refine q_iconst C dX12_fault_29 (n := 30) rfl ?_
      have g12 := zI.at hI ((zM235 h0) 0)
      refine q_iald C dX12_fault_30 (n := 31) rfl (zM234 h0) (by omega) (v := M (a + 68) 0) (zup_p e2 (by omega) _) ?_
      refine q_if_ne C 38 dX12_fault_31 (n := 34) rfl rfl (by omega) (fun h13 => ?_) (fun h13 => ?_)
      · refine q_aload_n C dX12_fault_38 (n := 39) rfl rfl ?_
        refine q_getR C dX12_fault_39 (n := 42) rfl f_X12_221 (zM0 h0) (hF _ _ _ (zM233 h0)) ?_
        refine q_iload_n C dX12_fault_42 (n := 43) rfl rfl ?_
        have g14 := zI.at hI ((zM235 h0) v1)
        refine q_iald C dX12_fault_43 (n := 44) rfl (zM234 h0) (by omega) (v := M (a + 68) v1) (zup_p e2 (by omega) _) ?_
        exact q_iret C dX12_fault_44 ⟨rfl, rfl⟩ (by rw [hPo]; exact ⟨M (a + 68) v1, M1, J, rfl, rfl, hI3, hK4⟩)
      · refine q_iconst C dX12_fault_34 (n := 35) rfl ?_
        refine q_goto C 44 dX12_fault_35 rfl ?_
        exact q_iret C dX12_fault_44 ⟨rfl, rfl⟩ (by rw [hPo]; exact ⟨(-1), M1, J, rfl, rfl, hI3, hK4⟩)
  · refine q_aload_n C dX12_fault_9 (n := 10) rfl rfl ?_
    refine q_getR C dX12_fault_10 (n := 13) rfl f_X12_221 (zM0 h0) (hF _ _ _ (zM233 h0)) ?_
    refine q_iconst C dX12_fault_13 (n := 14) rfl ?_
    have g15 := zI.at hI ((zM235 h0) 0)
    refine q_iald C dX12_fault_14 (n := 15) rfl (zM234 h0) (by omega) (v := M (a + 68) 0) (zup_p e2 (by omega) _) ?_
    exact q_iret C dX12_fault_15 ⟨rfl, rfl⟩ (by rw [hPo]; exact ⟨M (a + 68) 0, M1, J, rfl, rfl, hI3, hK4⟩)
theorem c_X12_token {w : zWp} {T : zTl} {M : zMm} {J : zJm} {R : zRm'} {G : zGt} {F : zRm'} {a : Nat} (hI : zI G M) (hF : zF F R) (h0 : zModel T F G a) (v1 : Int) (v2 : Int) (p1 : -2147483648 ≤ v1 ∧ v1 ≤ 2147483647) (p2 : -2147483648 ≤ v2 ∧ v2 ≤ 2147483647) : zCt w 2 0 0 yX12_token cX12_token 3 (some .int) [.ref (w.2.1 + a), zi v1, zi v2] (T, M, J, R) (zPi T R G (fun x M2 => (zMd a [] [0] [] M M2))) := by
  refine zCt.of rfl (Nat.le_of_ble_eq_true rfl) ?_
  intro p e s m args below meth c C
  obtain ⟨Po, hPo⟩ : ∃ Po, Po = zPi T R G (fun x M2 => (zMd a [] [0] [] M M2)) := ⟨_, rfl⟩
  rw [← hPo]
  have hK0 : zMd a [] [0] [] M M := zMd.rf
  show zK w p e 2 0 0 s m args below meth c 3 T Po 0 [.ref (w.2.1 + a), zi v1, zi v2] [] (T, M, J, R)
  refine q_aload_n C dX12_token_0 (n := 1) rfl rfl ?_
  refine q_iload_n C dX12_token_1 (n := 2) rfl rfl ?_
  refine q_iconst C dX12_token_2 (n := 3) rfl ?_
  refine q_aload_n C dX12_token_3 (n := 4) rfl rfl ?_
  have g1 := zI.at hI (zM263 h0)
  refine q_getI C dX12_token_4 (n := 7) rfl f_X12_700 (zM0 h0) (v := M a 112) rfl ?_
  refine q_iconst C dX12_token_7 (n := 8) rfl ?_
  refine q_isub C dX12_token_8 (n := 9) rfl (v := (M a 112) - 1) rfl ?_
  refine q_callSp C dX12_token_9 (n := 12) rfl m_X12_277 s_yX12_isIn (c_X12_isIn (w := w) (J := J) hI hF v1 0 ((M a 112) - 1) (by omega) (by omega) (by omega)) (Nat.le_of_ble_eq_true rfl) rfl rfl (Nat.le_of_ble_eq_true rfl) ⟨Nat.le_refl _, Nat.le_refl _⟩ (fun x5 h6 => ?_)
  obtain ⟨h2, h3, h4⟩ := h6
  have J_11 : ∀ (u7 : Int), (-2147483648 ≤ u7 ∧ u7 ≤ 2147483647) → (u7 = 0 ∨ u7 = 1) → (u7 = 1 ∨ 0 ≤ v1 ∧ v1 ≤ M a 112 - 1 ∧ 0 ≤ v2 ∧ v2 ≤ 6) → zK w p e 2 0 0 s m args below meth c 3 T Po 30 [.ref (w.2.1 + a), zi v1, zi v2] [zi u7, .ref (w.2.1 + a)] (T, M, J, R) := by
    intro u7 h8 h9 h10
    refine q_callVi C dX12_token_30 (n := 33) rfl m_X12_718 v_yX12_throwsIf (zM0 h0) ⟨by decide, rfl⟩ (c_X12_throwsIf (w := w) (J := J) hI hF h0 u7 (by omega)) (Nat.le_of_ble_eq_true rfl) rfl rfl (Nat.le_of_ble_eq_true rfl) ⟨Nat.le_refl _, Nat.le_refl _⟩ (fun x18 M14 J15  hI16 h17 => ?_)
    obtain ⟨hk19, h12, h13⟩ := h17
    have hK20 := hK0.tr hk19 rfl rfl rfl
    refine q_if_eq C 38 dX12_token_33 (n := 36) rfl rfl (by omega) (fun h21 => ?_) (fun h21 => ?_)
    · refine q_iload_n C dX12_token_38 (n := 39) rfl rfl ?_
      by_cases h22 : v2 = 0
      · refine q_tabIn C 76 dX12_token_39 h22 (by omega) rfl rfl ?_
        refine q_aload_n C dX12_token_76 (n := 77) rfl rfl ?_
        refine q_getR C dX12_token_77 (n := 80) rfl f_X12_224 (zM0 h0) (hF _ _ _ (zM236 h0)) ?_
        refine q_iload_n C dX12_token_80 (n := 81) rfl rfl ?_
        have g23 := zI.at hI ((zM238 h0) v1)
        refine q_iald C dX12_token_81 (n := 82) rfl (zM237 h0) (by omega) (v := M (a + 69) v1) (hk19.getA rfl rfl rfl) ?_
        exact q_iret C dX12_token_82 ⟨rfl, rfl⟩ (by rw [hPo]; exact ⟨M (a + 69) v1, M14, J15, rfl, rfl, hI16, hK20⟩)
      by_cases h24 : v2 = 1
      · refine q_tabIn C 83 dX12_token_39 h24 (by omega) rfl rfl ?_
        refine q_aload_n C dX12_token_83 (n := 84) rfl rfl ?_
        refine q_getR C dX12_token_84 (n := 87) rfl f_X12_230 (zM0 h0) (hF _ _ _ (zM242 h0)) ?_
        refine q_iload_n C dX12_token_87 (n := 88) rfl rfl ?_
        have g25 := zI.at hI ((zM244 h0) v1)
        refine q_iald C dX12_token_88 (n := 89) rfl (zM243 h0) (by omega) (v := M (a + 71) v1) (hk19.getA rfl rfl rfl) ?_
        exact q_iret C dX12_token_89 ⟨rfl, rfl⟩ (by rw [hPo]; exact ⟨M (a + 71) v1, M14, J15, rfl, rfl, hI16, hK20⟩)
      by_cases h26 : v2 = 2
      · refine q_tabIn C 90 dX12_token_39 h26 (by omega) rfl rfl ?_
        refine q_aload_n C dX12_token_90 (n := 91) rfl rfl ?_
        refine q_getR C dX12_token_91 (n := 94) rfl f_X12_233 (zM0 h0) (hF _ _ _ (zM245 h0)) ?_
        refine q_iload_n C dX12_token_94 (n := 95) rfl rfl ?_
        have g27 := zI.at hI ((zM247 h0) v1)
        refine q_iald C dX12_token_95 (n := 96) rfl (zM246 h0) (by omega) (v := M (a + 72) v1) (hk19.getA rfl rfl rfl) ?_
        exact q_iret C dX12_token_96 ⟨rfl, rfl⟩ (by rw [hPo]; exact ⟨M (a + 72) v1, M14, J15, rfl, rfl, hI16, hK20⟩)
      by_cases h28 : v2 = 3
      · refine q_tabIn C 97 dX12_token_39 h28 (by omega) rfl rfl ?_
        refine q_aload_n C dX12_token_97 (n := 98) rfl rfl ?_
        refine q_getR C dX12_token_98 (n := 101) rfl f_X12_236 (zM0 h0) (hF _ _ _ (zM248 h0)) ?_
        refine q_iload_n C dX12_token_101 (n := 102) rfl rfl ?_
        have g29 := zI.at hI ((zM250 h0) v1)
        refine q_iald C dX12_token_102 (n := 103) rfl (zM249 h0) (by omega) (v := M (a + 73) v1) (hk19.getA rfl rfl rfl) ?_
        exact q_iret C dX12_token_103 ⟨rfl, rfl⟩ (by rw [hPo]; exact ⟨M (a + 73) v1, M14, J15, rfl, rfl, hI16, hK20⟩)
      by_cases h30 : v2 = 4
      · refine q_tabIn C 104 dX12_token_39 h30 (by omega) rfl rfl ?_
        refine q_aload_n C dX12_token_104 (n := 105) rfl rfl ?_
        refine q_getR C dX12_token_105 (n := 108) rfl f_X12_239 (zM0 h0) (hF _ _ _ (zM251 h0)) ?_
        refine q_iload_n C dX12_token_108 (n := 109) rfl rfl ?_
        have g31 := zI.at hI ((zM253 h0) v1)
        refine q_iald C dX12_token_109 (n := 110) rfl (zM252 h0) (by omega) (v := M (a + 74) v1) (hk19.getA rfl rfl rfl) ?_
        exact q_iret C dX12_token_110 ⟨rfl, rfl⟩ (by rw [hPo]; exact ⟨M (a + 74) v1, M14, J15, rfl, rfl, hI16, hK20⟩)
      by_cases h32 : v2 = 5
      · refine q_tabIn C 111 dX12_token_39 h32 (by omega) rfl rfl ?_
        refine q_aload_n C dX12_token_111 (n := 112) rfl rfl ?_
        refine q_getR C dX12_token_112 (n := 115) rfl f_X12_242 (zM0 h0) (hF _ _ _ (zM254 h0)) ?_
        refine q_iload_n C dX12_token_115 (n := 116) rfl rfl ?_
        have g33 := zI.at hI ((zM256 h0) v1)
        refine q_iald C dX12_token_116 (n := 117) rfl (zM255 h0) (by omega) (v := M (a + 75) v1) (hk19.getA rfl rfl rfl) ?_
        exact q_iret C dX12_token_117 ⟨rfl, rfl⟩ (by rw [hPo]; exact ⟨M (a + 75) v1, M14, J15, rfl, rfl, hI16, hK20⟩)
      refine q_tabOut C 118 dX12_token_39 (by omega) (by omega) rfl ?_
      refine q_aload_n C dX12_token_118 (n := 119) rfl rfl ?_
      refine q_getR C dX12_token_119 (n := 122) rfl f_X12_245 (zM0 h0) (hF _ _ _ (zM257 h0)) ?_
      refine q_iload_n C dX12_token_122 (n := 123) rfl rfl ?_
      have g34 := zI.at hI ((zM259 h0) v1)
      refine q_iald C dX12_token_123 (n := 124) rfl (zM258 h0) (by omega) (v := M (a + 76) v1) (hk19.getA rfl rfl rfl) ?_
      exact q_iret C dX12_token_124 ⟨rfl, rfl⟩ (by rw [hPo]; exact ⟨M (a + 76) v1, M14, J15, rfl, rfl, hI16, hK20⟩)
    · refine q_iconst C dX12_token_36 (n := 37) rfl ?_
      exact q_iret C dX12_token_37 ⟨rfl, rfl⟩ (by rw [hPo]; exact ⟨0, M14, J15, rfl, rfl, hI16, hK20⟩)
  have J_35 : zK w p e 2 0 0 s m args below meth c 3 T Po 25 [.ref (w.2.1 + a), zi v1, zi v2] [.ref (w.2.1 + a)] (T, M, J, R) := by
    refine q_iconst C dX12_token_25 (n := 26) rfl ?_
    refine q_goto C 30 dX12_token_26 rfl ?_
    exact zK.weak (J_11 1 (by omega) (by omega) (by omega)) (zwk_c (zwk_c (zwk_c zwk_e)))
  refine q_if_eq C 25 dX12_token_12 (n := 15) rfl rfl (by omega) (fun h36 => ?_) (fun h36 => ?_)
  · exact zK.weak (J_35) (zwk_c (zwk_c (zwk_c zwk_e)))
  · refine q_iload_n C dX12_token_15 (n := 16) rfl rfl ?_
    refine q_iconst C dX12_token_16 (n := 17) rfl ?_
    refine q_bipush C dX12_token_17 (n := 19) rfl (x := 6) (by decide) ?_
    refine q_callSp C dX12_token_19 (n := 22) rfl m_X12_277 s_yX12_isIn (c_X12_isIn (w := w) (J := J) hI hF v2 0 6 (by omega) (by omega) (by omega)) (Nat.le_of_ble_eq_true rfl) rfl rfl (Nat.le_of_ble_eq_true rfl) ⟨Nat.le_refl _, Nat.le_refl _⟩ (fun x40 h41 => ?_)
    obtain ⟨h37, h38, h39⟩ := h41
    refine q_if_ne C 29 dX12_token_22 (n := 25) rfl rfl (by omega) (fun h42 => ?_) (fun h42 => ?_)
    · refine q_iconst C dX12_token_29 (n := 30) rfl ?_
      exact zK.weak (J_11 0 (by omega) (by omega) (by omega)) (zwk_c (zwk_c (zwk_c zwk_e)))
    · exact zK.weak (J_35) (zwk_c (zwk_c (zwk_c zwk_e)))
theorem c_X12_tokenAt {w : zWp} {T : zTl} {M : zMm} {J : zJm} {R : zRm'} {G : zGt} {F : zRm'} {a : Nat} (hI : zI G M) (hF : zF F R) (h0 : zModel T F G a) (v1 : Int) (v2 : Int) (p1 : -2147483648 ≤ v1 ∧ v1 ≤ 2147483647) (p2 : -2147483648 ≤ v2 ∧ v2 ≤ 2147483647) : zCt w 2 0 0 yX12_tokenAt cX12_tokenAt 3 (some .int) [.ref (w.2.1 + a), zi v1, zi v2] (T, M, J, R) (zPi T R G (fun x M2 => (zMd a [] [0] [] M M2))) := by
  refine zCt.of rfl (Nat.le_of_ble_eq_true rfl) ?_
  intro p e s m args below meth c C
  obtain ⟨Po, hPo⟩ : ∃ Po, Po = zPi T R G (fun x M2 => (zMd a [] [0] [] M M2)) := ⟨_, rfl⟩
  rw [← hPo]
  have hK0 : zMd a [] [0] [] M M := zMd.rf
  show zK w p e 2 0 0 s m args below meth c 3 T Po 0 [.ref (w.2.1 + a), zi v1, zi v2] [] (T, M, J, R)
  refine q_aload_n C dX12_tokenAt_0 (n := 1) rfl rfl ?_
  refine q_iconst C dX12_tokenAt_1 (n := 2) rfl ?_
  refine q_putI C dX12_tokenAt_2 (n := 5) rfl f_X12_1 (zM0 h0) ⟨rfl, rfl⟩ (fun M1 (e2 : M1 = zup M a 0 0) => ?_)
  have hI3 : zI G M1 := hI.put e2 (zM1 h0) rfl (by omega)
  have hK4 := hK0.upS e2 rfl
  refine q_iload_n C dX12_tokenAt_5 (n := 6) rfl rfl ?_
  refine q_iconst C dX12_tokenAt_6 (n := 7) rfl ?_
  refine q_aload_n C dX12_tokenAt_7 (n := 8) rfl rfl ?_
  have g5 := zI.at hI (zM263 h0)
  refine q_getI C dX12_tokenAt_8 (n := 11) rfl f_X12_700 (zM0 h0) (v := M a 112) (zup_n e2 (by omega)) ?_
  refine q_iconst C dX12_tokenAt_11 (n := 12) rfl ?_
  refine q_isub C dX12_tokenAt_12 (n := 13) rfl (v := (M a 112) - 1) rfl ?_
  refine q_callSp C dX12_tokenAt_13 (n := 16) rfl m_X12_277 s_yX12_isIn (c_X12_isIn (w := w) (J := J) hI3 hF v1 0 ((M a 112) - 1) (by omega) (by omega) (by omega)) (Nat.le_of_ble_eq_true rfl) rfl rfl (Nat.le_of_ble_eq_true rfl) ⟨Nat.le_refl _, Nat.le_refl _⟩ (fun x9 h10 => ?_)
  obtain ⟨h6, h7, h8⟩ := h10
  refine q_if_eq C 51 dX12_tokenAt_16 (n := 19) rfl rfl (by omega) (fun h11 => ?_) (fun h11 => ?_)
  · refine q_iconst C dX12_tokenAt_51 (n := 52) rfl ?_
    exact q_iret C dX12_tokenAt_52 ⟨rfl, rfl⟩ (by rw [hPo]; exact ⟨(-1), M1, J, rfl, rfl, hI3, hK4⟩)
  · refine q_iload_n C dX12_tokenAt_19 (n := 20) rfl rfl ?_
    refine q_iconst C dX12_tokenAt_20 (n := 21) rfl ?_
    refine q_aload_n C dX12_tokenAt_21 (n := 22) rfl rfl ?_
    refine q_getR C dX12_tokenAt_22 (n := 25) rfl f_X12_230 (zM0 h0) (hF _ _ _ (zM242 h0)) ?_
    refine q_iload_n C dX12_tokenAt_25 (n := 26) rfl rfl ?_
    have g12 := zI.at hI ((zM244 h0) v1)
    refine q_iald C dX12_tokenAt_26 (n := 27) rfl (zM243 h0) (by omega) (v := M (a + 71) v1) (zup_p e2 (by omega) _) ?_
    refine q_iconst C dX12_tokenAt_27 (n := 28) rfl ?_
    refine q_isub C dX12_tokenAt_28 (n := 29) rfl (v := (M (a + 71) v1) - 1) rfl ?_
    refine q_callSp C dX12_tokenAt_29 (n := 32) rfl m_X12_277 s_yX12_isIn (c_X12_isIn (w := w) (J := J) hI3 hF v2 0 ((M (a + 71) v1) - 1) (by omega) (by omega) (by omega)) (Nat.le_of_ble_eq_true rfl) rfl rfl (Nat.le_of_ble_eq_true rfl) ⟨Nat.le_refl _, Nat.le_refl _⟩ (fun x16 h17 => ?_)
    obtain ⟨h13, h14, h15⟩ := h17
    refine q_if_eq C 51 dX12_tokenAt_32 (n := 35) rfl rfl (by omega) (fun h18 => ?_) (fun h18 => ?_)
    · refine q_iconst C dX12_tokenAt_51 (n := 52) rfl ?_
      exact q_iret C dX12_tokenAt_52 ⟨rfl, rfl⟩ (by rw [hPo]; exact ⟨(-1), M1, J, rfl, rfl, hI3, hK4⟩)
    · refine q_aload_n C dX12_tokenAt_35 (n := 36) rfl rfl ?_
      refine q_getR C dX12_tokenAt_36 (n := 39) rfl f_X12_248 (zM0 h0) (hF _ _ _ (zM260 h0)) ?_
      refine q_aload_n C dX12_tokenAt_39 (n := 40) rfl rfl ?_
      refine q_getR C dX12_tokenAt_40 (n := 43) rfl f_X12_227 (zM0 h0) (hF _ _ _ (zM239 h0)) ?_
      refine q_iload_n C dX12_tokenAt_43 (n := 44) rfl rfl ?_
      have g19 := zI.at hI ((zM241 h0) v1)
      refine q_iald C dX12_tokenAt_44 (n := 45) rfl (zM240 h0) (by omega) (v := M (a + 70) v1) (zup_p e2 (by omega) _) ?_
      refine q_iload_n C dX12_tokenAt_45 (n := 46) rfl rfl ?_
      refine q_iadd C dX12_tokenAt_46 (n := 47) rfl (v := (M (a + 70) v1) + v2) rfl ?_
      have g20 := zI.at hI ((zM262 h0) ((M (a + 70) v1) + v2))
      refine q_bald C dX12_tokenAt_47 (n := 48) rfl (zM261 h0) (by omega) (v := M (a + 77) ((M (a + 70) v1) + v2)) (zup_p e2 (by omega) _) ?_
      refine q_goto C 52 dX12_tokenAt_48 rfl ?_
      exact q_iret C dX12_tokenAt_52 ⟨rfl, rfl⟩ (by rw [hPo]; exact ⟨M (a + 77) ((M (a + 70) v1) + v2), M1, J, rfl, rfl, hI3, hK4⟩)
theorem c_X12_macro {w : zWp} {T : zTl} {M : zMm} {J : zJm} {R : zRm'} {G : zGt} {F : zRm'} {a : Nat} (hI : zI G M) (hF : zF F R) (h0 : zModel T F G a) (v1 : Int) (v2 : Int) (p1 : -2147483648 ≤ v1 ∧ v1 ≤ 2147483647) (p2 : -2147483648 ≤ v2 ∧ v2 ≤ 2147483647) : zCt w 2 0 0 yX12_macro cX12_macro 3 (some .int) [.ref (w.2.1 + a), zi v1, zi v2] (T, M, J, R) (zPi T R G (fun x M2 => (zMd a [] [0] [] M M2))) := by
  refine zCt.of rfl (Nat.le_of_ble_eq_true rfl) ?_
  intro p e s m args below meth c C
  obtain ⟨Po, hPo⟩ : ∃ Po, Po = zPi T R G (fun x M2 => (zMd a [] [0] [] M M2)) := ⟨_, rfl⟩
  rw [← hPo]
  have hK0 : zMd a [] [0] [] M M := zMd.rf
  show zK w p e 2 0 0 s m args below meth c 3 T Po 0 [.ref (w.2.1 + a), zi v1, zi v2] [] (T, M, J, R)
  refine q_aload_n C dX12_macro_0 (n := 1) rfl rfl ?_
  refine q_iload_n C dX12_macro_1 (n := 2) rfl rfl ?_
  refine q_iconst C dX12_macro_2 (n := 3) rfl ?_
  refine q_aload_n C dX12_macro_3 (n := 4) rfl rfl ?_
  refine q_getR C dX12_macro_4 (n := 7) rfl f_X12_71 (zM0 h0) (hF _ _ _ (zM68 h0)) ?_
  refine q_iconst C dX12_macro_7 (n := 8) rfl ?_
  have g1 := zI.at hI (((zM70 h0) 0).trans (zwG_0 (by omega)))
  refine q_iald C dX12_macro_8 (n := 9) rfl (zM69 h0) (by omega) (v := M (a + 19) 0) rfl ?_
  refine q_iconst C dX12_macro_9 (n := 10) rfl ?_
  refine q_isub C dX12_macro_10 (n := 11) rfl (v := (M (a + 19) 0) - 1) rfl ?_
  refine q_callSp C dX12_macro_11 (n := 14) rfl m_X12_277 s_yX12_isIn (c_X12_isIn (w := w) (J := J) hI hF v1 0 ((M (a + 19) 0) - 1) (by omega) (by omega) (by omega)) (Nat.le_of_ble_eq_true rfl) rfl rfl (Nat.le_of_ble_eq_true rfl) ⟨Nat.le_refl _, Nat.le_refl _⟩ (fun x5 h6 => ?_)
  obtain ⟨h2, h3, h4⟩ := h6
  have J_11 : ∀ (u7 : Int), (-2147483648 ≤ u7 ∧ u7 ≤ 2147483647) → (u7 = 0 ∨ u7 = 1) → (u7 = 1 ∨ 0 ≤ v1 ∧ v1 ≤ M (a + 19) 0 - 1 ∧ 0 ≤ v2 ∧ v2 ≤ 5) → zK w p e 2 0 0 s m args below meth c 3 T Po 31 [.ref (w.2.1 + a), zi v1, zi v2] [zi u7, .ref (w.2.1 + a)] (T, M, J, R) := by
    intro u7 h8 h9 h10
    refine q_callVi C dX12_macro_31 (n := 34) rfl m_X12_718 v_yX12_throwsIf (zM0 h0) ⟨by decide, rfl⟩ (c_X12_throwsIf (w := w) (J := J) hI hF h0 u7 (by omega)) (Nat.le_of_ble_eq_true rfl) rfl rfl (Nat.le_of_ble_eq_true rfl) ⟨Nat.le_refl _, Nat.le_refl _⟩ (fun x18 M14 J15  hI16 h17 => ?_)
    obtain ⟨hk19, h12, h13⟩ := h17
    have hK20 := hK0.tr hk19 rfl rfl rfl
    refine q_if_eq C 39 dX12_macro_34 (n := 37) rfl rfl (by omega) (fun h21 => ?_) (fun h21 => ?_)
    · refine q_iload_n C dX12_macro_39 (n := 40) rfl rfl ?_
      refine q_if_ne C 54 dX12_macro_40 (n := 43) rfl rfl (by omega) (fun h22 => ?_) (fun h22 => ?_)
      · refine q_iload_n C dX12_macro_54 (n := 55) rfl rfl ?_
        refine q_iconst C dX12_macro_55 (n := 56) rfl ?_
        refine q_icmp_ne C 70 dX12_macro_56 (n := 59) rfl rfl (by omega) (fun h23 => ?_) (fun h23 => ?_)
        · refine q_aload_n C dX12_macro_70 (n := 71) rfl rfl ?_
          refine q_getR C dX12_macro_71 (n := 74) rfl f_X12_71 (zM0 h0) (hF _ _ _ (zM68 h0)) ?_
          refine q_sipush C dX12_macro_74 (n := 77) rfl (x := 187) (by decide) ?_
          refine q_iload_n C dX12_macro_77 (n := 78) rfl rfl ?_
          refine q_iadd C dX12_macro_78 (n := 79) rfl (v := 187 + v1) rfl ?_
          have g24 := zI.at hI (((zM70 h0) (187 + v1)).trans (zwG_187 (by omega)))
          refine q_iald C dX12_macro_79 (n := 80) rfl (zM69 h0) (by omega) (v := M (a + 19) (187 + v1)) (hk19.getA rfl rfl rfl) ?_
          refine q_if_ne C 85 dX12_macro_80 (n := 83) rfl rfl (by omega) (fun h25 => ?_) (fun h25 => ?_)
          · refine q_iload_n C dX12_macro_85 (n := 86) rfl rfl ?_
            refine q_iconst C dX12_macro_86 (n := 87) rfl ?_
            refine q_icmp_ne C 103 dX12_macro_87 (n := 90) rfl rfl (by omega) (fun h26 => ?_) (fun h26 => ?_)
            · refine q_iload_n C dX12_macro_103 (n := 104) rfl rfl ?_
              refine q_iconst C dX12_macro_104 (n := 105) rfl ?_
              refine q_icmp_ne C 121 dX12_macro_105 (n := 108) rfl rfl (by omega) (fun h27 => ?_) (fun h27 => ?_)
              · refine q_iload_n C dX12_macro_121 (n := 122) rfl rfl ?_
                refine q_iconst C dX12_macro_122 (n := 123) rfl ?_
                refine q_icmp_ne C 139 dX12_macro_123 (n := 126) rfl rfl (by omega) (fun h28 => ?_) (fun h28 => ?_)
                · refine q_aload_n C dX12_macro_139 (n := 140) rfl rfl ?_
                  refine q_getR C dX12_macro_140 (n := 143) rfl f_X12_71 (zM0 h0) (hF _ _ _ (zM68 h0)) ?_
                  refine q_sipush C dX12_macro_143 (n := 146) rfl (x := 235) (by decide) ?_
                  refine q_iload_n C dX12_macro_146 (n := 147) rfl rfl ?_
                  refine q_iadd C dX12_macro_147 (n := 148) rfl (v := 235 + v1) rfl ?_
                  have g29 := zI.at hI (((zM70 h0) (235 + v1)).trans (zwG_223 (by omega)))
                  refine q_iald C dX12_macro_148 (n := 149) rfl (zM69 h0) (by omega) (v := M (a + 19) (235 + v1)) (hk19.getA rfl rfl rfl) ?_
                  exact q_iret C dX12_macro_149 ⟨rfl, rfl⟩ (by rw [hPo]; exact ⟨M (a + 19) (235 + v1), M14, J15, rfl, rfl, hI16, hK20⟩)
                · refine q_aload_n C dX12_macro_126 (n := 127) rfl rfl ?_
                  refine q_getR C dX12_macro_127 (n := 130) rfl f_X12_71 (zM0 h0) (hF _ _ _ (zM68 h0)) ?_
                  refine q_sipush C dX12_macro_130 (n := 133) rfl (x := 223) (by decide) ?_
                  refine q_iload_n C dX12_macro_133 (n := 134) rfl rfl ?_
                  refine q_iadd C dX12_macro_134 (n := 135) rfl (v := 223 + v1) rfl ?_
                  have g30 := zI.at hI (((zM70 h0) (223 + v1)).trans (zwG_223 (by omega)))
                  refine q_iald C dX12_macro_135 (n := 136) rfl (zM69 h0) (by omega) (v := M (a + 19) (223 + v1)) (hk19.getA rfl rfl rfl) ?_
                  refine q_goto C 149 dX12_macro_136 rfl ?_
                  exact q_iret C dX12_macro_149 ⟨rfl, rfl⟩ (by rw [hPo]; exact ⟨M (a + 19) (223 + v1), M14, J15, rfl, rfl, hI16, hK20⟩)
              · refine q_aload_n C dX12_macro_108 (n := 109) rfl rfl ?_
                refine q_getR C dX12_macro_109 (n := 112) rfl f_X12_71 (zM0 h0) (hF _ _ _ (zM68 h0)) ?_
                refine q_sipush C dX12_macro_112 (n := 115) rfl (x := 211) (by decide) ?_
                refine q_iload_n C dX12_macro_115 (n := 116) rfl rfl ?_
                refine q_iadd C dX12_macro_116 (n := 117) rfl (v := 211 + v1) rfl ?_
                have g31 := zI.at hI (((zM70 h0) (211 + v1)).trans (zwG_211 (by omega)))
                refine q_iald C dX12_macro_117 (n := 118) rfl (zM69 h0) (by omega) (v := M (a + 19) (211 + v1)) (hk19.getA rfl rfl rfl) ?_
                refine q_goto C 149 dX12_macro_118 rfl ?_
                exact q_iret C dX12_macro_149 ⟨rfl, rfl⟩ (by rw [hPo]; exact ⟨M (a + 19) (211 + v1), M14, J15, rfl, rfl, hI16, hK20⟩)
            · refine q_aload_n C dX12_macro_90 (n := 91) rfl rfl ?_
              refine q_getR C dX12_macro_91 (n := 94) rfl f_X12_71 (zM0 h0) (hF _ _ _ (zM68 h0)) ?_
              refine q_sipush C dX12_macro_94 (n := 97) rfl (x := 199) (by decide) ?_
              refine q_iload_n C dX12_macro_97 (n := 98) rfl rfl ?_
              refine q_iadd C dX12_macro_98 (n := 99) rfl (v := 199 + v1) rfl ?_
              have g32 := zI.at hI (((zM70 h0) (199 + v1)).trans (zwG_199 (by omega)))
              refine q_iald C dX12_macro_99 (n := 100) rfl (zM69 h0) (by omega) (v := M (a + 19) (199 + v1)) (hk19.getA rfl rfl rfl) ?_
              refine q_goto C 149 dX12_macro_100 rfl ?_
              exact q_iret C dX12_macro_149 ⟨rfl, rfl⟩ (by rw [hPo]; exact ⟨M (a + 19) (199 + v1), M14, J15, rfl, rfl, hI16, hK20⟩)
          · refine q_iconst C dX12_macro_83 (n := 84) rfl ?_
            exact q_iret C dX12_macro_84 ⟨rfl, rfl⟩ (by rw [hPo]; exact ⟨(-1), M14, J15, rfl, rfl, hI16, hK20⟩)
        · refine q_aload_n C dX12_macro_59 (n := 60) rfl rfl ?_
          refine q_getR C dX12_macro_60 (n := 63) rfl f_X12_71 (zM0 h0) (hF _ _ _ (zM68 h0)) ?_
          refine q_sipush C dX12_macro_63 (n := 66) rfl (x := 247) (by decide) ?_
          refine q_iload_n C dX12_macro_66 (n := 67) rfl rfl ?_
          refine q_iadd C dX12_macro_67 (n := 68) rfl (v := 247 + v1) rfl ?_
          have g33 := zI.at hI (((zM70 h0) (247 + v1)).trans (zwG_223 (by omega)))
          refine q_iald C dX12_macro_68 (n := 69) rfl (zM69 h0) (by omega) (v := M (a + 19) (247 + v1)) (hk19.getA rfl rfl rfl) ?_
          exact q_iret C dX12_macro_69 ⟨rfl, rfl⟩ (by rw [hPo]; exact ⟨M (a + 19) (247 + v1), M14, J15, rfl, rfl, hI16, hK20⟩)
      · refine q_aload_n C dX12_macro_43 (n := 44) rfl rfl ?_
        refine q_getR C dX12_macro_44 (n := 47) rfl f_X12_71 (zM0 h0) (hF _ _ _ (zM68 h0)) ?_
        refine q_sipush C dX12_macro_47 (n := 50) rfl (x := 187) (by decide) ?_
        refine q_iload_n C dX12_macro_50 (n := 51) rfl rfl ?_
        refine q_iadd C dX12_macro_51 (n := 52) rfl (v := 187 + v1) rfl ?_
        have g34 := zI.at hI (((zM70 h0) (187 + v1)).trans (zwG_187 (by omega)))
        refine q_iald C dX12_macro_52 (n := 53) rfl (zM69 h0) (by omega) (v := M (a + 19) (187 + v1)) (hk19.getA rfl rfl rfl) ?_
        exact q_iret C dX12_macro_53 ⟨rfl, rfl⟩ (by rw [hPo]; exact ⟨M (a + 19) (187 + v1), M14, J15, rfl, rfl, hI16, hK20⟩)
    · refine q_iconst C dX12_macro_37 (n := 38) rfl ?_
      exact q_iret C dX12_macro_38 ⟨rfl, rfl⟩ (by rw [hPo]; exact ⟨0, M14, J15, rfl, rfl, hI16, hK20⟩)
  have J_35 : zK w p e 2 0 0 s m args below meth c 3 T Po 26 [.ref (w.2.1 + a), zi v1, zi v2] [.ref (w.2.1 + a)] (T, M, J, R) := by
    refine q_iconst C dX12_macro_26 (n := 27) rfl ?_
    refine q_goto C 31 dX12_macro_27 rfl ?_
    exact zK.weak (J_11 1 (by omega) (by omega) (by omega)) (zwk_c (zwk_c (zwk_c zwk_e)))
  refine q_if_eq C 26 dX12_macro_14 (n := 17) rfl rfl (by omega) (fun h36 => ?_) (fun h36 => ?_)
  · exact zK.weak (J_35) (zwk_c (zwk_c (zwk_c zwk_e)))
  · refine q_iload_n C dX12_macro_17 (n := 18) rfl rfl ?_
    refine q_iconst C dX12_macro_18 (n := 19) rfl ?_
    refine q_iconst C dX12_macro_19 (n := 20) rfl ?_
    refine q_callSp C dX12_macro_20 (n := 23) rfl m_X12_277 s_yX12_isIn (c_X12_isIn (w := w) (J := J) hI hF v2 0 5 (by omega) (by omega) (by omega)) (Nat.le_of_ble_eq_true rfl) rfl rfl (Nat.le_of_ble_eq_true rfl) ⟨Nat.le_refl _, Nat.le_refl _⟩ (fun x40 h41 => ?_)
    obtain ⟨h37, h38, h39⟩ := h41
    refine q_if_ne C 30 dX12_macro_23 (n := 26) rfl rfl (by omega) (fun h42 => ?_) (fun h42 => ?_)
    · refine q_iconst C dX12_macro_30 (n := 31) rfl ?_
      exact zK.weak (J_11 0 (by omega) (by omega) (by omega)) (zwk_c (zwk_c (zwk_c zwk_e)))
    · exact zK.weak (J_35) (zwk_c (zwk_c (zwk_c zwk_e)))
theorem c_X12_macroAt {w : zWp} {T : zTl} {M : zMm} {J : zJm} {R : zRm'} {G : zGt} {F : zRm'} {a : Nat} (hI : zI G M) (hF : zF F R) (h0 : zModel T F G a) (v1 : Int) (v2 : Int) (p1 : -2147483648 ≤ v1 ∧ v1 ≤ 2147483647) (p2 : -2147483648 ≤ v2 ∧ v2 ≤ 2147483647) : zCt w 2 0 0 yX12_macroAt cX12_macroAt 3 (some .int) [.ref (w.2.1 + a), zi v1, zi v2] (T, M, J, R) (zPi T R G (fun x M2 => (zMd a [] [0] [] M M2))) := by
  refine zCt.of rfl (Nat.le_of_ble_eq_true rfl) ?_
  intro p e s m args below meth c C
  obtain ⟨Po, hPo⟩ : ∃ Po, Po = zPi T R G (fun x M2 => (zMd a [] [0] [] M M2)) := ⟨_, rfl⟩
  rw [← hPo]
  have hK0 : zMd a [] [0] [] M M := zMd.rf
  show zK w p e 2 0 0 s m args below meth c 3 T Po 0 [.ref (w.2.1 + a), zi v1, zi v2] [] (T, M, J, R)
  refine q_aload_n C dX12_macroAt_0 (n := 1) rfl rfl ?_
  refine q_iconst C dX12_macroAt_1 (n := 2) rfl ?_
  refine q_putI C dX12_macroAt_2 (n := 5) rfl f_X12_1 (zM0 h0) ⟨rfl, rfl⟩ (fun M1 (e2 : M1 = zup M a 0 0) => ?_)
  have hI3 : zI G M1 := hI.put e2 (zM1 h0) rfl (by omega)
  have hK4 := hK0.upS e2 rfl
  refine q_iload_n C dX12_macroAt_5 (n := 6) rfl rfl ?_
  refine q_iconst C dX12_macroAt_6 (n := 7) rfl ?_
  refine q_aload_n C dX12_macroAt_7 (n := 8) rfl rfl ?_
  refine q_getR C dX12_macroAt_8 (n := 11) rfl f_X12_71 (zM0 h0) (hF _ _ _ (zM68 h0)) ?_
  refine q_iconst C dX12_macroAt_11 (n := 12) rfl ?_
  have g5 := zI.at hI (((zM70 h0) 0).trans (zwG_0 (by omega)))
  refine q_iald C dX12_macroAt_12 (n := 13) rfl (zM69 h0) (by omega) (v := M (a + 19) 0) (zup_p e2 (by omega) _) ?_
  refine q_iconst C dX12_macroAt_13 (n := 14) rfl ?_
  refine q_isub C dX12_macroAt_14 (n := 15) rfl (v := (M (a + 19) 0) - 1) rfl ?_
  refine q_callSp C dX12_macroAt_15 (n := 18) rfl m_X12_277 s_yX12_isIn (c_X12_isIn (w := w) (J := J) hI3 hF v1 0 ((M (a + 19) 0) - 1) (by omega) (by omega) (by omega)) (Nat.le_of_ble_eq_true rfl) rfl rfl (Nat.le_of_ble_eq_true rfl) ⟨Nat.le_refl _, Nat.le_refl _⟩ (fun x9 h10 => ?_)
  obtain ⟨h6, h7, h8⟩ := h10
  refine q_if_eq C 55 dX12_macroAt_18 (n := 21) rfl rfl (by omega) (fun h11 => ?_) (fun h11 => ?_)
  · refine q_iconst C dX12_macroAt_55 (n := 56) rfl ?_
    exact q_iret C dX12_macroAt_56 ⟨rfl, rfl⟩ (by rw [hPo]; exact ⟨(-1), M1, J, rfl, rfl, hI3, hK4⟩)
  · refine q_iload_n C dX12_macroAt_21 (n := 22) rfl rfl ?_
    refine q_iconst C dX12_macroAt_22 (n := 23) rfl ?_
    refine q_aload_n C dX12_macroAt_23 (n := 24) rfl rfl ?_
    refine q_getR C dX12_macroAt_24 (n := 27) rfl f_X12_71 (zM0 h0) (hF _ _ _ (zM68 h0)) ?_
    refine q_sipush C dX12_macroAt_27 (n := 30) rfl (x := 175) (by decide) ?_
    refine q_iload_n C dX12_macroAt_30 (n := 31) rfl rfl ?_
    refine q_iadd C dX12_macroAt_31 (n := 32) rfl (v := 175 + v1) rfl ?_
    have g12 := zI.at hI (((zM70 h0) (175 + v1)).trans (zwG_175 (by omega)))
    refine q_iald C dX12_macroAt_32 (n := 33) rfl (zM69 h0) (by omega) (v := M (a + 19) (175 + v1)) (zup_p e2 (by omega) _) ?_
    refine q_iconst C dX12_macroAt_33 (n := 34) rfl ?_
    refine q_isub C dX12_macroAt_34 (n := 35) rfl (v := (M (a + 19) (175 + v1)) - 1) rfl ?_
    refine q_callSp C dX12_macroAt_35 (n := 38) rfl m_X12_277 s_yX12_isIn (c_X12_isIn (w := w) (J := J) hI3 hF v2 0 ((M (a + 19) (175 + v1)) - 1) (by omega) (by omega) (by omega)) (Nat.le_of_ble_eq_true rfl) rfl rfl (Nat.le_of_ble_eq_true rfl) ⟨Nat.le_refl _, Nat.le_refl _⟩ (fun x16 h17 => ?_)
    obtain ⟨h13, h14, h15⟩ := h17
    refine q_if_eq C 55 dX12_macroAt_38 (n := 41) rfl rfl (by omega) (fun h18 => ?_) (fun h18 => ?_)
    · refine q_iconst C dX12_macroAt_55 (n := 56) rfl ?_
      exact q_iret C dX12_macroAt_56 ⟨rfl, rfl⟩ (by rw [hPo]; exact ⟨(-1), M1, J, rfl, rfl, hI3, hK4⟩)
    · refine q_aload_n C dX12_macroAt_41 (n := 42) rfl rfl ?_
      refine q_getR C dX12_macroAt_42 (n := 45) rfl f_X12_77 (zM0 h0) (hF _ _ _ (zM74 h0)) ?_
      refine q_bipush C dX12_macroAt_45 (n := 47) rfl (x := 30) (by decide) ?_
      refine q_iload_n C dX12_macroAt_47 (n := 48) rfl rfl ?_
      refine q_imul C dX12_macroAt_48 (n := 49) rfl (v := 30 * v1) rfl ?_
      refine q_iload_n C dX12_macroAt_49 (n := 50) rfl rfl ?_
      refine q_iadd C dX12_macroAt_50 (n := 51) rfl (v := (30 * v1) + v2) rfl ?_
      have g19 := zI.at hI ((zM76 h0) ((30 * v1) + v2))
      refine q_bald C dX12_macroAt_51 (n := 52) rfl (zM75 h0) (by omega) (v := M (a + 21) ((30 * v1) + v2)) (zup_p e2 (by omega) _) ?_
      refine q_goto C 56 dX12_macroAt_52 rfl ?_
      exact q_iret C dX12_macroAt_56 ⟨rfl, rfl⟩ (by rw [hPo]; exact ⟨M (a + 21) ((30 * v1) + v2), M1, J, rfl, rfl, hI3, hK4⟩)
theorem c_X12_now {w : zWp} {T : zTl} {M : zMm} {J : zJm} {R : zRm'} {G : zGt} {F : zRm'} {a : Nat} (hI : zI G M) (hF : zF F R) (h0 : zModel T F G a) (v1 : Int) (p1 : -2147483648 ≤ v1 ∧ v1 ≤ 2147483647) : zCt w 2 0 0 yX12_now cX12_now 2 (some .int) [.ref (w.2.1 + a), zi v1] (T, M, J, R) (zPi T R G (fun x M2 => (zMd a [] [0] [] M M2))) := by
  refine zCt.of rfl (Nat.le_of_ble_eq_true rfl) ?_
  intro p e s m args below meth c C
  obtain ⟨Po, hPo⟩ : ∃ Po, Po = zPi T R G (fun x M2 => (zMd a [] [0] [] M M2)) := ⟨_, rfl⟩
  rw [← hPo]
  have hK0 : zMd a [] [0] [] M M := zMd.rf
  show zK w p e 2 0 0 s m args below meth c 2 T Po 0 [.ref (w.2.1 + a), zi v1] [] (T, M, J, R)
  refine q_aload_n C dX12_now_0 (n := 1) rfl rfl ?_
  refine q_iconst C dX12_now_1 (n := 2) rfl ?_
  refine q_putI C dX12_now_2 (n := 5) rfl f_X12_1 (zM0 h0) ⟨rfl, rfl⟩ (fun M1 (e2 : M1 = zup M a 0 0) => ?_)
  have hI3 : zI G M1 := hI.put e2 (zM1 h0) rfl (by omega)
  have hK4 := hK0.upS e2 rfl
  refine q_iload_n C dX12_now_5 (n := 6) rfl rfl ?_
  refine q_iconst C dX12_now_6 (n := 7) rfl ?_
  refine q_bipush C dX12_now_7 (n := 9) rfl (x := 9) (by decide) ?_
  refine q_callSp C dX12_now_9 (n := 12) rfl m_X12_277 s_yX12_isIn (c_X12_isIn (w := w) (J := J) hI3 hF v1 0 9 (by omega) (by omega) (by omega)) (Nat.le_of_ble_eq_true rfl) rfl rfl (Nat.le_of_ble_eq_true rfl) ⟨Nat.le_refl _, Nat.le_refl _⟩ (fun x8 h9 => ?_)
  obtain ⟨h5, h6, h7⟩ := h9
  refine q_if_eq C 24 dX12_now_12 (n := 15) rfl rfl (by omega) (fun h10 => ?_) (fun h10 => ?_)
  · refine q_iconst C dX12_now_24 (n := 25) rfl ?_
    exact q_iret C dX12_now_25 ⟨rfl, rfl⟩ (by rw [hPo]; exact ⟨(-1), M1, J, rfl, rfl, hI3, hK4⟩)
  · refine q_aload_n C dX12_now_15 (n := 16) rfl rfl ?_
    refine q_getR C dX12_now_16 (n := 19) rfl f_X12_71 (zM0 h0) (hF _ _ _ (zM68 h0)) ?_
    refine q_iload_n C dX12_now_19 (n := 20) rfl rfl ?_
    have g11 := zI.at hI (((zM70 h0) v1).trans (zwG_e v1))
    refine q_iald C dX12_now_20 (n := 21) rfl (zM69 h0) (by omega) (v := M (a + 19) v1) (zup_p e2 (by omega) _) ?_
    refine q_goto C 25 dX12_now_21 rfl ?_
    exact q_iret C dX12_now_25 ⟨rfl, rfl⟩ (by rw [hPo]; exact ⟨M (a + 19) v1, M1, J, rfl, rfl, hI3, hK4⟩)
theorem c_X12_passed {w : zWp} {T : zTl} {M : zMm} {J : zJm} {R : zRm'} {G : zGt} {F : zRm'} {a : Nat} (hI : zI G M) (hF : zF F R) (h0 : zModel T F G a) (v1 : Int) (v2 : Int) (p1 : -2147483648 ≤ v1 ∧ v1 ≤ 2147483647) (p2 : -2147483648 ≤ v2 ∧ v2 ≤ 2147483647) : zCt w 4 0 0 yX12_passed cX12_passed 3 (some .int) [.ref (w.2.1 + a), zi v1, zi v2] (T, M, J, R) (zPi T R G (fun x M2 => (zMd a [] [0] [] M M2))) := by
  refine zCt.of rfl (Nat.le_of_ble_eq_true rfl) ?_
  intro p e s m args below meth c C
  obtain ⟨Po, hPo⟩ : ∃ Po, Po = zPi T R G (fun x M2 => (zMd a [] [0] [] M M2)) := ⟨_, rfl⟩
  rw [← hPo]
  have hK0 : zMd a [] [0] [] M M := zMd.rf
  show zK w p e 4 0 0 s m args below meth c 3 T Po 0 [.ref (w.2.1 + a), zi v1, zi v2] [] (T, M, J, R)
  refine q_aload_n C dX12_passed_0 (n := 1) rfl rfl ?_
  refine q_iconst C dX12_passed_1 (n := 2) rfl ?_
  refine q_putI C dX12_passed_2 (n := 5) rfl f_X12_1 (zM0 h0) ⟨rfl, rfl⟩ (fun M1 (e2 : M1 = zup M a 0 0) => ?_)
  have hI3 : zI G M1 := hI.put e2 (zM1 h0) rfl (by omega)
  have hK4 := hK0.upS e2 rfl
  refine q_aload_n C dX12_passed_5 (n := 6) rfl rfl ?_
  refine q_iload_n C dX12_passed_6 (n := 7) rfl rfl ?_
  refine q_iload_n C dX12_passed_7 (n := 8) rfl rfl ?_
  refine q_callVp C dX12_passed_8 (n := 11) rfl m_X12_324 v_yX12_isLine (zM0 h0) ⟨by decide, rfl⟩ (c_X12_isLine (w := w) (J := J) hI3 hF h0 v1 v2 (by omega) (by omega)) (Nat.le_of_ble_eq_true rfl) rfl rfl (Nat.le_of_ble_eq_true rfl) ⟨Nat.le_refl _, Nat.le_refl _⟩ (fun x7 h8 => ?_)
  obtain ⟨h5, h6⟩ := h8
  have hz9 : M1 (a + 2) (4 + v1) = M (a + 2) (4 + v1) := (zup_p e2 (by omega) _)
  refine q_if_eq C 31 dX12_passed_11 (n := 14) rfl rfl (by omega) (fun h10 => ?_) (fun h10 => ?_)
  · refine q_iconst C dX12_passed_31 (n := 32) rfl ?_
    exact q_iret C dX12_passed_32 ⟨rfl, rfl⟩ (by rw [hPo]; exact ⟨(-1), M1, J, rfl, rfl, hI3, hK4⟩)
  · refine q_aload_n C dX12_passed_14 (n := 15) rfl rfl ?_
    refine q_getR C dX12_passed_15 (n := 18) rfl f_X12_71 (zM0 h0) (hF _ _ _ (zM68 h0)) ?_
    refine q_bipush C dX12_passed_18 (n := 20) rfl (x := 15) (by decide) ?_
    refine q_bipush C dX12_passed_20 (n := 22) rfl (x := 40) (by decide) ?_
    refine q_iload_n C dX12_passed_22 (n := 23) rfl rfl ?_
    refine q_imul C dX12_passed_23 (n := 24) rfl (v := 40 * v1) rfl ?_
    refine q_iadd C dX12_passed_24 (n := 25) rfl (v := 15 + (40 * v1)) rfl ?_
    refine q_iload_n C dX12_passed_25 (n := 26) rfl rfl ?_
    refine q_iadd C dX12_passed_26 (n := 27) rfl (v := (15 + (40 * v1)) + v2) rfl ?_
    have g11 := zI.at hI (((zM70 h0) ((15 + (40 * v1)) + v2)).trans (zwG_1 (by omega)))
    refine q_iald C dX12_passed_27 (n := 28) rfl (zM69 h0) (by omega) (v := M (a + 19) ((15 + (40 * v1)) + v2)) (zup_p e2 (by omega) _) ?_
    refine q_goto C 32 dX12_passed_28 rfl ?_
    exact q_iret C dX12_passed_32 ⟨rfl, rfl⟩ (by rw [hPo]; exact ⟨M (a + 19) ((15 + (40 * v1)) + v2), M1, J, rfl, rfl, hI3, hK4⟩)
theorem c_X12_areAlike {w : zWp} {T : zTl} {M : zMm} {J : zJm} {R : zRm'} {G : zGt} {F : zRm'} {a : Nat} (hI : zI G M) (hF : zF F R) (h0 : zModel T F G a) (v1 : Int) (v2 : Int) (p1 : 0 ≤ v1 ∧ v1 ≤ 7) (p2 : 0 ≤ v2 ∧ v2 ≤ 7) : zCt w 1 0 0 yX12_areAlike cX12_areAlike 5 (some .boolean) [.ref (w.2.1 + a), zi v1, zi v2] (T, M, J, R) (zPp T M J R (fun x => (x = 0 ∨ x = 1) ∧ (¬ v1 = v2 ∨ x = 1))) := by
  refine zCt.of rfl (Nat.le_of_ble_eq_true rfl) ?_
  intro p e s m args below meth c C
  obtain ⟨Po, hPo⟩ : ∃ Po, Po = zPp T M J R (fun x => (x = 0 ∨ x = 1) ∧ (¬ v1 = v2 ∨ x = 1)) := ⟨_, rfl⟩
  rw [← hPo]
  show zK w p e 1 0 0 s m args below meth c 5 T Po 0 [.ref (w.2.1 + a), zi v1, zi v2, .null, .null] [] (T, M, J, R)
  refine q_aload_n C dX12_areAlike_0 (n := 1) rfl rfl ?_
  refine q_getR C dX12_areAlike_1 (n := 4) rfl f_X12_254 (zM0 h0) (hF _ _ _ (zM267 h0)) ?_
  refine q_iload_n C dX12_areAlike_4 (n := 5) rfl rfl ?_
  have g1 := zI.at hI ((zM269 h0) v1)
  refine q_iald C dX12_areAlike_5 (n := 6) rfl (zM268 h0) (by omega) (v := M (a + 79) v1) rfl ?_
  refine q_aload_n C dX12_areAlike_6 (n := 7) rfl rfl ?_
  refine q_getR C dX12_areAlike_7 (n := 10) rfl f_X12_254 (zM0 h0) (hF _ _ _ (zM267 h0)) ?_
  refine q_iload_n C dX12_areAlike_10 (n := 11) rfl rfl ?_
  have g2 := zI.at hI ((zM269 h0) v2)
  refine q_iald C dX12_areAlike_11 (n := 12) rfl (zM268 h0) (by omega) (v := M (a + 79) v2) rfl ?_
  have gs3 : ¬ v1 = v2 ∨ M (a + 79) (v1) = M (a + 79) (v2) := (Decidable.em (v1 = v2)).symm.imp id (fun q => by rw [q])
  have J_8 : ∀ (u4 : Int), (-2147483648 ≤ u4 ∧ u4 ≤ 2147483647) → (u4 = 0 ∨ u4 = 1) → (¬ v1 = v2 ∨ u4 = 1) → zK w p e 1 0 0 s m args below meth c 5 T Po 35 [.ref (w.2.1 + a), zi v1, zi v2, .null, .null] [zi u4] (T, M, J, R) := by
    intro u4 h5 h6 h7
    refine q_istore_n C [.ref (w.2.1 + a), zi v1, zi v2, zi u4, .null] dX12_areAlike_35 (n := 36) rfl rfl rfl ?_
    refine q_iconst C dX12_areAlike_36 (n := 37) rfl ?_
    refine q_istore C [.ref (w.2.1 + a), zi v1, zi v2, zi u4, zi 0] dX12_areAlike_37 (n := 39) rfl rfl rfl ?_
    have L_16 : ∀ n17 : Nat, ∀ (u9 : Int) (u10 : Int), (-2147483648 ≤ u9 ∧ u9 ≤ 2147483647) → (-2147483648 ≤ u10 ∧ u10 ≤ 2147483647) → (0 ≤ u10 ∧ u10 ≤ 4) → (u9 = 0 ∨ u9 = 1) → (¬ v1 = v2 ∨ u9 = 1) → (4 - u10 + 1 ≤ (n17 : Int)) → zK w p e 1 0 0 s m args below meth c 5 T Po 39 [.ref (w.2.1 + a), zi v1, zi v2, zi u9, zi u10] [] (T, M, J, R) := by
      intro n17
      induction n17 with
      | zero =>
        intro u9 u10 h11 h12 h13 h14 h15 hm19
        exfalso
        omega
      | succ n17 ih18 =>
        intro u9 u10 h11 h12 h13 h14 h15 hm19
        refine q_iload C dX12_areAlike_39 (n := 41) rfl rfl ?_
        refine q_iconst C dX12_areAlike_41 (n := 42) rfl ?_
        refine q_icmp_ge C 86 dX12_areAlike_42 (n := 45) rfl rfl (by omega) (fun h20 => ?_) (fun h20 => ?_)
        · refine q_iconst C dX12_areAlike_86 (n := 87) rfl ?_
          refine q_istore C [.ref (w.2.1 + a), zi v1, zi v2, zi u9, zi 0] dX12_areAlike_87 (n := 89) rfl rfl rfl ?_
          have L_28 : ∀ n29 : Nat, ∀ (u21 : Int) (u22 : Int), (-2147483648 ≤ u21 ∧ u21 ≤ 2147483647) → (-2147483648 ≤ u22 ∧ u22 ≤ 2147483647) → (0 ≤ u22 ∧ u22 ≤ 9300) → (u21 = 0 ∨ u21 = 1) → (¬ v1 = v2 ∨ u21 = 1) → (9300 - u22 + 1 ≤ (n29 : Int)) → zK w p e 1 0 0 s m args below meth c 5 T Po 89 [.ref (w.2.1 + a), zi v1, zi v2, zi u21, zi u22] [] (T, M, J, R) := by
            intro n29
            induction n29 with
            | zero =>
              intro u21 u22 h23 h24 h25 h26 h27 hm31
              exfalso
              omega
            | succ n29 ih30 =>
              intro u21 u22 h23 h24 h25 h26 h27 hm31
              refine q_iload C dX12_areAlike_89 (n := 91) rfl rfl ?_
              refine q_aload_n C dX12_areAlike_91 (n := 92) rfl rfl ?_
              refine q_getR C dX12_areAlike_92 (n := 95) rfl f_X12_254 (zM0 h0) (hF _ _ _ (zM267 h0)) ?_
              refine q_iload_n C dX12_areAlike_95 (n := 96) rfl rfl ?_
              refine q_iald C dX12_areAlike_96 (n := 97) rfl (zM268 h0) (by omega) (v := M (a + 79) v1) rfl ?_
              refine q_icmp_ge C 145 dX12_areAlike_97 (n := 100) rfl rfl (by omega) (fun h32 => ?_) (fun h32 => ?_)
              · refine q_iload_n C dX12_areAlike_145 (n := 146) rfl rfl ?_
                exact q_zret C dX12_areAlike_146 ⟨rfl, rfl⟩ (by omega) (by rw [hPo]; exact ⟨u21, rfl, rfl, by omega, by omega⟩)
              · refine q_iload_n C dX12_areAlike_100 (n := 101) rfl rfl ?_
                refine q_if_eq C 145 dX12_areAlike_101 (n := 104) rfl rfl (by omega) (fun h33 => ?_) (fun h33 => ?_)
                · refine q_iload_n C dX12_areAlike_145 (n := 146) rfl rfl ?_
                  exact q_zret C dX12_areAlike_146 ⟨rfl, rfl⟩ (by omega) (by rw [hPo]; exact ⟨u21, rfl, rfl, by omega, by omega⟩)
                · refine q_aload_n C dX12_areAlike_104 (n := 105) rfl rfl ?_
                  refine q_getR C dX12_areAlike_105 (n := 108) rfl f_X12_264 (zM0 h0) (hF _ _ _ (zM276 h0)) ?_
                  refine q_sipush C dX12_areAlike_108 (n := 111) rfl (x := 9300) (by decide) ?_
                  refine q_iload_n C dX12_areAlike_111 (n := 112) rfl rfl ?_
                  refine q_imul C dX12_areAlike_112 (n := 113) rfl (v := 9300 * v1) rfl ?_
                  refine q_iload C dX12_areAlike_113 (n := 115) rfl rfl ?_
                  refine q_iadd C dX12_areAlike_115 (n := 116) rfl (v := (9300 * v1) + u22) rfl ?_
                  have g34 := zI.at hI ((zM278 h0) ((9300 * v1) + u22))
                  refine q_bald C dX12_areAlike_116 (n := 117) rfl (zM277 h0) (by omega) (v := M (a + 82) ((9300 * v1) + u22)) rfl ?_
                  refine q_aload_n C dX12_areAlike_117 (n := 118) rfl rfl ?_
                  refine q_getR C dX12_areAlike_118 (n := 121) rfl f_X12_264 (zM0 h0) (hF _ _ _ (zM276 h0)) ?_
                  refine q_sipush C dX12_areAlike_121 (n := 124) rfl (x := 9300) (by decide) ?_
                  refine q_iload_n C dX12_areAlike_124 (n := 125) rfl rfl ?_
                  refine q_imul C dX12_areAlike_125 (n := 126) rfl (v := 9300 * v2) rfl ?_
                  refine q_iload C dX12_areAlike_126 (n := 128) rfl rfl ?_
                  refine q_iadd C dX12_areAlike_128 (n := 129) rfl (v := (9300 * v2) + u22) rfl ?_
                  have g35 := zI.at hI ((zM278 h0) ((9300 * v2) + u22))
                  refine q_bald C dX12_areAlike_129 (n := 130) rfl (zM277 h0) (by omega) (v := M (a + 82) ((9300 * v2) + u22)) rfl ?_
                  have gs36 : ¬ v1 = v2 ∨ M (a + 82) (9300 * v1 + u22) = M (a + 82) (9300 * v2 + u22) := (Decidable.em (v1 = v2)).symm.imp id (fun q => by rw [q])
                  have J_41 : ∀ (u37 : Int), (-2147483648 ≤ u37 ∧ u37 ≤ 2147483647) → (u37 = 0 ∨ u37 = 1) → (¬ v1 = v2 ∨ u37 = 1) → zK w p e 1 0 0 s m args below meth c 5 T Po 138 [.ref (w.2.1 + a), zi v1, zi v2, .null, zi u22] [zi u37] (T, M, J, R) := by
                    intro u37 h38 h39 h40
                    refine q_istore_n C [.ref (w.2.1 + a), zi v1, zi v2, zi u37, zi u22] dX12_areAlike_138 (n := 139) rfl rfl rfl ?_
                    refine q_iinc C [.ref (w.2.1 + a), zi v1, zi v2, zi u37, zi (u22 + 1)] dX12_areAlike_139 (n := 142) rfl rfl rfl rfl ?_
                    refine q_goto C 89 dX12_areAlike_142 rfl ?_
                    exact zK.weak (ih30 u37 (u22 + 1) (by omega) (by omega) (by omega) (by omega) (by omega) (by omega)) (zwk_c (zwk_c (zwk_c (zwk_c (zwk_c zwk_e)))))
                  refine q_icmp_ne C 137 dX12_areAlike_130 (n := 133) rfl rfl (by omega) (fun h42 => ?_) (fun h42 => ?_)
                  · refine q_iconst C dX12_areAlike_137 (n := 138) rfl ?_
                    exact zK.weak (J_41 0 (by omega) (by omega) (by omega)) (zwk_c (zwk_c (zwk_c (zwk_n (zwk_c zwk_e)))))
                  · refine q_iconst C dX12_areAlike_133 (n := 134) rfl ?_
                    refine q_goto C 138 dX12_areAlike_134 rfl ?_
                    exact zK.weak (J_41 1 (by omega) (by omega) (by omega)) (zwk_c (zwk_c (zwk_c (zwk_n (zwk_c zwk_e)))))
          exact zK.weak (L_28 _ u9 0 (by omega) (by omega) (by omega) (by omega) (by omega) (Int.self_le_toNat _)) (zwk_c (zwk_c (zwk_c (zwk_c (zwk_c zwk_e)))))
        · refine q_iload_n C dX12_areAlike_45 (n := 46) rfl rfl ?_
          have J_47 : ∀ (u43 : Int), (-2147483648 ≤ u43 ∧ u43 ≤ 2147483647) → (u43 = 0 ∨ u43 = 1) → (¬ v1 = v2 ∨ u43 = 1) → zK w p e 1 0 0 s m args below meth c 5 T Po 79 [.ref (w.2.1 + a), zi v1, zi v2, .null, zi u10] [zi u43] (T, M, J, R) := by
            intro u43 h44 h45 h46
            refine q_istore_n C [.ref (w.2.1 + a), zi v1, zi v2, zi u43, zi u10] dX12_areAlike_79 (n := 80) rfl rfl rfl ?_
            refine q_iinc C [.ref (w.2.1 + a), zi v1, zi v2, zi u43, zi (u10 + 1)] dX12_areAlike_80 (n := 83) rfl rfl rfl rfl ?_
            refine q_goto C 39 dX12_areAlike_83 rfl ?_
            exact zK.weak (ih18 u43 (u10 + 1) (by omega) (by omega) (by omega) (by omega) (by omega) (by omega)) (zwk_c (zwk_c (zwk_c (zwk_c (zwk_c zwk_e)))))
          have J_49 : (¬ v1 = v2) → zK w p e 1 0 0 s m args below meth c 5 T Po 78 [.ref (w.2.1 + a), zi v1, zi v2, .null, zi u10] [] (T, M, J, R) := by
            intro h48
            refine q_iconst C dX12_areAlike_78 (n := 79) rfl ?_
            exact zK.weak (J_47 0 (by omega) (by omega) (by omega)) (zwk_c (zwk_c (zwk_c (zwk_n (zwk_c zwk_e)))))
          refine q_if_eq C 78 dX12_areAlike_46 (n := 49) rfl rfl (by omega) (fun h50 => ?_) (fun h50 => ?_)
          · exact zK.weak (J_49 (by omega)) (zwk_c (zwk_c (zwk_c (zwk_n (zwk_c zwk_e)))))
          · refine q_aload_n C dX12_areAlike_49 (n := 50) rfl rfl ?_
            refine q_getR C dX12_areAlike_50 (n := 53) rfl f_X12_260 (zM0 h0) (hF _ _ _ (zM273 h0)) ?_
            refine q_iconst C dX12_areAlike_53 (n := 54) rfl ?_
            refine q_iload_n C dX12_areAlike_54 (n := 55) rfl rfl ?_
            refine q_imul C dX12_areAlike_55 (n := 56) rfl (v := 4 * v1) rfl ?_
            refine q_iload C dX12_areAlike_56 (n := 58) rfl rfl ?_
            refine q_iadd C dX12_areAlike_58 (n := 59) rfl (v := (4 * v1) + u10) rfl ?_
            have g51 := zI.at hI ((zM275 h0) ((4 * v1) + u10))
            refine q_iald C dX12_areAlike_59 (n := 60) rfl (zM274 h0) (by omega) (v := M (a + 81) ((4 * v1) + u10)) rfl ?_
            refine q_aload_n C dX12_areAlike_60 (n := 61) rfl rfl ?_
            refine q_getR C dX12_areAlike_61 (n := 64) rfl f_X12_260 (zM0 h0) (hF _ _ _ (zM273 h0)) ?_
            refine q_iconst C dX12_areAlike_64 (n := 65) rfl ?_
            refine q_iload_n C dX12_areAlike_65 (n := 66) rfl rfl ?_
            refine q_imul C dX12_areAlike_66 (n := 67) rfl (v := 4 * v2) rfl ?_
            refine q_iload C dX12_areAlike_67 (n := 69) rfl rfl ?_
            refine q_iadd C dX12_areAlike_69 (n := 70) rfl (v := (4 * v2) + u10) rfl ?_
            have g52 := zI.at hI ((zM275 h0) ((4 * v2) + u10))
            refine q_iald C dX12_areAlike_70 (n := 71) rfl (zM274 h0) (by omega) (v := M (a + 81) ((4 * v2) + u10)) rfl ?_
            have gs53 : ¬ v1 = v2 ∨ M (a + 81) (4 * v1 + u10) = M (a + 81) (4 * v2 + u10) := (Decidable.em (v1 = v2)).symm.imp id (fun q => by rw [q])
            refine q_icmp_ne C 78 dX12_areAlike_71 (n := 74) rfl rfl (by omega) (fun h54 => ?_) (fun h54 => ?_)
            · exact zK.weak (J_49 (by omega)) (zwk_c (zwk_c (zwk_c (zwk_n (zwk_c zwk_e)))))
            · refine q_iconst C dX12_areAlike_74 (n := 75) rfl ?_
              refine q_goto C 79 dX12_areAlike_75 rfl ?_
              exact zK.weak (J_47 1 (by omega) (by omega) (by omega)) (zwk_c (zwk_c (zwk_c (zwk_n (zwk_c zwk_e)))))
    exact zK.weak (L_16 _ u4 0 (by omega) (by omega) (by omega) (by omega) (by omega) (Int.self_le_toNat _)) (zwk_c (zwk_c (zwk_c (zwk_c (zwk_c zwk_e)))))
  have J_56 : (¬ v1 = v2) → zK w p e 1 0 0 s m args below meth c 5 T Po 34 [.ref (w.2.1 + a), zi v1, zi v2, .null, .null] [] (T, M, J, R) := by
    intro h55
    refine q_iconst C dX12_areAlike_34 (n := 35) rfl ?_
    exact zK.weak (J_8 0 (by omega) (by omega) (by omega)) (zwk_c (zwk_c (zwk_c (zwk_n (zwk_n zwk_e)))))
  refine q_icmp_ne C 34 dX12_areAlike_12 (n := 15) rfl rfl (by omega) (fun h57 => ?_) (fun h57 => ?_)
  · exact zK.weak (J_56 (by omega)) (zwk_c (zwk_c (zwk_c (zwk_n (zwk_n zwk_e)))))
  · refine q_aload_n C dX12_areAlike_15 (n := 16) rfl rfl ?_
    refine q_getR C dX12_areAlike_16 (n := 19) rfl f_X12_257 (zM0 h0) (hF _ _ _ (zM270 h0)) ?_
    refine q_iload_n C dX12_areAlike_19 (n := 20) rfl rfl ?_
    have g58 := zI.at hI ((zM272 h0) v1)
    refine q_iald C dX12_areAlike_20 (n := 21) rfl (zM271 h0) (by omega) (v := M (a + 80) v1) rfl ?_
    refine q_aload_n C dX12_areAlike_21 (n := 22) rfl rfl ?_
    refine q_getR C dX12_areAlike_22 (n := 25) rfl f_X12_257 (zM0 h0) (hF _ _ _ (zM270 h0)) ?_
    refine q_iload_n C dX12_areAlike_25 (n := 26) rfl rfl ?_
    have g59 := zI.at hI ((zM272 h0) v2)
    refine q_iald C dX12_areAlike_26 (n := 27) rfl (zM271 h0) (by omega) (v := M (a + 80) v2) rfl ?_
    have gs60 : ¬ v1 = v2 ∨ M (a + 80) (v1) = M (a + 80) (v2) := (Decidable.em (v1 = v2)).symm.imp id (fun q => by rw [q])
    refine q_icmp_ne C 34 dX12_areAlike_27 (n := 30) rfl rfl (by omega) (fun h61 => ?_) (fun h61 => ?_)
    · exact zK.weak (J_56 (by omega)) (zwk_c (zwk_c (zwk_c (zwk_n (zwk_n zwk_e)))))
    · refine q_iconst C dX12_areAlike_30 (n := 31) rfl ?_
      refine q_goto C 35 dX12_areAlike_31 rfl ?_
      exact zK.weak (J_8 1 (by omega) (by omega) (by omega)) (zwk_c (zwk_c (zwk_c (zwk_n (zwk_n zwk_e)))))
theorem c_X12_leastLike {w : zWp} {T : zTl} {M : zMm} {J : zJm} {R : zRm'} {G : zGt} {F : zRm'} {a : Nat} (hI : zI G M) (hF : zF F R) (h0 : zModel T F G a) (v1 : Int) (p1 : 0 ≤ v1 ∧ v1 ≤ 7) : zCt w 2 0 0 yX12_leastLike cX12_leastLike 3 (some .int) [.ref (w.2.1 + a), zi v1] (T, M, J, R) (zPp T M J R (fun x => (0 ≤ x ∧ x ≤ 7))) := by
  refine zCt.of rfl (Nat.le_of_ble_eq_true rfl) ?_
  intro p e s m args below meth c C
  obtain ⟨Po, hPo⟩ : ∃ Po, Po = zPp T M J R (fun x => (0 ≤ x ∧ x ≤ 7)) := ⟨_, rfl⟩
  rw [← hPo]
  show zK w p e 2 0 0 s m args below meth c 3 T Po 0 [.ref (w.2.1 + a), zi v1, .null] [] (T, M, J, R)
  refine q_iconst C dX12_leastLike_0 (n := 1) rfl ?_
  refine q_istore_n C [.ref (w.2.1 + a), zi v1, zi 0] dX12_leastLike_1 (n := 2) rfl rfl rfl ?_
  have L_4 : ∀ n5 : Nat, ∀ (u1 : Int), (-2147483648 ≤ u1 ∧ u1 ≤ 2147483647) → (0 ≤ u1 ∧ u1 ≤ v1) → (8 - u1 ≤ (n5 : Int)) → zK w p e 2 0 0 s m args below meth c 3 T Po 2 [.ref (w.2.1 + a), zi v1, zi u1] [] (T, M, J, R) := by
    intro n5
    induction n5 with
    | zero =>
      intro u1 h2 h3 hm7
      exfalso
      omega
    | succ n5 ih6 =>
      intro u1 h2 h3 hm7
      refine q_aload_n C dX12_leastLike_2 (n := 3) rfl rfl ?_
      refine q_iload_n C dX12_leastLike_3 (n := 4) rfl rfl ?_
      refine q_iload_n C dX12_leastLike_4 (n := 5) rfl rfl ?_
      refine q_callVp C dX12_leastLike_5 (n := 8) rfl m_X12_725 v_yX12_areAlike (zM0 h0) ⟨by decide, rfl⟩ (c_X12_areAlike (w := w) (J := J) hI hF h0 v1 u1 (by omega) (by omega)) (Nat.le_of_ble_eq_true rfl) rfl rfl (Nat.le_of_ble_eq_true rfl) ⟨Nat.le_refl _, Nat.le_refl _⟩ (fun x10 h11 => ?_)
      obtain ⟨h8, h9⟩ := h11
      refine q_if_ne C 17 dX12_leastLike_8 (n := 11) rfl rfl (by omega) (fun h12 => ?_) (fun h12 => ?_)
      · refine q_iload_n C dX12_leastLike_17 (n := 18) rfl rfl ?_
        exact q_iret C dX12_leastLike_18 ⟨rfl, rfl⟩ (by rw [hPo]; exact ⟨u1, rfl, rfl, by omega⟩)
      · refine q_iinc C [.ref (w.2.1 + a), zi v1, zi (u1 + 1)] dX12_leastLike_11 (n := 14) rfl rfl rfl rfl ?_
        refine q_goto C 2 dX12_leastLike_14 rfl ?_
        exact zK.weak (ih6 (u1 + 1) (by omega) (by omega) (by omega)) (zwk_c (zwk_c (zwk_c zwk_e)))
  exact zK.weak (L_4 _ 0 (by omega) (by omega) (Int.self_le_toNat _)) (zwk_c (zwk_c (zwk_c zwk_e)))
