theorem c_X4_read {w : zWp} {T : zTl} {M : zMm} {J : zJm} {R : zRm'} {G : zGt} {F : zRm'} {a b tb : Nat} (hI : zI G M) (hF : zF F R) (h0 : zPage T F G a) (t_b0 : T[b]? = some (51, 440)) (g_b0 : ∀ k, G b k = (tb, (-128), 127)) (v2 : Int) (p1 : 0 ≤ v2 ∧ v2 ≤ 400) (p2 : tb < 20) (p3 : zMo M a) : zCt w 13 0 0 yX4_read cX4_read 5 none [.ref (w.2.1 + a), .ref (w.2.1 + b), zi v2] (T, M, J, R) (zPv T R G (fun M2 => (zKr a 4 M M2) ∧ (zPr M2 a))) := by
  refine zCt.of rfl (Nat.le_of_ble_eq_true rfl) ?_
  intro p e s m args below meth c C
  obtain ⟨Po, hPo⟩ : ∃ Po, Po = zPv T R G (fun M2 => (zKr a 4 M M2) ∧ (zPr M2 a)) := ⟨_, rfl⟩
  rw [← hPo]
  have hK0 : zKr a 4 M M := zKr.rf
  show zK w p e 13 0 0 s m args below meth c 5 T Po 0 [.ref (w.2.1 + a), .ref (w.2.1 + b), zi v2, .null, .null] [] (T, M, J, R)
  refine q_aload_n C dX4_read_0 (n := 1) rfl rfl ?_
  refine q_iconst C dX4_read_1 (n := 2) rfl ?_
  refine q_putZ C dX4_read_2 (n := 5) rfl f_X4_26 h0.1 ⟨rfl, rfl⟩ (by omega) (fun M1 (e2 : M1 = zup M a 4 1) => ?_)
  have hI3 : zI G M1 := hI.put e2 h0.2.2.2.2.2.2.2.2.2.2.2.1 rfl (by omega)
  have hK4 := hK0.put e2 (by omega)
  refine q_aload_n C dX4_read_5 (n := 6) rfl rfl ?_
  refine q_iconst C dX4_read_6 (n := 7) rfl ?_
  refine q_putI C dX4_read_7 (n := 10) rfl f_X4_22 h0.1 ⟨rfl, rfl⟩ (fun M5 (e6 : M5 = zup M1 a 3 0) => ?_)
  have hI7 : zI G M5 := hI3.put e6 h0.2.2.2.2.2.2.2.2.2.2.1 rfl (by omega)
  have hK8 := hK4.put e6 (by omega)
  refine q_iconst C dX4_read_10 (n := 11) rfl ?_
  refine q_istore_n C [.ref (w.2.1 + a), .ref (w.2.1 + b), zi v2, zi 0, .null] dX4_read_11 (n := 12) rfl rfl rfl ?_
  refine q_iconst C dX4_read_12 (n := 13) rfl ?_
  refine q_istore C [.ref (w.2.1 + a), .ref (w.2.1 + b), zi v2, zi 0, zi 0] dX4_read_13 (n := 15) rfl rfl rfl ?_
  have L_21 : ∀ n22 : Nat, ∀ (u9 : Int) (u10 : Int) (M11 : zMm) (J12 : zJm), zI G M11 → zKr a 4 M M11 → (-2147483648 ≤ u9 ∧ u9 ≤ 2147483647) → (-2147483648 ≤ u10 ∧ u10 ≤ 2147483647) → (0 ≤ u10 ∧ u10 ≤ 440) → (u9 = u10) → (zMo M11 a) → (M11 (a + 2) (M11 a 3) ≤ u9) → (440 - u10 + 1 ≤ (n22 : Int)) → zK w p e 13 0 0 s m args below meth c 5 T Po 15 [.ref (w.2.1 + a), .ref (w.2.1 + b), zi v2, zi u9, zi u10] [] (T, M11, J12, R) := by
    intro n22
    induction n22 with
    | zero =>
      intro u9 u10 M11 J12 hI13 hK14 h15 h16 h17 h18 h19 h20 hm24
      exfalso
      omega
    | succ n22 ih23 =>
      intro u9 u10 M11 J12 hI13 hK14 h15 h16 h17 h18 h19 h20 hm24
      refine q_iload C dX4_read_15 (n := 17) rfl rfl ?_
      refine q_iload_n C dX4_read_17 (n := 18) rfl rfl ?_
      have J_25 : zK w p e 13 0 0 s m args below meth c 5 T Po 68 [.ref (w.2.1 + a), .null, .null, zi u9, .null] [] (T, M11, J12, R) := by
        refine q_iload_n C dX4_read_68 (n := 69) rfl rfl ?_
        refine q_aload_n C dX4_read_69 (n := 70) rfl rfl ?_
        refine q_getR C dX4_read_70 (n := 73) rfl f_X4_15 h0.1 (hF _ _ _ h0.2.2.2.2.1) ?_
        refine q_aload_n C dX4_read_73 (n := 74) rfl rfl ?_
        have g26 := zI.at hI13 h0.2.2.2.2.2.2.2.2.2.2.1
        refine q_getI C dX4_read_74 (n := 77) rfl f_X4_22 h0.1 (v := M11 a 3) rfl ?_
        have g27 := zI.at hI13 (h0.2.2.2.2.2.2.1 (M11 a 3))
        refine q_iald C dX4_read_77 (n := 78) rfl h0.2.2.2.2.2.1 (by omega) (v := M11 (a + 2) (M11 a 3)) rfl ?_
        have J_33 : ∀ (M28 : zMm) (J29 : zJm), zI G M28 → zKr a 4 M M28 → (zMo M28 a) → zK w p e 13 0 0 s m args below meth c 5 T Po 103 [.ref (w.2.1 + a), .null, .null, .null, .null] [] (T, M28, J29, R) := by
          intro M28 J29 hI30 hK31 h32
          refine q_aload_n C dX4_read_103 (n := 104) rfl rfl ?_
          refine q_callVv C dX4_read_104 (n := 107) rfl m_X4_40 v_yX4_mark h0.1 ⟨by decide, rfl⟩ (c_X4_mark (w := w) (J := J29) hI30 hF h0) (Nat.le_of_ble_eq_true rfl) rfl rfl (Nat.le_of_ble_eq_true rfl) ⟨Nat.le_refl _, Nat.le_refl _⟩ (fun M37 J38 hI39 h40 => ?_)
          obtain ⟨hk41, h34, h35, h36⟩ := h40
          have hK42 := hK31.tr hk41
          exact q_vret C dX4_read_107 ⟨rfl, rfl⟩ (by rw [hPo]; exact ⟨M37, J38, rfl, rfl, hI39, hK42, ⟨(h32.cg (h34) (fun i => (h35 i))), h36⟩⟩)
        refine q_icmp_le C 103 dX4_read_78 (n := 81) rfl rfl (by omega) (fun h43 => ?_) (fun h43 => ?_)
        · exact zK.weak (J_33 M11 J12 hI13 hK14 h19) (zwk_c (zwk_n (zwk_n (zwk_n (zwk_n zwk_e)))))
        · refine q_iload_n C dX4_read_81 (n := 82) rfl rfl ?_
          refine q_sipush C dX4_read_82 (n := 85) rfl (x := 401) (by decide) ?_
          refine q_icmp_ge C 103 dX4_read_85 (n := 88) rfl rfl (by omega) (fun h44 => ?_) (fun h44 => ?_)
          · exact zK.weak (J_33 M11 J12 hI13 hK14 h19) (zwk_c (zwk_n (zwk_n (zwk_n (zwk_n zwk_e)))))
          · refine q_aload_n C dX4_read_88 (n := 89) rfl rfl ?_
            refine q_getR C dX4_read_89 (n := 92) rfl f_X4_9 h0.1 (hF _ _ _ h0.2.1) ?_
            refine q_iload_n C dX4_read_92 (n := 93) rfl rfl ?_
            refine q_bipush C dX4_read_93 (n := 95) rfl (x := 10) (by decide) ?_
            refine q_bast C dX4_read_95 (n := 96) rfl h0.2.2.1 (by omega) (by omega) (fun M45 e46 => ?_)
            have hI47 : zI G M45 := hI13.put e46 (h0.2.2.2.1 u9) rfl (by omega)
            have hK48 := hK14.put e46 (by omega)
            refine q_aload_n C dX4_read_96 (n := 97) rfl rfl ?_
            refine q_iload_n C dX4_read_97 (n := 98) rfl rfl ?_
            refine q_iconst C dX4_read_98 (n := 99) rfl ?_
            refine q_iadd C dX4_read_99 (n := 100) rfl (v := u9 + 1) rfl ?_
            refine q_callVv C dX4_read_100 (n := 103) rfl m_X4_36 v_yX4_closeLine h0.1 ⟨by decide, rfl⟩ (c_X4_closeLine (w := w) (J := J12) hI47 hF h0 (u9 + 1) (by omega) (by have h3 : M45 a 3 = M11 a 3 := (zup_p e46 (by omega) _); have h2 : ∀ i, M45 (a + 2) i = M11 (a + 2) i := (fun i => (zup_p e46 (by omega) _)); rw [h3, h2]; omega) (h19.cg (zup_p e46 (by omega) _) (fun i => (zup_p e46 (by omega) _)))) (Nat.le_of_ble_eq_true rfl) rfl rfl (Nat.le_of_ble_eq_true rfl) ⟨Nat.le_refl _, Nat.le_refl _⟩ (fun M51 J52 hI53 h54 => ?_)
            obtain ⟨hk55, h49, h50⟩ := h54
            have hK56 := hK48.tr hk55
            exact zK.weak (J_33 M51 J52 hI53 hK56 h49) (zwk_c (zwk_n (zwk_n (zwk_n (zwk_n zwk_e)))))
      refine q_icmp_ge C 68 dX4_read_18 (n := 21) rfl rfl (by omega) (fun h57 => ?_) (fun h57 => ?_)
      · exact zK.weak (J_25) (zwk_c (zwk_n (zwk_n (zwk_c (zwk_n zwk_e)))))
      · refine q_iload C dX4_read_21 (n := 23) rfl rfl ?_
        refine q_aload_n C dX4_read_23 (n := 24) rfl rfl ?_
        refine q_alen C dX4_read_24 (n := 25) rfl ⟨by decide, by decide⟩ t_b0 ?_
        show zK w p e 13 0 0 s m args below meth c 5 T Po 25 [.ref (w.2.1 + a), .ref (w.2.1 + b), zi v2, zi u9, zi u10] [zi 440, zi u10] (T, M11, J12, R)
        refine q_icmp_ge C 68 dX4_read_25 (n := 28) rfl rfl (by omega) (fun h58 => ?_) (fun h58 => ?_)
        · exact zK.weak (J_25) (zwk_c (zwk_n (zwk_n (zwk_c (zwk_n zwk_e)))))
        · refine q_iload_n C dX4_read_28 (n := 29) rfl rfl ?_
          refine q_sipush C dX4_read_29 (n := 32) rfl (x := 401) (by decide) ?_
          refine q_icmp_ge C 68 dX4_read_32 (n := 35) rfl rfl (by omega) (fun h59 => ?_) (fun h59 => ?_)
          · exact zK.weak (J_25) (zwk_c (zwk_n (zwk_n (zwk_c (zwk_n zwk_e)))))
          · refine q_aload_n C dX4_read_35 (n := 36) rfl rfl ?_
            refine q_getR C dX4_read_36 (n := 39) rfl f_X4_9 h0.1 (hF _ _ _ h0.2.1) ?_
            refine q_iload_n C dX4_read_39 (n := 40) rfl rfl ?_
            refine q_aload_n C dX4_read_40 (n := 41) rfl rfl ?_
            refine q_iload C dX4_read_41 (n := 43) rfl rfl ?_
            have g60 := zI.at hI13 (g_b0 u10)
            refine q_bald C dX4_read_43 (n := 44) rfl t_b0 (by omega) (v := M11 b u10) rfl ?_
            refine q_bast C dX4_read_44 (n := 45) rfl h0.2.2.1 (by omega) (by omega) (fun M61 e62 => ?_)
            have hI63 : zI G M61 := hI13.put e62 (h0.2.2.2.1 u9) rfl (by omega)
            have hK64 := hK14.put e62 (by omega)
            refine q_iinc C [.ref (w.2.1 + a), .ref (w.2.1 + b), zi v2, zi (u9 + 1), zi u10] dX4_read_45 (n := 48) rfl rfl rfl rfl ?_
            refine q_aload_n C dX4_read_48 (n := 49) rfl rfl ?_
            refine q_iload C dX4_read_49 (n := 51) rfl rfl ?_
            refine q_bald C dX4_read_51 (n := 52) rfl t_b0 (by omega) (v := M11 b u10) (zup_n e62 (zne_t (g_b0 u10) (h0.2.2.2.1 u9) (by omega))) ?_
            refine q_bipush C dX4_read_52 (n := 54) rfl (x := 10) (by decide) ?_
            have J_71 : ∀ (M65 : zMm) (J66 : zJm), zI G M65 → zKr a 4 M M65 → (zMo M65 a) → (M65 (a + 2) (M65 a 3) ≤ (u9 + 1)) → zK w p e 13 0 0 s m args below meth c 5 T Po 62 [.ref (w.2.1 + a), .ref (w.2.1 + b), zi v2, zi (u9 + 1), zi u10] [] (T, M65, J66, R) := by
              intro M65 J66 hI67 hK68 h69 h70
              refine q_iinc C [.ref (w.2.1 + a), .ref (w.2.1 + b), zi v2, zi (u9 + 1), zi (u10 + 1)] dX4_read_62 (n := 65) rfl rfl rfl rfl ?_
              refine q_goto C 15 dX4_read_65 rfl ?_
              exact zK.weak (ih23 (u9 + 1) (u10 + 1) M65 J66 hI67 hK68 (by omega) (by omega) (by omega) (by omega) h69 (by omega) (by omega)) (zwk_c (zwk_c (zwk_c (zwk_c (zwk_c zwk_e)))))
            refine q_icmp_ne C 62 dX4_read_54 (n := 57) rfl rfl (by omega) (fun h72 => ?_) (fun h72 => ?_)
            · exact zK.weak (J_71 M61 J12 hI63 hK64 (h19.cg (zup_p e62 (by omega) _) (fun i => (zup_p e62 (by omega) _))) (by have h3 : M61 a 3 = M11 a 3 := (zup_p e62 (by omega) _); have h2 : ∀ i, M61 (a + 2) i = M11 (a + 2) i := (fun i => (zup_p e62 (by omega) _)); rw [h3, h2]; omega)) (zwk_c (zwk_c (zwk_c (zwk_c (zwk_c zwk_e)))))
            · refine q_aload_n C dX4_read_57 (n := 58) rfl rfl ?_
              refine q_iload_n C dX4_read_58 (n := 59) rfl rfl ?_
              refine q_callVv C dX4_read_59 (n := 62) rfl m_X4_36 v_yX4_closeLine h0.1 ⟨by decide, rfl⟩ (c_X4_closeLine (w := w) (J := J12) hI63 hF h0 (u9 + 1) (by omega) (by have h3 : M61 a 3 = M11 a 3 := (zup_p e62 (by omega) _); have h2 : ∀ i, M61 (a + 2) i = M11 (a + 2) i := (fun i => (zup_p e62 (by omega) _)); rw [h3, h2]; omega) (h19.cg (zup_p e62 (by omega) _) (fun i => (zup_p e62 (by omega) _)))) (Nat.le_of_ble_eq_true rfl) rfl rfl (Nat.le_of_ble_eq_true rfl) ⟨Nat.le_refl _, Nat.le_refl _⟩ (fun M75 J76 hI77 h78 => ?_)
              obtain ⟨hk79, h73, h74⟩ := h78
              have hK80 := hK64.tr hk79
              exact zK.weak (J_71 M75 J76 hI77 hK80 h73 (by omega)) (zwk_c (zwk_c (zwk_c (zwk_c (zwk_c zwk_e)))))
  exact zK.weak (L_21 _ 0 0 M5 J hI7 hK8 (by omega) (by omega) (by omega) (by omega) (zMo.nil (by have hz : M5 a 3 = 0 := (zup_s e6); omega) (((zup_p e6 (by omega) _).trans (zup_p e2 (by omega) _)).trans p3.2)) (by have h3 : M5 a 3 = 0 := (zup_s e6); rw [h3]; have h2 : M5 (a + 2) 0 = 0 := (((zup_p e6 (by omega) _).trans (zup_p e2 (by omega) _)).trans p3.2); omega) (Int.self_le_toNat _)) (zwk_c (zwk_c (zwk_c (zwk_c (zwk_c zwk_e)))))
