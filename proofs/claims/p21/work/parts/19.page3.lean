theorem zPgB {T : zTl} {F : zRm'} {G : zGt} {a b : Nat} (h : zPage T F G a) (hb : T[b]? = some (51, 440)) : b + 1 ≤ a ∨ a + 4 ≤ b := by
  by_cases z : b + 1 ≤ a ∨ a + 4 ≤ b
  · exact z
  · exfalso
    rcases (show b = a ∨ b = a + 1 ∨ b = a + 2 ∨ b = a + 3 by omega) with rfl | rfl | rfl | rfl
    · rw [h.1] at hb
      exact absurd hb (by decide)
    · rw [h.2.2.1] at hb
      exact absurd hb (by decide)
    · rw [h.2.2.2.2.2.1] at hb
      exact absurd hb (by decide)
    · rw [h.2.2.2.2.2.2.2.2.1] at hb
      exact absurd hb (by decide)

theorem c_X4_read {w : zWp} {T : zTl} {M : zMm} {J : zJm} {R : zRm'} {G : zGt} {F : zRm'} {a b tb : Nat} (hI : zI G M) (hF : zF F R) (h0 : zPage T F G a) (t_b0 : T[b]? = some (51, 440)) (g_b0 : ∀ k, G b k = (tb, (-128), 127)) (v2 : Int) (p1 : 0 ≤ v2 ∧ v2 ≤ 400) (p2 : tb < 20) (p3 : zMo M a) (p4 : v2 = 0 ∨ zTen (M b) (v2 - 1).toNat + 1 ≤ 40) : zCt w 13 0 0 yX4_read cX4_read 5 none [.ref (w.2.1 + a), .ref (w.2.1 + b), zi v2] (T, M, J, R) (zPv T R G (fun M2 => (zKr a 4 M M2) ∧ (zPr M2 a) ∧ (v2 = 0 ∧ M2 a 3 = 0 ∨ 1 ≤ v2 ∧ M2 a 3 = zTen (M b) (v2 - 1).toNat + 1))) := by
  refine zCt.of rfl (Nat.le_of_ble_eq_true rfl) ?_
  intro p e s m args below meth c C
  obtain ⟨Po, hPo⟩ : ∃ Po, Po = zPv T R G (fun M2 => (zKr a 4 M M2) ∧ (zPr M2 a) ∧ (v2 = 0 ∧ M2 a 3 = 0 ∨ 1 ≤ v2 ∧ M2 a 3 = zTen (M b) (v2 - 1).toNat + 1)) := ⟨_, rfl⟩
  rw [← hPo]
  have hK0 : zKr a 4 M M := zKr.rf
  have hbd : b + 1 ≤ a ∨ a + 4 ≤ b := zPgB h0 t_b0
  have gz0 := zTen_0 (g := M b)
  show zK w p e 13 0 0 s m args below meth c 5 T Po 0 [.ref (w.2.1 + a), .ref (w.2.1 + b), zi v2, .null, .null] [] (T, M, J, R)
  refine q_aload_n C dX4_read_0 (n := 1) rfl rfl ?_
  refine q_iconst C dX4_read_1 (n := 2) rfl ?_
  refine q_putZ C dX4_read_2 (n := 5) rfl f_X4_26 h0.1 ⟨rfl, rfl⟩ (by omega) (fun M1 (e2 : M1 = zup M a 4 1) => ?_)
  have hI3 : zI G M1 := hI.put e2 h0.2.2.2.2.2.2.2.2.2.2.2.1 rfl (by omega)
  have hK4 := hK0.put e2 (by omega)
  refine q_aload_n C dX4_read_5 (n := 6) rfl rfl ?_
  refine q_iconst C dX4_read_6 (n := 7) rfl ?_
  refine q_putI C dX4_read_7 (n := 10) rfl f_X4_22 h0.1 ⟨rfl, rfl⟩ (fun M5 (e6 : M5 = zup M1 a 3 0) => ?_)
  have hI7 : zI G M5 := hI3.put e6 h0.2.2.2.2.2.2.2.2.2.2.1 rfl (by omega)
  have hK8 := hK4.put e6 (by omega)
  refine q_iconst C dX4_read_10 (n := 11) rfl ?_
  refine q_istore_n C [.ref (w.2.1 + a), .ref (w.2.1 + b), zi v2, zi 0, .null] dX4_read_11 (n := 12) rfl rfl rfl ?_
  refine q_iconst C dX4_read_12 (n := 13) rfl ?_
  refine q_istore C [.ref (w.2.1 + a), .ref (w.2.1 + b), zi v2, zi 0, zi 0] dX4_read_13 (n := 15) rfl rfl rfl ?_
  have L_24 : ∀ n25 : Nat, ∀ (u9 : Int) (u10 : Int) (M11 : zMm) (J12 : zJm), zI G M11 → zKr a 4 M M11 → (-2147483648 ≤ u9 ∧ u9 ≤ 2147483647) → (-2147483648 ≤ u10 ∧ u10 ≤ 2147483647) → (0 ≤ u10 ∧ u10 ≤ v2) → (u9 = u10) → (zMo M11 a) → (M11 (a + 2) (M11 a 3) ≤ u9) → (∀ i, M11 b i = M b i) → (M11 a 3 = zTen (M b) (u10 : Int).toNat) → (M11 (a + 2) (M11 a 3) = u9 ∧ (u10 = 0 ∨ M b (u10 - 1) = 10) ∨ M11 (a + 2) (M11 a 3) < u9 ∧ 1 ≤ u10 ∧ M b (u10 - 1) ≠ 10) → (440 - u10 + 1 ≤ (n25 : Int)) → zK w p e 13 0 0 s m args below meth c 5 T Po 15 [.ref (w.2.1 + a), .ref (w.2.1 + b), zi v2, zi u9, zi u10] [] (T, M11, J12, R) := by
    intro n25
    induction n25 with
    | zero =>
      intro u9 u10 M11 J12 hI13 hK14 h15 h16 h17 h18 h19 h20 h21 h22 h23 hm27
      exfalso
      omega
    | succ n25 ih26 =>
      intro u9 u10 M11 J12 hI13 hK14 h15 h16 h17 h18 h19 h20 h21 h22 h23 hm27
      have gE := zTen_e (g := M b) (i := u10) (v := v2) (by omega)
      refine q_iload C dX4_read_15 (n := 17) rfl rfl ?_
      refine q_iload_n C dX4_read_17 (n := 18) rfl rfl ?_
      have J_29 : (v2 ≤ u10) → zK w p e 13 0 0 s m args below meth c 5 T Po 68 [.ref (w.2.1 + a), .null, .null, zi u9, .null] [] (T, M11, J12, R) := by
        intro h28
        refine q_iload_n C dX4_read_68 (n := 69) rfl rfl ?_
        refine q_aload_n C dX4_read_69 (n := 70) rfl rfl ?_
        refine q_getR C dX4_read_70 (n := 73) rfl f_X4_15 h0.1 (hF _ _ _ h0.2.2.2.2.1) ?_
        refine q_aload_n C dX4_read_73 (n := 74) rfl rfl ?_
        have g30 := zI.at hI13 h0.2.2.2.2.2.2.2.2.2.2.1
        refine q_getI C dX4_read_74 (n := 77) rfl f_X4_22 h0.1 (v := M11 a 3) rfl ?_
        have g31 := zI.at hI13 (h0.2.2.2.2.2.2.1 (M11 a 3))
        refine q_iald C dX4_read_77 (n := 78) rfl h0.2.2.2.2.2.1 (by omega) (v := M11 (a + 2) (M11 a 3)) rfl ?_
        have J_38 : ∀ (M32 : zMm) (J33 : zJm), zI G M32 → zKr a 4 M M32 → (zMo M32 a) → (v2 = 0 ∧ M32 a 3 = 0 ∨ 1 ≤ v2 ∧ M32 a 3 = zTen (M b) (v2 - 1).toNat + 1) → zK w p e 13 0 0 s m args below meth c 5 T Po 103 [.ref (w.2.1 + a), .null, .null, .null, .null] [] (T, M32, J33, R) := by
          intro M32 J33 hI34 hK35 h36 h37
          refine q_aload_n C dX4_read_103 (n := 104) rfl rfl ?_
          refine q_callVv C dX4_read_104 (n := 107) rfl m_X4_40 v_yX4_mark h0.1 ⟨by decide, rfl⟩ (c_X4_mark (w := w) (J := J33) hI34 hF h0) (Nat.le_of_ble_eq_true rfl) rfl rfl (Nat.le_of_ble_eq_true rfl) ⟨Nat.le_refl _, Nat.le_refl _⟩ (fun M42 J43  hI44 h45 => ?_)
          obtain ⟨hk46, h39, h40, h41⟩ := h45
          have hK47 := hK35.tr hk46
          exact q_vret C dX4_read_107 ⟨rfl, rfl⟩ (by rw [hPo]; exact ⟨M42, J43, rfl, rfl, hI44, hK47, ⟨(h36.cg (h39) (fun i => (h40 i))), h41⟩, (by have hz48 : M42 a 3 = M32 a 3 := (h39); omega)⟩)
        refine q_icmp_le C 103 dX4_read_78 (n := 81) rfl rfl (by omega) (fun h49 => ?_) (fun h49 => ?_)
        · exact zK.weak (J_38 M11 J12 hI13 hK14 h19 (by omega)) (zwk_c (zwk_n (zwk_n (zwk_n (zwk_n zwk_e)))))
        · refine q_iload_n C dX4_read_81 (n := 82) rfl rfl ?_
          refine q_sipush C dX4_read_82 (n := 85) rfl (x := 401) (by decide) ?_
          refine q_icmp_ge C 103 dX4_read_85 (n := 88) rfl rfl (by omega) (fun h50 => ?_) (fun h50 => ?_)
          · exact zK.weak (J_38 M11 J12 hI13 hK14 h19 (by omega)) (zwk_c (zwk_n (zwk_n (zwk_n (zwk_n zwk_e)))))
          · refine q_aload_n C dX4_read_88 (n := 89) rfl rfl ?_
            refine q_getR C dX4_read_89 (n := 92) rfl f_X4_9 h0.1 (hF _ _ _ h0.2.1) ?_
            refine q_iload_n C dX4_read_92 (n := 93) rfl rfl ?_
            refine q_bipush C dX4_read_93 (n := 95) rfl (x := 10) (by decide) ?_
            refine q_bast C dX4_read_95 (n := 96) rfl h0.2.2.1 (by omega) (by omega) (fun M51 e52 => ?_)
            have hI53 : zI G M51 := hI13.put e52 (h0.2.2.2.1 u9) rfl (by omega)
            have hK54 := hK14.put e52 (by omega)
            refine q_aload_n C dX4_read_96 (n := 97) rfl rfl ?_
            refine q_iload_n C dX4_read_97 (n := 98) rfl rfl ?_
            refine q_iconst C dX4_read_98 (n := 99) rfl ?_
            refine q_iadd C dX4_read_99 (n := 100) rfl (v := u9 + 1) rfl ?_
            refine q_callVv C dX4_read_100 (n := 103) rfl m_X4_36 v_yX4_closeLine h0.1 ⟨by decide, rfl⟩ (c_X4_closeLine (w := w) (J := J12) hI53 hF h0 (u9 + 1) (by omega) (by have h3 : M51 a 3 = M11 a 3 := (zup_p e52 (by omega) _); have h2 : ∀ i, M51 (a + 2) i = M11 (a + 2) i := (fun i => (zup_p e52 (by omega) _)); rw [h3, h2]; omega) (h19.cg (zup_p e52 (by omega) _) (fun i => (zup_p e52 (by omega) _)))) (Nat.le_of_ble_eq_true rfl) rfl rfl (Nat.le_of_ble_eq_true rfl) ⟨Nat.le_refl _, Nat.le_refl _⟩ (fun M58 J59  hI60 h61 => ?_)
            obtain ⟨hk62, h55, h56, h57⟩ := h61
            have hK63 := hK54.tr hk62
            have hz64 : M51 a 3 = M11 a 3 := (zup_p e52 (by omega) _)
            exact zK.weak (J_38 M58 J59 hI60 hK63 h55 (by omega)) (zwk_c (zwk_n (zwk_n (zwk_n (zwk_n zwk_e)))))
      refine q_icmp_ge C 68 dX4_read_18 (n := 21) rfl rfl (by omega) (fun h65 => ?_) (fun h65 => ?_)
      · exact zK.weak (J_29 (by omega)) (zwk_c (zwk_n (zwk_n (zwk_c (zwk_n zwk_e)))))
      · refine q_iload C dX4_read_21 (n := 23) rfl rfl ?_
        refine q_aload_n C dX4_read_23 (n := 24) rfl rfl ?_
        refine q_alen C dX4_read_24 (n := 25) rfl ⟨by decide, by decide⟩ t_b0 ?_
        show zK w p e 13 0 0 s m args below meth c 5 T Po 25 [.ref (w.2.1 + a), .ref (w.2.1 + b), zi v2, zi u9, zi u10] [zi 440, zi u10] (T, M11, J12, R)
        refine q_icmp_ge C 68 dX4_read_25 (n := 28) rfl rfl (by omega) (fun h66 => ?_) (fun h66 => ?_)
        · exact zK.weak (J_29 (by omega)) (zwk_c (zwk_n (zwk_n (zwk_c (zwk_n zwk_e)))))
        · refine q_iload_n C dX4_read_28 (n := 29) rfl rfl ?_
          refine q_sipush C dX4_read_29 (n := 32) rfl (x := 401) (by decide) ?_
          refine q_icmp_ge C 68 dX4_read_32 (n := 35) rfl rfl (by omega) (fun h67 => ?_) (fun h67 => ?_)
          · exact zK.weak (J_29 (by omega)) (zwk_c (zwk_n (zwk_n (zwk_c (zwk_n zwk_e)))))
          · refine q_aload_n C dX4_read_35 (n := 36) rfl rfl ?_
            refine q_getR C dX4_read_36 (n := 39) rfl f_X4_9 h0.1 (hF _ _ _ h0.2.1) ?_
            refine q_iload_n C dX4_read_39 (n := 40) rfl rfl ?_
            refine q_aload_n C dX4_read_40 (n := 41) rfl rfl ?_
            refine q_iload C dX4_read_41 (n := 43) rfl rfl ?_
            have g68 := zI.at hI (g_b0 u10)
            refine q_bald C dX4_read_43 (n := 44) rfl t_b0 (by omega) (v := M b u10) (h21 u10) ?_
            refine q_bast C dX4_read_44 (n := 45) rfl h0.2.2.1 (by omega) (by omega) (fun M69 e70 => ?_)
            have hI71 : zI G M69 := hI13.put e70 (h0.2.2.2.1 u9) rfl (by omega)
            have hK72 := hK14.put e70 (by omega)
            have gs := zTen_s (g := M b) (i := u10) (by omega)
            have gm := zTen_le (g := M b) (i := u10) (j := v2 - 1) (by omega)
            refine q_iinc C [.ref (w.2.1 + a), .ref (w.2.1 + b), zi v2, zi (u9 + 1), zi u10] dX4_read_45 (n := 48) rfl rfl rfl rfl ?_
            refine q_aload_n C dX4_read_48 (n := 49) rfl rfl ?_
            refine q_iload C dX4_read_49 (n := 51) rfl rfl ?_
            refine q_bald C dX4_read_51 (n := 52) rfl t_b0 (by omega) (v := M b u10) ((zup_p e70 (by omega) _).trans (h21 u10)) ?_
            refine q_bipush C dX4_read_52 (n := 54) rfl (x := 10) (by decide) ?_
            have J_82 : ∀ (M73 : zMm) (J74 : zJm), zI G M73 → zKr a 4 M M73 → (zMo M73 a) → (M73 (a + 2) (M73 a 3) ≤ (u9 + 1)) → (∀ i, M73 b i = M b i) → (M73 a 3 = zTen (M b) (u10 + 1 : Int).toNat) → (M73 (a + 2) (M73 a 3) = (u9 + 1) ∧ M b u10 = 10 ∨ M73 (a + 2) (M73 a 3) < (u9 + 1) ∧ M b u10 ≠ 10) → zK w p e 13 0 0 s m args below meth c 5 T Po 62 [.ref (w.2.1 + a), .ref (w.2.1 + b), zi v2, zi (u9 + 1), zi u10] [] (T, M73, J74, R) := by
              intro M73 J74 hI75 hK76 h77 h78 h79 h80 h81
              refine q_iinc C [.ref (w.2.1 + a), .ref (w.2.1 + b), zi v2, zi (u9 + 1), zi (u10 + 1)] dX4_read_62 (n := 65) rfl rfl rfl rfl ?_
              refine q_goto C 15 dX4_read_65 rfl ?_
              exact zK.weak (ih26 (u9 + 1) (u10 + 1) M73 J74 hI75 hK76 (by omega) (by omega) (by omega) (by omega) h77 (by omega) (fun i => (h79 i)) (by omega) (by rw [show (u10 + 1 : Int) - 1 = u10 by omega]; omega) (by omega)) (zwk_c (zwk_c (zwk_c (zwk_c (zwk_c zwk_e)))))
            refine q_icmp_ne C 62 dX4_read_54 (n := 57) rfl rfl (by omega) (fun h83 => ?_) (fun h83 => ?_)
            · exact zK.weak (J_82 M69 J12 hI71 hK72 (h19.cg (zup_p e70 (by omega) _) (fun i => (zup_p e70 (by omega) _))) (by have h3 : M69 a 3 = M11 a 3 := (zup_p e70 (by omega) _); have h2 : ∀ i, M69 (a + 2) i = M11 (a + 2) i := (fun i => (zup_p e70 (by omega) _)); rw [h3, h2]; omega) (fun i => ((zup_p e70 (by omega) _).trans (h21 i))) (by have hz84 : M69 a 3 = M11 a 3 := (zup_p e70 (by omega) _); omega) (by have h3 : M69 a 3 = M11 a 3 := (zup_p e70 (by omega) _); have h2 : ∀ i, M69 (a + 2) i = M11 (a + 2) i := (fun i => (zup_p e70 (by omega) _)); rw [h3, h2]; omega)) (zwk_c (zwk_c (zwk_c (zwk_c (zwk_c zwk_e)))))
            · refine q_aload_n C dX4_read_57 (n := 58) rfl rfl ?_
              refine q_iload_n C dX4_read_58 (n := 59) rfl rfl ?_
              refine q_callVv C dX4_read_59 (n := 62) rfl m_X4_36 v_yX4_closeLine h0.1 ⟨by decide, rfl⟩ (c_X4_closeLine (w := w) (J := J12) hI71 hF h0 (u9 + 1) (by omega) (by have h3 : M69 a 3 = M11 a 3 := (zup_p e70 (by omega) _); have h2 : ∀ i, M69 (a + 2) i = M11 (a + 2) i := (fun i => (zup_p e70 (by omega) _)); rw [h3, h2]; omega) (h19.cg (zup_p e70 (by omega) _) (fun i => (zup_p e70 (by omega) _)))) (Nat.le_of_ble_eq_true rfl) rfl rfl (Nat.le_of_ble_eq_true rfl) ⟨Nat.le_refl _, Nat.le_refl _⟩ (fun M88 J89  hI90 h91 => ?_)
              obtain ⟨hk92, h85, h86, h87⟩ := h91
              have hK93 := hK72.tr hk92
              have hz94 : M69 a 3 = M11 a 3 := (zup_p e70 (by omega) _)
              exact zK.weak (J_82 M88 J89 hI90 hK93 h85 (by omega) (fun i => ((hk92 _ _ (by omega)).trans ((zup_p e70 (by omega) _).trans (h21 i)))) (by omega) (by omega)) (zwk_c (zwk_c (zwk_c (zwk_c (zwk_c zwk_e)))))
  exact zK.weak (L_24 _ 0 0 M5 J hI7 hK8 (by omega) (by omega) (by omega) (by omega) (zMo.nil (by have hz : M5 a 3 = 0 := (zup_s e6); omega) (((zup_p e6 (by omega) _).trans (zup_p e2 (by omega) _)).trans p3.2)) (by have h3 : M5 a 3 = 0 := (zup_s e6); rw [h3]; have h2 : M5 (a + 2) 0 = 0 := (((zup_p e6 (by omega) _).trans (zup_p e2 (by omega) _)).trans p3.2); omega) (fun i => ((zup_p e6 (by omega) _).trans (zup_p e2 (by omega) _))) (by have hz95 : M5 a 3 = 0 := (zup_s e6); omega) (Or.inl ⟨by have h3 : M5 a 3 = 0 := (zup_s e6); rw [h3]; exact (((zup_p e6 (by omega) _).trans (zup_p e2 (by omega) _)).trans p3.2), Or.inl rfl⟩) (Int.self_le_toNat _)) (zwk_c (zwk_c (zwk_c (zwk_c (zwk_c zwk_e)))))
theorem c_X4_change {w : zWp} {T : zTl} {M : zMm} {J : zJm} {R : zRm'} {G : zGt} {F : zRm'} {a b tb : Nat} (hI : zI G M) (hF : zF F R) (h0 : zPage T F G a) (v1 : Int) (t_b0 : T[b]? = some (51, 440)) (g_b0 : ∀ k, G b k = (tb, (-128), 127)) (v3 : Int) (p1 : 0 ≤ v1 ∧ v1 ≤ M a 3) (p2 : 0 ≤ v3 ∧ v3 ≤ 440) (p3 : tb < 20) (p4 : zPr M a) : zCt w 13 0 0 yX4_change cX4_change 8 (some .boolean) [.ref (w.2.1 + a), zi v1, .ref (w.2.1 + b), zi v3] (T, M, J, R) (zPi T R G (fun x M2 => (zKr a 4 M M2) ∧ (x = 0 ∨ x = 1) ∧ (zPr M2 a))) := by
  refine zCt.of rfl (Nat.le_of_ble_eq_true rfl) ?_
  intro p e s m args below meth c C
  obtain ⟨Po, hPo⟩ : ∃ Po, Po = zPi T R G (fun x M2 => (zKr a 4 M M2) ∧ (x = 0 ∨ x = 1) ∧ (zPr M2 a)) := ⟨_, rfl⟩
  rw [← hPo]
  have hK0 : zKr a 4 M M := zKr.rf
  show zK w p e 13 0 0 s m args below meth c 8 T Po 0 [.ref (w.2.1 + a), zi v1, .ref (w.2.1 + b), zi v3, .null, .null, .null, .null] [] (T, M, J, R)
  have q0 := zI.at hI h0.2.2.2.2.2.2.2.2.2.2.1
  have q1 := p4.1.lt (i := v1) (j := M a 3) (by omega) (by omega) (by omega)
  have q2 : v1 < M a 3 → M (a + 2) v1 ≤ M (a + 2) (v1 + 1) := fun h => p4.1.1 v1 (by omega) h
  have q3 : v1 < M a 3 → M (a + 2) (v1 + 1) ≤ M (a + 2) (M a 3) := fun h => p4.1.lt (by omega) (by omega) (by omega)
  refine q_iload_n C dX4_change_0 (n := 1) rfl rfl ?_
  refine q_aload_n C dX4_change_1 (n := 2) rfl rfl ?_
  have g1 := zI.at hI h0.2.2.2.2.2.2.2.2.2.2.1
  refine q_getI C dX4_change_2 (n := 5) rfl f_X4_22 h0.1 (v := M a 3) rfl ?_
  have J_6 : ∀ (u2 : Int), (-2147483648 ≤ u2 ∧ u2 ≤ 2147483647) → (u2 = 0 ∨ u2 = 1) → (u2 = 1 ∧ v1 = M a 3 ∨ u2 = 0 ∧ ¬ v1 = M a 3) → zK w p e 13 0 0 s m args below meth c 8 T Po 13 [.ref (w.2.1 + a), zi v1, .ref (w.2.1 + b), zi v3, .null, .null, .null, .null] [zi u2] (T, M, J, R) := by
    intro u2 h3 h4 h5
    refine q_istore C [.ref (w.2.1 + a), zi v1, .ref (w.2.1 + b), zi v3, zi u2, .null, .null, .null] dX4_change_13 (n := 15) rfl rfl rfl ?_
    refine q_iload C dX4_change_15 (n := 17) rfl rfl ?_
    have J_10 : ∀ (u7 : Int), (-2147483648 ≤ u7 ∧ u7 ≤ 2147483647) → ((u7 = M (a + 2) (M a 3) ∧ v1 = M a 3) ∨ (u7 = M (a + 2) (v1 + 1) ∧ v1 < M a 3)) → zK w p e 13 0 0 s m args below meth c 8 T Po 40 [.ref (w.2.1 + a), zi v1, .ref (w.2.1 + b), zi v3, zi u2, .null, .null, .null] [zi u7] (T, M, J, R) := by
      intro u7 h8 h9
      refine q_istore C [.ref (w.2.1 + a), zi v1, .ref (w.2.1 + b), zi v3, zi u2, zi u7, .null, .null] dX4_change_40 (n := 42) rfl rfl rfl ?_
      refine q_aload_n C dX4_change_42 (n := 43) rfl rfl ?_
      refine q_getR C dX4_change_43 (n := 46) rfl f_X4_15 h0.1 (hF _ _ _ h0.2.2.2.2.1) ?_
      refine q_iload_n C dX4_change_46 (n := 47) rfl rfl ?_
      have g11 := zI.at hI (h0.2.2.2.2.2.2.1 v1)
      refine q_iald C dX4_change_47 (n := 48) rfl h0.2.2.2.2.2.1 (by omega) (v := M (a + 2) v1) rfl ?_
      refine q_iload_n C dX4_change_48 (n := 49) rfl rfl ?_
      refine q_iadd C dX4_change_49 (n := 50) rfl (v := (M (a + 2) v1) + v3) rfl ?_
      refine q_iconst C dX4_change_50 (n := 51) rfl ?_
      refine q_iadd C dX4_change_51 (n := 52) rfl (v := ((M (a + 2) v1) + v3) + 1) rfl ?_
      refine q_iload C dX4_change_52 (n := 54) rfl rfl ?_
      refine q_isub C dX4_change_54 (n := 55) rfl (v := (((M (a + 2) v1) + v3) + 1) - u7) rfl ?_
      refine q_istore C [.ref (w.2.1 + a), zi v1, .ref (w.2.1 + b), zi v3, zi u2, zi u7, zi ((((M (a + 2) v1) + v3) + 1) - u7), .null] dX4_change_55 (n := 57) rfl rfl rfl ?_
      refine q_aload_n C dX4_change_57 (n := 58) rfl rfl ?_
      refine q_getR C dX4_change_58 (n := 61) rfl f_X4_15 h0.1 (hF _ _ _ h0.2.2.2.2.1) ?_
      refine q_aload_n C dX4_change_61 (n := 62) rfl rfl ?_
      refine q_getI C dX4_change_62 (n := 65) rfl f_X4_22 h0.1 (v := M a 3) rfl ?_
      have g12 := zI.at hI (h0.2.2.2.2.2.2.1 (M a 3))
      refine q_iald C dX4_change_65 (n := 66) rfl h0.2.2.2.2.2.1 (by omega) (v := M (a + 2) (M a 3)) rfl ?_
      refine q_iload C dX4_change_66 (n := 68) rfl rfl ?_
      refine q_iadd C dX4_change_68 (n := 69) rfl (v := (M (a + 2) (M a 3)) + ((((M (a + 2) v1) + v3) + 1) - u7)) rfl ?_
      refine q_sipush C dX4_change_69 (n := 72) rfl (x := 400) (by decide) ?_
      refine q_icmp_gt C 89 dX4_change_72 (n := 75) rfl rfl (by omega) (fun h13 => ?_) (fun h13 => ?_)
      · refine q_iconst C dX4_change_89 (n := 90) rfl ?_
        exact q_zret C dX4_change_90 ⟨rfl, rfl⟩ (by omega) (by rw [hPo]; exact ⟨0, M, J, rfl, rfl, hI, hK0, by omega, p4⟩)
      · refine q_iload C dX4_change_75 (n := 77) rfl rfl ?_
        have J_15 : (u2 = 0 ∨ M a 3 < 40) → zK w p e 13 0 0 s m args below meth c 8 T Po 91 [.ref (w.2.1 + a), zi v1, .ref (w.2.1 + b), zi v3, zi u2, zi u7, zi ((((M (a + 2) v1) + v3) + 1) - u7), .null] [] (T, M, J, R) := by
          intro h14
          refine q_iload C dX4_change_91 (n := 93) rfl rfl ?_
          have J_21 : ∀ (M16 : zMm) (J17 : zJm), zI G M16 → zKr a 4 M M16 → (zCg M16 a v1 v3 u7 ((((M (a + 2) v1) + v3) + 1) - u7)) → zK w p e 13 0 0 s m args below meth c 8 T Po 117 [.ref (w.2.1 + a), zi v1, .ref (w.2.1 + b), zi v3, .null, zi u7, zi ((((M (a + 2) v1) + v3) + 1) - u7), .null] [] (T, M16, J17, R) := by
            intro M16 J17 hI18 hK19 h20
            obtain ⟨c1, c2, c3, c4, c5, c6⟩ := id h20
            have c7 := c1.lt (i := v1 + 1) (j := M16 a 3) (by omega) (by omega) (by omega)
            have c8 := c1.1 v1 (by omega) (by omega)
            have c9 := zI.at hI18 (h0.2.2.2.2.2.2.1 (v1 + 1))
            have c10 := zI.at hI18 (h0.2.2.2.2.2.2.1 v1)
            have c11 := zI.at hI18 (h0.2.2.2.2.2.2.1 (M16 a 3))
            refine q_aload_n C dX4_change_117 (n := 118) rfl rfl ?_
            refine q_getR C dX4_change_118 (n := 121) rfl f_X4_9 h0.1 (hF _ _ _ h0.2.1) ?_
            refine q_iload C dX4_change_121 (n := 123) rfl rfl ?_
            refine q_aload_n C dX4_change_123 (n := 124) rfl rfl ?_
            refine q_getR C dX4_change_124 (n := 127) rfl f_X4_9 h0.1 (hF _ _ _ h0.2.1) ?_
            refine q_iload C dX4_change_127 (n := 129) rfl rfl ?_
            refine q_iload C dX4_change_129 (n := 131) rfl rfl ?_
            refine q_iadd C dX4_change_131 (n := 132) rfl (v := u7 + ((((M (a + 2) v1) + v3) + 1) - u7)) rfl ?_
            refine q_aload_n C dX4_change_132 (n := 133) rfl rfl ?_
            refine q_getR C dX4_change_133 (n := 136) rfl f_X4_15 h0.1 (hF _ _ _ h0.2.2.2.2.1) ?_
            refine q_aload_n C dX4_change_136 (n := 137) rfl rfl ?_
            have g22 := zI.at hI18 h0.2.2.2.2.2.2.2.2.2.2.1
            refine q_getI C dX4_change_137 (n := 140) rfl f_X4_22 h0.1 (v := M16 a 3) rfl ?_
            have g23 := zI.at hI18 (h0.2.2.2.2.2.2.1 (M16 a 3))
            refine q_iald C dX4_change_140 (n := 141) rfl h0.2.2.2.2.2.1 (by omega) (v := M16 (a + 2) (M16 a 3)) rfl ?_
            refine q_iload C dX4_change_141 (n := 143) rfl rfl ?_
            refine q_isub C dX4_change_143 (n := 144) rfl (v := (M16 (a + 2) (M16 a 3)) - u7) rfl ?_
            refine q_copyB C dX4_change_144 (n := 147) rfl x_X4_43 h0.2.2.1 h0.2.2.1 (by omega) (fun j => by have := zI.at hI18 (h0.2.2.2.1 j); omega) (Nat.le_of_ble_eq_true rfl) (Nat.le_of_ble_eq_true rfl) (fun M24 e25 => ?_)
            have hI26 : zI G M24 := hI18.cp e25 h0.2.2.2.1 h0.2.2.2.1 rfl (by omega)
            have hK27 := hK19.cp e25 (by omega)
            refine q_aload_n C dX4_change_147 (n := 148) rfl rfl ?_
            refine q_iconst C dX4_change_148 (n := 149) rfl ?_
            refine q_aload_n C dX4_change_149 (n := 150) rfl rfl ?_
            refine q_getR C dX4_change_150 (n := 153) rfl f_X4_9 h0.1 (hF _ _ _ h0.2.1) ?_
            refine q_aload_n C dX4_change_153 (n := 154) rfl rfl ?_
            refine q_getR C dX4_change_154 (n := 157) rfl f_X4_15 h0.1 (hF _ _ _ h0.2.2.2.2.1) ?_
            refine q_iload_n C dX4_change_157 (n := 158) rfl rfl ?_
            have g28 := zI.at hI18 (h0.2.2.2.2.2.2.1 v1)
            refine q_iald C dX4_change_158 (n := 159) rfl h0.2.2.2.2.2.1 (by omega) (v := M16 (a + 2) v1) (zcp_p e25 (by omega) _) ?_
            refine q_iload_n C dX4_change_159 (n := 160) rfl rfl ?_
            refine q_copyB C dX4_change_160 (n := 163) rfl x_X4_43 t_b0 h0.2.2.1 (by omega) (fun j => by have := zI.at hI26 (g_b0 j); omega) (Nat.le_of_ble_eq_true rfl) (Nat.le_of_ble_eq_true rfl) (fun M29 e30 => ?_)
            have hI31 : zI G M29 := hI26.cp e30 g_b0 h0.2.2.2.1 rfl (by omega)
            have hK32 := hK27.cp e30 (by omega)
            refine q_aload_n C dX4_change_163 (n := 164) rfl rfl ?_
            refine q_getR C dX4_change_164 (n := 167) rfl f_X4_9 h0.1 (hF _ _ _ h0.2.1) ?_
            refine q_aload_n C dX4_change_167 (n := 168) rfl rfl ?_
            refine q_getR C dX4_change_168 (n := 171) rfl f_X4_15 h0.1 (hF _ _ _ h0.2.2.2.2.1) ?_
            refine q_iload_n C dX4_change_171 (n := 172) rfl rfl ?_
            refine q_iald C dX4_change_172 (n := 173) rfl h0.2.2.2.2.2.1 (by omega) (v := M16 (a + 2) v1) ((zcp_p e30 (by omega) _).trans (zcp_p e25 (by omega) _)) ?_
            refine q_iload_n C dX4_change_173 (n := 174) rfl rfl ?_
            refine q_iadd C dX4_change_174 (n := 175) rfl (v := (M16 (a + 2) v1) + v3) rfl ?_
            refine q_bipush C dX4_change_175 (n := 177) rfl (x := 10) (by decide) ?_
            refine q_bast C dX4_change_177 (n := 178) rfl h0.2.2.1 (by omega) (by omega) (fun M33 e34 => ?_)
            have hI35 : zI G M33 := hI31.put e34 (h0.2.2.2.1 ((M16 (a + 2) v1) + v3)) rfl (by omega)
            have hK36 := hK32.put e34 (by omega)
            refine q_iload_n C dX4_change_178 (n := 179) rfl rfl ?_
            refine q_iconst C dX4_change_179 (n := 180) rfl ?_
            refine q_iadd C dX4_change_180 (n := 181) rfl (v := v1 + 1) rfl ?_
            refine q_istore C [.ref (w.2.1 + a), zi v1, .ref (w.2.1 + b), zi v3, .null, zi u7, zi ((((M (a + 2) v1) + v3) + 1) - u7), zi (v1 + 1)] dX4_change_181 (n := 183) rfl rfl rfl ?_
            have L_44 : ∀ n45 : Nat, ∀ (u37 : Int) (M38 : zMm) (J39 : zJm), zI G M38 → zKr a 4 M M38 → (-2147483648 ≤ u37 ∧ u37 ≤ 2147483647) → (zCl M33 M38 a v1 v3 u7 ((((M (a + 2) v1) + v3) + 1) - u7) u37) → (42 - u37 ≤ (n45 : Int)) → zK w p e 13 0 0 s m args below meth c 8 T Po 183 [.ref (w.2.1 + a), .null, .null, .null, .null, .null, zi ((((M (a + 2) v1) + v3) + 1) - u7), zi u37] [] (T, M38, J39, R) := by
              intro n45
              induction n45 with
              | zero =>
                intro u37 M38 J39 hI40 hK41 h42 h43 hm47
                exfalso
                have s1 := zCl.size h43
                omega
              | succ n45 ih46 =>
                intro u37 M38 J39 hI40 hK41 h42 h43 hm47
                have s1 := zCl.size h43
                refine q_iload C dX4_change_183 (n := 185) rfl rfl ?_
                refine q_aload_n C dX4_change_185 (n := 186) rfl rfl ?_
                have g48 := zI.at hI40 h0.2.2.2.2.2.2.2.2.2.2.1
                refine q_getI C dX4_change_186 (n := 189) rfl f_X4_22 h0.1 (v := M38 a 3) rfl ?_
                refine q_icmp_gt C 210 dX4_change_189 (n := 192) rfl rfl (by omega) (fun h49 => ?_) (fun h49 => ?_)
                · have s3 := h43.fin (by omega)
                  refine q_aload_n C dX4_change_210 (n := 211) rfl rfl ?_
                  refine q_callVv C dX4_change_211 (n := 214) rfl m_X4_40 v_yX4_mark h0.1 ⟨by decide, rfl⟩ (c_X4_mark (w := w) (J := J39) hI40 hF h0) (Nat.le_of_ble_eq_true rfl) rfl rfl (Nat.le_of_ble_eq_true rfl) ⟨Nat.le_refl _, Nat.le_refl _⟩ (fun M53 J54  hI55 h56 => ?_)
                  obtain ⟨hk57, h50, h51, h52⟩ := h56
                  have hK58 := hK41.tr hk57
                  refine q_iconst C dX4_change_214 (n := 215) rfl ?_
                  exact q_zret C dX4_change_215 ⟨rfl, rfl⟩ (by omega) (by rw [hPo]; exact ⟨1, M53, J54, rfl, rfl, hI55, hK58, by omega, ⟨(s3.cg (h50) (fun i => (h51 i))), h52⟩⟩)
                · refine q_aload_n C dX4_change_192 (n := 193) rfl rfl ?_
                  refine q_getR C dX4_change_193 (n := 196) rfl f_X4_15 h0.1 (hF _ _ _ h0.2.2.2.2.1) ?_
                  refine q_iload C dX4_change_196 (n := 198) rfl rfl ?_
                  refine q_dup2 C dX4_change_198 (n := 199) rfl ⟨rfl, rfl⟩ ?_
                  have g59 := zI.at hI40 (h0.2.2.2.2.2.2.1 u37)
                  refine q_iald C dX4_change_199 (n := 200) rfl h0.2.2.2.2.2.1 (by omega) (v := M38 (a + 2) u37) rfl ?_
                  refine q_iload C dX4_change_200 (n := 202) rfl rfl ?_
                  refine q_iadd C dX4_change_202 (n := 203) rfl (v := (M38 (a + 2) u37) + ((((M (a + 2) v1) + v3) + 1) - u7)) rfl ?_
                  have s2 := h43.bound (fun j => (zI.at hI35 (h0.2.2.2.2.2.2.1 j)).1) (by omega)
                  refine q_iast C dX4_change_203 (n := 204) rfl h0.2.2.2.2.2.1 (by omega)  (fun M60 e61 => ?_)
                  have hI62 : zI G M60 := hI40.put e61 (h0.2.2.2.2.2.2.1 u37) rfl (by omega)
                  have hK63 := hK41.put e61 (by omega)
                  refine q_iinc C [.ref (w.2.1 + a), .null, .null, .null, .null, .null, zi ((((M (a + 2) v1) + v3) + 1) - u7), zi (u37 + 1)] dX4_change_204 (n := 207) rfl rfl rfl rfl ?_
                  refine q_goto C 183 dX4_change_207 rfl ?_
                  exact zK.weak (ih46 (u37 + 1) M60 J39 hI62 hK63 (by omega) (h43.step (by omega) e61) (by omega)) (zwk_c (zwk_n (zwk_n (zwk_n (zwk_n (zwk_n (zwk_c (zwk_c zwk_e))))))))
            exact zK.weak (L_44 _ (v1 + 1) M33 J17 hI35 hK36 (by omega) (zCl.start (h20.cg ((zup_p e34 (by omega) _).trans ((zcp_p e30 (by omega) _).trans (zcp_p e25 (by omega) _))) (fun i => ((zup_p e34 (by omega) _).trans ((zcp_p e30 (by omega) _).trans (zcp_p e25 (by omega) _))))) rfl) (Int.self_le_toNat _)) (zwk_c (zwk_n (zwk_n (zwk_n (zwk_n (zwk_n (zwk_c (zwk_c zwk_e))))))))
          refine q_if_eq C 117 dX4_change_93 (n := 96) rfl rfl (by omega) (fun h64 => ?_) (fun h64 => ?_)
          · exact zK.weak (J_21 M J hI hK0 ⟨p4.1, ⟨by omega, by omega, by omega⟩, by omega, by omega, by omega, by omega⟩) (zwk_c (zwk_c (zwk_c (zwk_c (zwk_n (zwk_c (zwk_c (zwk_n zwk_e))))))))
          · refine q_aload_n C dX4_change_96 (n := 97) rfl rfl ?_
            refine q_dup C dX4_change_97 (n := 98) rfl rfl ?_
            refine q_getI C dX4_change_98 (n := 101) rfl f_X4_22 h0.1 (v := M a 3) rfl ?_
            refine q_iconst C dX4_change_101 (n := 102) rfl ?_
            refine q_iadd C dX4_change_102 (n := 103) rfl (v := (M a 3) + 1) rfl ?_
            refine q_putI C dX4_change_103 (n := 106) rfl f_X4_22 h0.1 ⟨rfl, rfl⟩ (fun M65 (e66 : M65 = zup M a 3 ((M a 3) + 1)) => ?_)
            have hI67 : zI G M65 := hI.put e66 h0.2.2.2.2.2.2.2.2.2.2.1 rfl (by omega)
            have hK68 := hK0.put e66 (by omega)
            refine q_aload_n C dX4_change_106 (n := 107) rfl rfl ?_
            refine q_getR C dX4_change_107 (n := 110) rfl f_X4_15 h0.1 (hF _ _ _ h0.2.2.2.2.1) ?_
            refine q_aload_n C dX4_change_110 (n := 111) rfl rfl ?_
            refine q_getI C dX4_change_111 (n := 114) rfl f_X4_22 h0.1 (v := (M a 3) + 1) (zup_s e66) ?_
            refine q_iload C dX4_change_114 (n := 116) rfl rfl ?_
            refine q_iast C dX4_change_116 (n := 117) rfl h0.2.2.2.2.2.1 (by omega)  (fun M69 e70 => ?_)
            have hI71 : zI G M69 := hI67.put e70 (h0.2.2.2.2.2.2.1 ((M a 3) + 1)) rfl (by omega)
            have hK72 := hK68.put e70 (by omega)
            exact zK.weak (J_21 M69 J hI71 hK72 (zCg.B p4.1 rfl (by omega) (by omega) (by omega) (by omega) (by omega) (by omega) (by omega) e66 e70)) (zwk_c (zwk_c (zwk_c (zwk_c (zwk_n (zwk_c (zwk_c (zwk_n zwk_e))))))))
        refine q_if_eq C 91 dX4_change_77 (n := 80) rfl rfl (by omega) (fun h73 => ?_) (fun h73 => ?_)
        · exact zK.weak (J_15 (by omega)) (zwk_c (zwk_c (zwk_c (zwk_c (zwk_c (zwk_c (zwk_c (zwk_n zwk_e))))))))
        · refine q_aload_n C dX4_change_80 (n := 81) rfl rfl ?_
          refine q_getI C dX4_change_81 (n := 84) rfl f_X4_22 h0.1 (v := M a 3) rfl ?_
          refine q_bipush C dX4_change_84 (n := 86) rfl (x := 40) (by decide) ?_
          refine q_icmp_lt C 91 dX4_change_86 (n := 89) rfl rfl (by omega) (fun h74 => ?_) (fun h74 => ?_)
          · exact zK.weak (J_15 (by omega)) (zwk_c (zwk_c (zwk_c (zwk_c (zwk_c (zwk_c (zwk_c (zwk_n zwk_e))))))))
          · refine q_iconst C dX4_change_89 (n := 90) rfl ?_
            exact q_zret C dX4_change_90 ⟨rfl, rfl⟩ (by omega) (by rw [hPo]; exact ⟨0, M, J, rfl, rfl, hI, hK0, by omega, p4⟩)
    refine q_if_eq C 32 dX4_change_17 (n := 20) rfl rfl (by omega) (fun h75 => ?_) (fun h75 => ?_)
    · refine q_aload_n C dX4_change_32 (n := 33) rfl rfl ?_
      refine q_getR C dX4_change_33 (n := 36) rfl f_X4_15 h0.1 (hF _ _ _ h0.2.2.2.2.1) ?_
      refine q_iload_n C dX4_change_36 (n := 37) rfl rfl ?_
      refine q_iconst C dX4_change_37 (n := 38) rfl ?_
      refine q_iadd C dX4_change_38 (n := 39) rfl (v := v1 + 1) rfl ?_
      have g76 := zI.at hI (h0.2.2.2.2.2.2.1 (v1 + 1))
      refine q_iald C dX4_change_39 (n := 40) rfl h0.2.2.2.2.2.1 (by omega) (v := M (a + 2) (v1 + 1)) rfl ?_
      exact zK.weak (J_10 (M (a + 2) (v1 + 1)) (by omega) (by omega)) (zwk_c (zwk_c (zwk_c (zwk_c (zwk_c (zwk_n (zwk_n (zwk_n zwk_e))))))))
    · refine q_aload_n C dX4_change_20 (n := 21) rfl rfl ?_
      refine q_getR C dX4_change_21 (n := 24) rfl f_X4_15 h0.1 (hF _ _ _ h0.2.2.2.2.1) ?_
      refine q_aload_n C dX4_change_24 (n := 25) rfl rfl ?_
      refine q_getI C dX4_change_25 (n := 28) rfl f_X4_22 h0.1 (v := M a 3) rfl ?_
      have g77 := zI.at hI (h0.2.2.2.2.2.2.1 (M a 3))
      refine q_iald C dX4_change_28 (n := 29) rfl h0.2.2.2.2.2.1 (by omega) (v := M (a + 2) (M a 3)) rfl ?_
      refine q_goto C 40 dX4_change_29 rfl ?_
      exact zK.weak (J_10 (M (a + 2) (M a 3)) (by omega) (by omega)) (zwk_c (zwk_c (zwk_c (zwk_c (zwk_c (zwk_n (zwk_n (zwk_n zwk_e))))))))
  refine q_icmp_ne C 12 dX4_change_5 (n := 8) rfl rfl (by omega) (fun h78 => ?_) (fun h78 => ?_)
  · refine q_iconst C dX4_change_12 (n := 13) rfl ?_
    exact zK.weak (J_6 0 (by omega) (by omega) (by omega)) (zwk_c (zwk_c (zwk_c (zwk_c (zwk_n (zwk_n (zwk_n (zwk_n zwk_e))))))))
  · refine q_iconst C dX4_change_8 (n := 9) rfl ?_
    refine q_goto C 13 dX4_change_9 rfl ?_
    exact zK.weak (J_6 1 (by omega) (by omega) (by omega)) (zwk_c (zwk_c (zwk_c (zwk_c (zwk_n (zwk_n (zwk_n (zwk_n zwk_e))))))))
theorem c_X4_takeOut {w : zWp} {T : zTl} {M : zMm} {J : zJm} {R : zRm'} {G : zGt} {F : zRm'} {a : Nat} (hI : zI G M) (hF : zF F R) (h0 : zPage T F G a) (v1 : Int) (p1 : 0 ≤ v1 ∧ v1 < M a 3) (p2 : zPr M a) : zCt w 13 0 0 yX4_takeOut cX4_takeOut 4 none [.ref (w.2.1 + a), zi v1] (T, M, J, R) (zPv T R G (fun M2 => (zKr a 4 M M2) ∧ (zPr M2 a))) := by
  refine zCt.of rfl (Nat.le_of_ble_eq_true rfl) ?_
  intro p e s m args below meth c C
  obtain ⟨Po, hPo⟩ : ∃ Po, Po = zPv T R G (fun M2 => (zKr a 4 M M2) ∧ (zPr M2 a)) := ⟨_, rfl⟩
  rw [← hPo]
  have hK0 : zKr a 4 M M := zKr.rf
  show zK w p e 13 0 0 s m args below meth c 4 T Po 0 [.ref (w.2.1 + a), zi v1, .null, .null] [] (T, M, J, R)
  have q0 := zI.at hI h0.2.2.2.2.2.2.2.2.2.2.1
  have q1 := p2.1.1 v1 (by omega) (by omega)
  have q2 := p2.1.lt (i := v1 + 1) (j := M a 3) (by omega) (by omega) (by omega)
  refine q_aload_n C dX4_takeOut_0 (n := 1) rfl rfl ?_
  refine q_getR C dX4_takeOut_1 (n := 4) rfl f_X4_15 h0.1 (hF _ _ _ h0.2.2.2.2.1) ?_
  refine q_iload_n C dX4_takeOut_4 (n := 5) rfl rfl ?_
  refine q_iconst C dX4_takeOut_5 (n := 6) rfl ?_
  refine q_iadd C dX4_takeOut_6 (n := 7) rfl (v := v1 + 1) rfl ?_
  have g1 := zI.at hI (h0.2.2.2.2.2.2.1 (v1 + 1))
  refine q_iald C dX4_takeOut_7 (n := 8) rfl h0.2.2.2.2.2.1 (by omega) (v := M (a + 2) (v1 + 1)) rfl ?_
  refine q_aload_n C dX4_takeOut_8 (n := 9) rfl rfl ?_
  refine q_getR C dX4_takeOut_9 (n := 12) rfl f_X4_15 h0.1 (hF _ _ _ h0.2.2.2.2.1) ?_
  refine q_iload_n C dX4_takeOut_12 (n := 13) rfl rfl ?_
  have g2 := zI.at hI (h0.2.2.2.2.2.2.1 v1)
  refine q_iald C dX4_takeOut_13 (n := 14) rfl h0.2.2.2.2.2.1 (by omega) (v := M (a + 2) v1) rfl ?_
  refine q_isub C dX4_takeOut_14 (n := 15) rfl (v := (M (a + 2) (v1 + 1)) - (M (a + 2) v1)) rfl ?_
  refine q_istore_n C [.ref (w.2.1 + a), zi v1, zi ((M (a + 2) (v1 + 1)) - (M (a + 2) v1)), .null] dX4_takeOut_15 (n := 16) rfl rfl rfl ?_
  refine q_aload_n C dX4_takeOut_16 (n := 17) rfl rfl ?_
  refine q_getR C dX4_takeOut_17 (n := 20) rfl f_X4_9 h0.1 (hF _ _ _ h0.2.1) ?_
  refine q_aload_n C dX4_takeOut_20 (n := 21) rfl rfl ?_
  refine q_getR C dX4_takeOut_21 (n := 24) rfl f_X4_15 h0.1 (hF _ _ _ h0.2.2.2.2.1) ?_
  refine q_iload_n C dX4_takeOut_24 (n := 25) rfl rfl ?_
  refine q_iconst C dX4_takeOut_25 (n := 26) rfl ?_
  refine q_iadd C dX4_takeOut_26 (n := 27) rfl (v := v1 + 1) rfl ?_
  refine q_iald C dX4_takeOut_27 (n := 28) rfl h0.2.2.2.2.2.1 (by omega) (v := M (a + 2) (v1 + 1)) rfl ?_
  refine q_aload_n C dX4_takeOut_28 (n := 29) rfl rfl ?_
  refine q_getR C dX4_takeOut_29 (n := 32) rfl f_X4_9 h0.1 (hF _ _ _ h0.2.1) ?_
  refine q_aload_n C dX4_takeOut_32 (n := 33) rfl rfl ?_
  refine q_getR C dX4_takeOut_33 (n := 36) rfl f_X4_15 h0.1 (hF _ _ _ h0.2.2.2.2.1) ?_
  refine q_iload_n C dX4_takeOut_36 (n := 37) rfl rfl ?_
  refine q_iald C dX4_takeOut_37 (n := 38) rfl h0.2.2.2.2.2.1 (by omega) (v := M (a + 2) v1) rfl ?_
  refine q_aload_n C dX4_takeOut_38 (n := 39) rfl rfl ?_
  refine q_getR C dX4_takeOut_39 (n := 42) rfl f_X4_15 h0.1 (hF _ _ _ h0.2.2.2.2.1) ?_
  refine q_aload_n C dX4_takeOut_42 (n := 43) rfl rfl ?_
  have g3 := zI.at hI h0.2.2.2.2.2.2.2.2.2.2.1
  refine q_getI C dX4_takeOut_43 (n := 46) rfl f_X4_22 h0.1 (v := M a 3) rfl ?_
  have g4 := zI.at hI (h0.2.2.2.2.2.2.1 (M a 3))
  refine q_iald C dX4_takeOut_46 (n := 47) rfl h0.2.2.2.2.2.1 (by omega) (v := M (a + 2) (M a 3)) rfl ?_
  refine q_aload_n C dX4_takeOut_47 (n := 48) rfl rfl ?_
  refine q_getR C dX4_takeOut_48 (n := 51) rfl f_X4_15 h0.1 (hF _ _ _ h0.2.2.2.2.1) ?_
  refine q_iload_n C dX4_takeOut_51 (n := 52) rfl rfl ?_
  refine q_iconst C dX4_takeOut_52 (n := 53) rfl ?_
  refine q_iadd C dX4_takeOut_53 (n := 54) rfl (v := v1 + 1) rfl ?_
  refine q_iald C dX4_takeOut_54 (n := 55) rfl h0.2.2.2.2.2.1 (by omega) (v := M (a + 2) (v1 + 1)) rfl ?_
  refine q_isub C dX4_takeOut_55 (n := 56) rfl (v := (M (a + 2) (M a 3)) - (M (a + 2) (v1 + 1))) rfl ?_
  refine q_copyB C dX4_takeOut_56 (n := 59) rfl x_X4_43 h0.2.2.1 h0.2.2.1 (by omega) (fun j => by have := zI.at hI (h0.2.2.2.1 j); omega) (Nat.le_of_ble_eq_true rfl) (Nat.le_of_ble_eq_true rfl) (fun M5 e6 => ?_)
  have hI7 : zI G M5 := hI.cp e6 h0.2.2.2.1 h0.2.2.2.1 rfl (by omega)
  have hK8 := hK0.cp e6 (by omega)
  refine q_iload_n C dX4_takeOut_59 (n := 60) rfl rfl ?_
  refine q_iconst C dX4_takeOut_60 (n := 61) rfl ?_
  refine q_iadd C dX4_takeOut_61 (n := 62) rfl (v := v1 + 1) rfl ?_
  refine q_istore_n C [.ref (w.2.1 + a), zi v1, zi ((M (a + 2) (v1 + 1)) - (M (a + 2) v1)), zi (v1 + 1)] dX4_takeOut_62 (n := 63) rfl rfl rfl ?_
  have L_16 : ∀ n17 : Nat, ∀ (u9 : Int) (M10 : zMm) (J11 : zJm), zI G M10 → zKr a 4 M M10 → (-2147483648 ≤ u9 ∧ u9 ≤ 2147483647) → (zTk M5 M10 a v1 ((M (a + 2) (v1 + 1)) - (M (a + 2) v1)) u9) → (42 - u9 ≤ (n17 : Int)) → zK w p e 13 0 0 s m args below meth c 4 T Po 63 [.ref (w.2.1 + a), .null, zi ((M (a + 2) (v1 + 1)) - (M (a + 2) v1)), zi u9] [] (T, M10, J11, R) := by
    intro n17
    induction n17 with
    | zero =>
      intro u9 M10 J11 hI12 hK13 h14 h15 hm19
      exfalso
      have s1 := zTk.size h15
      omega
    | succ n17 ih18 =>
      intro u9 M10 J11 hI12 hK13 h14 h15 hm19
      have s1 := zTk.size h15
      refine q_iload_n C dX4_takeOut_63 (n := 64) rfl rfl ?_
      refine q_aload_n C dX4_takeOut_64 (n := 65) rfl rfl ?_
      have g20 := zI.at hI12 h0.2.2.2.2.2.2.2.2.2.2.1
      refine q_getI C dX4_takeOut_65 (n := 68) rfl f_X4_22 h0.1 (v := M10 a 3) rfl ?_
      refine q_icmp_ge C 93 dX4_takeOut_68 (n := 71) rfl rfl (by omega) (fun h21 => ?_) (fun h21 => ?_)
      · refine q_aload_n C dX4_takeOut_93 (n := 94) rfl rfl ?_
        refine q_dup C dX4_takeOut_94 (n := 95) rfl rfl ?_
        refine q_getI C dX4_takeOut_95 (n := 98) rfl f_X4_22 h0.1 (v := M10 a 3) rfl ?_
        refine q_iconst C dX4_takeOut_98 (n := 99) rfl ?_
        refine q_isub C dX4_takeOut_99 (n := 100) rfl (v := (M10 a 3) - 1) rfl ?_
        refine q_putI C dX4_takeOut_100 (n := 103) rfl f_X4_22 h0.1 ⟨rfl, rfl⟩ (fun M22 (e23 : M22 = zup M10 a 3 ((M10 a 3) - 1)) => ?_)
        have hI24 : zI G M22 := hI12.put e23 h0.2.2.2.2.2.2.2.2.2.2.1 rfl (by omega)
        have hK25 := hK13.put e23 (by omega)
        have s3 := h15.fin (by omega) e23 (by omega)
        refine q_aload_n C dX4_takeOut_103 (n := 104) rfl rfl ?_
        refine q_callVv C dX4_takeOut_104 (n := 107) rfl m_X4_40 v_yX4_mark h0.1 ⟨by decide, rfl⟩ (c_X4_mark (w := w) (J := J11) hI24 hF h0) (Nat.le_of_ble_eq_true rfl) rfl rfl (Nat.le_of_ble_eq_true rfl) ⟨Nat.le_refl _, Nat.le_refl _⟩ (fun M29 J30  hI31 h32 => ?_)
        obtain ⟨hk33, h26, h27, h28⟩ := h32
        have hK34 := hK25.tr hk33
        have hz35 : M22 a 3 = (M10 a 3) - 1 := (zup_s e23)
        exact q_vret C dX4_takeOut_107 ⟨rfl, rfl⟩ (by rw [hPo]; exact ⟨M29, J30, rfl, rfl, hI31, hK34, ⟨(s3.cg (h26) (fun i => (h27 i))), h28⟩⟩)
      · refine q_aload_n C dX4_takeOut_71 (n := 72) rfl rfl ?_
        refine q_getR C dX4_takeOut_72 (n := 75) rfl f_X4_15 h0.1 (hF _ _ _ h0.2.2.2.2.1) ?_
        refine q_iload_n C dX4_takeOut_75 (n := 76) rfl rfl ?_
        refine q_aload_n C dX4_takeOut_76 (n := 77) rfl rfl ?_
        refine q_getR C dX4_takeOut_77 (n := 80) rfl f_X4_15 h0.1 (hF _ _ _ h0.2.2.2.2.1) ?_
        refine q_iload_n C dX4_takeOut_80 (n := 81) rfl rfl ?_
        refine q_iconst C dX4_takeOut_81 (n := 82) rfl ?_
        refine q_iadd C dX4_takeOut_82 (n := 83) rfl (v := u9 + 1) rfl ?_
        have g36 := zI.at hI12 (h0.2.2.2.2.2.2.1 (u9 + 1))
        refine q_iald C dX4_takeOut_83 (n := 84) rfl h0.2.2.2.2.2.1 (by omega) (v := M10 (a + 2) (u9 + 1)) rfl ?_
        refine q_iload_n C dX4_takeOut_84 (n := 85) rfl rfl ?_
        refine q_isub C dX4_takeOut_85 (n := 86) rfl (v := (M10 (a + 2) (u9 + 1)) - ((M (a + 2) (v1 + 1)) - (M (a + 2) v1))) rfl ?_
        have s2 := h15.bound (fun j => zI.at hI7 (h0.2.2.2.2.2.2.1 j)) (by omega)
        refine q_iast C dX4_takeOut_86 (n := 87) rfl h0.2.2.2.2.2.1 (by omega)  (fun M37 e38 => ?_)
        have hI39 : zI G M37 := hI12.put e38 (h0.2.2.2.2.2.2.1 u9) rfl (by omega)
        have hK40 := hK13.put e38 (by omega)
        refine q_iinc C [.ref (w.2.1 + a), .null, zi ((M (a + 2) (v1 + 1)) - (M (a + 2) v1)), zi (u9 + 1)] dX4_takeOut_87 (n := 90) rfl rfl rfl rfl ?_
        refine q_goto C 63 dX4_takeOut_90 rfl ?_
        exact zK.weak (ih18 (u9 + 1) M37 J11 hI39 hK40 (by omega) (h15.step (by omega) e38) (by omega)) (zwk_c (zwk_n (zwk_c (zwk_c zwk_e))))
  exact zK.weak (L_16 _ (v1 + 1) M5 J hI7 hK8 (by omega) (zTk.start (p2.1.cg (zcp_p e6 (by omega) _) (fun i => (zcp_p e6 (by omega) _))) (by have h3 : M5 a 3 = M a 3 := (zcp_p e6 (by omega) _); omega) (by have h1 : M5 (a + 2) (v1 + 1) = M (a + 2) (v1 + 1) := (zcp_p e6 (by omega) _); have h2 : M5 (a + 2) v1 = M (a + 2) v1 := (zcp_p e6 (by omega) _); omega) rfl) (Int.self_le_toNat _)) (zwk_c (zwk_n (zwk_c (zwk_c zwk_e))))
theorem c_X4_copy {w : zWp} {T : zTl} {M : zMm} {J : zJm} {R : zRm'} {G : zGt} {F : zRm'} {a o : Nat} (hI : zI G M) (hF : zF F R) (h0 : zPage T F G a) (h_oth : zPage T F G o) (p1 : zPr M o) (p2 : o + 4 ≤ a ∨ a + 4 ≤ o) : zCt w 1 0 0 yX4_copy cX4_copy 2 none [.ref (w.2.1 + a), .ref (w.2.1 + o)] (T, M, J, R) (zPv T R G (fun M2 => (zKr a 4 M M2) ∧ (zPr M2 a))) := by
  refine zCt.of rfl (Nat.le_of_ble_eq_true rfl) ?_
  intro p e s m args below meth c C
  obtain ⟨Po, hPo⟩ : ∃ Po, Po = zPv T R G (fun M2 => (zKr a 4 M M2) ∧ (zPr M2 a)) := ⟨_, rfl⟩
  rw [← hPo]
  have hK0 : zKr a 4 M M := zKr.rf
  show zK w p e 1 0 0 s m args below meth c 2 T Po 0 [.ref (w.2.1 + a), .ref (w.2.1 + o)] [] (T, M, J, R)
  refine q_aload_n C dX4_copy_0 (n := 1) rfl rfl ?_
  refine q_getR C dX4_copy_1 (n := 4) rfl f_X4_9 h_oth.1 (hF _ _ _ h_oth.2.1) ?_
  refine q_iconst C dX4_copy_4 (n := 5) rfl ?_
  refine q_aload_n C dX4_copy_5 (n := 6) rfl rfl ?_
  refine q_getR C dX4_copy_6 (n := 9) rfl f_X4_9 h0.1 (hF _ _ _ h0.2.1) ?_
  refine q_iconst C dX4_copy_9 (n := 10) rfl ?_
  refine q_sipush C dX4_copy_10 (n := 13) rfl (x := 401) (by decide) ?_
  refine q_copyB C dX4_copy_13 (n := 16) rfl x_X4_43 h_oth.2.2.1 h0.2.2.1 (by omega) (fun j => by have := zI.at hI (h_oth.2.2.2.1 j); omega) (Nat.le_of_ble_eq_true rfl) (Nat.le_of_ble_eq_true rfl) (fun M1 e2 => ?_)
  have hI3 : zI G M1 := hI.cp e2 h_oth.2.2.2.1 h0.2.2.2.1 rfl (by omega)
  have hK4 := hK0.cp e2 (by omega)
  refine q_aload_n C dX4_copy_16 (n := 17) rfl rfl ?_
  refine q_getR C dX4_copy_17 (n := 20) rfl f_X4_15 h_oth.1 (hF _ _ _ h_oth.2.2.2.2.1) ?_
  refine q_iconst C dX4_copy_20 (n := 21) rfl ?_
  refine q_aload_n C dX4_copy_21 (n := 22) rfl rfl ?_
  refine q_getR C dX4_copy_22 (n := 25) rfl f_X4_15 h0.1 (hF _ _ _ h0.2.2.2.2.1) ?_
  refine q_iconst C dX4_copy_25 (n := 26) rfl ?_
  refine q_bipush C dX4_copy_26 (n := 28) rfl (x := 41) (by decide) ?_
  refine q_copyI C dX4_copy_28 (n := 31) rfl x_X4_43 h_oth.2.2.2.2.2.1 h0.2.2.2.2.2.1 (by omega) (Nat.le_of_ble_eq_true rfl) (Nat.le_of_ble_eq_true rfl) (fun M5 e6 => ?_)
  have hI7 : zI G M5 := hI3.cp e6 h_oth.2.2.2.2.2.2.1 h0.2.2.2.2.2.2.1 rfl (by omega)
  have hK8 := hK4.cp e6 (by omega)
  refine q_aload_n C dX4_copy_31 (n := 32) rfl rfl ?_
  refine q_getR C dX4_copy_32 (n := 35) rfl f_X4_19 h_oth.1 (hF _ _ _ h_oth.2.2.2.2.2.2.2.1) ?_
  refine q_iconst C dX4_copy_35 (n := 36) rfl ?_
  refine q_aload_n C dX4_copy_36 (n := 37) rfl rfl ?_
  refine q_getR C dX4_copy_37 (n := 40) rfl f_X4_19 h0.1 (hF _ _ _ h0.2.2.2.2.2.2.2.1) ?_
  refine q_iconst C dX4_copy_40 (n := 41) rfl ?_
  refine q_bipush C dX4_copy_41 (n := 43) rfl (x := 40) (by decide) ?_
  refine q_copyI C dX4_copy_43 (n := 46) rfl x_X4_43 h_oth.2.2.2.2.2.2.2.2.1 h0.2.2.2.2.2.2.2.2.1 (by omega) (Nat.le_of_ble_eq_true rfl) (Nat.le_of_ble_eq_true rfl) (fun M9 e10 => ?_)
  have hI11 : zI G M9 := hI7.cp e10 h_oth.2.2.2.2.2.2.2.2.2.1 h0.2.2.2.2.2.2.2.2.2.1 rfl (by omega)
  have hK12 := hK8.cp e10 (by omega)
  refine q_aload_n C dX4_copy_46 (n := 47) rfl rfl ?_
  refine q_aload_n C dX4_copy_47 (n := 48) rfl rfl ?_
  have g13 := zI.at hI h_oth.2.2.2.2.2.2.2.2.2.2.1
  refine q_getI C dX4_copy_48 (n := 51) rfl f_X4_22 h_oth.1 (v := M o 3) ((zcp_p e10 (by omega) _).trans ((zcp_p e6 (by omega) _).trans (zcp_p e2 (by omega) _))) ?_
  refine q_putI C dX4_copy_51 (n := 54) rfl f_X4_22 h0.1 ⟨rfl, rfl⟩ (fun M14 (e15 : M14 = zup M9 a 3 (M o 3)) => ?_)
  have hI16 : zI G M14 := hI11.put e15 h0.2.2.2.2.2.2.2.2.2.2.1 rfl (by omega)
  have hK17 := hK12.put e15 (by omega)
  refine q_aload_n C dX4_copy_54 (n := 55) rfl rfl ?_
  refine q_aload_n C dX4_copy_55 (n := 56) rfl rfl ?_
  have g18 := zI.at hI h_oth.2.2.2.2.2.2.2.2.2.2.2.1
  refine q_getI C dX4_copy_56 (n := 59) rfl f_X4_26 h_oth.1 (v := M o 4) ((zup_p e15 (by omega) _).trans ((zcp_p e10 (by omega) _).trans ((zcp_p e6 (by omega) _).trans (zcp_p e2 (by omega) _)))) ?_
  refine q_putZ C dX4_copy_59 (n := 62) rfl f_X4_26 h0.1 ⟨rfl, rfl⟩ (by omega) (fun M19 (e20 : M19 = zup M14 a 4 (M o 4)) => ?_)
  have hI21 : zI G M19 := hI16.put e20 h0.2.2.2.2.2.2.2.2.2.2.2.1 rfl (by omega)
  have hK22 := hK17.put e20 (by omega)
  refine q_aload_n C dX4_copy_62 (n := 63) rfl rfl ?_
  refine q_aload_n C dX4_copy_63 (n := 64) rfl rfl ?_
  have g23 := zI.at hI h_oth.2.2.2.2.2.2.2.2.2.2.2.2.1
  refine q_getI C dX4_copy_64 (n := 67) rfl f_X4_30 h_oth.1 (v := M o 5) ((zup_p e20 (by omega) _).trans ((zup_p e15 (by omega) _).trans ((zcp_p e10 (by omega) _).trans ((zcp_p e6 (by omega) _).trans (zcp_p e2 (by omega) _))))) ?_
  refine q_putI C dX4_copy_67 (n := 70) rfl f_X4_30 h0.1 ⟨rfl, rfl⟩ (fun M24 (e25 : M24 = zup M19 a 5 (M o 5)) => ?_)
  have hI26 : zI G M24 := hI21.put e25 h0.2.2.2.2.2.2.2.2.2.2.2.2.1 rfl (by omega)
  have hK27 := hK22.put e25 (by omega)
  refine q_aload_n C dX4_copy_70 (n := 71) rfl rfl ?_
  refine q_aload_n C dX4_copy_71 (n := 72) rfl rfl ?_
  have g28 := zI.at hI h_oth.2.2.2.2.2.2.2.2.2.2.2.2.2
  refine q_getI C dX4_copy_72 (n := 75) rfl f_X4_33 h_oth.1 (v := M o 6) ((zup_p e25 (by omega) _).trans ((zup_p e20 (by omega) _).trans ((zup_p e15 (by omega) _).trans ((zcp_p e10 (by omega) _).trans ((zcp_p e6 (by omega) _).trans (zcp_p e2 (by omega) _)))))) ?_
  refine q_putI C dX4_copy_75 (n := 78) rfl f_X4_33 h0.1 ⟨rfl, rfl⟩ (fun M29 (e30 : M29 = zup M24 a 6 (M o 6)) => ?_)
  have hI31 : zI G M29 := hI26.put e30 h0.2.2.2.2.2.2.2.2.2.2.2.2.2 rfl (by omega)
  have hK32 := hK27.put e30 (by omega)
  exact q_vret C dX4_copy_78 ⟨rfl, rfl⟩ (by rw [hPo]; exact ⟨M29, J, rfl, rfl, hI31, hK32, (p1.copy ((zup_n e30 (by omega)).trans ((zup_n e25 (by omega)).trans ((zup_n e20 (by omega)).trans (zup_s e15)))) ((zup_n e30 (by omega)).trans (zup_s e25)) (zup_s e30) (by omega) (by omega) (fun i i0 i1 => ((zup_p e30 (by omega) _).trans ((zup_p e25 (by omega) _).trans ((zup_p e20 (by omega) _).trans ((zup_p e15 (by omega) _).trans (zcp_p e10 (by omega) _))))).trans ((zcp_at e6 (by omega)).trans (by rw [show (0 : Int) + (i - 0) = i by omega]; exact (zcp_p e2 (by omega) _)))))⟩)
