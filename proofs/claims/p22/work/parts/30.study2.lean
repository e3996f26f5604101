theorem zxor8 {s b : Int} (hs : 0 ≤ s ∧ s ≤ 7) (hb : 0 ≤ b ∧ b ≤ 2) : 0 ≤ zxor s (zshl 1 b) ∧ zxor s (zshl 1 b) ≤ 7 := by
  have h1 : s = 0 ∨ s = 1 ∨ s = 2 ∨ s = 3 ∨ s = 4 ∨ s = 5 ∨ s = 6 ∨ s = 7 := by omega
  have h2 : b = 0 ∨ b = 1 ∨ b = 2 := by omega
  rcases h1 with rfl | rfl | rfl | rfl | rfl | rfl | rfl | rfl <;> rcases h2 with rfl | rfl | rfl <;> decide
theorem c_X8_changing {w : zWp} {T : zTl} {M : zMm} {J : zJm} {R : zRm'} {G : zGt} {F : zRm'} {a : Nat} (hI : zI G M) (hF : zF F R) (h0 : zStudy T F G a) (v1 : Int) (p1 : 0 ≤ v1 ∧ v1 ≤ 3) : zCt w 1 0 0 yX8_changing cX8_changing 5 (some .int) [.ref (w.2.1 + a), zi v1] (T, M, J, R) (zPp T M J R (fun x => True)) := by
  refine zCt.of rfl (Nat.le_of_ble_eq_true rfl) ?_
  intro p e s m args below meth c C
  obtain ⟨Po, hPo⟩ : ∃ Po, Po = zPp T M J R (fun x => True) := ⟨_, rfl⟩
  rw [← hPo]
  show zK w p e 1 0 0 s m args below meth c 5 T Po 0 [.ref (w.2.1 + a), zi v1, .null, .null, .null] [] (T, M, J, R)
  refine q_iconst C dX8_changing_0 (n := 1) rfl ?_
  refine q_istore_n C [.ref (w.2.1 + a), zi v1, zi 0, .null, .null] dX8_changing_1 (n := 2) rfl rfl rfl ?_
  refine q_iconst C dX8_changing_2 (n := 3) rfl ?_
  refine q_istore_n C [.ref (w.2.1 + a), zi v1, zi 0, zi 0, .null] dX8_changing_3 (n := 4) rfl rfl rfl ?_
  have L_6 : ∀ n7 : Nat, ∀ (u1 : Int) (u2 : Int), (-2147483648 ≤ u1 ∧ u1 ≤ 2147483647) → (-2147483648 ≤ u2 ∧ u2 ≤ 2147483647) → (0 ≤ u2 ∧ u2 ≤ 8) → (8 - u2 + 1 ≤ (n7 : Int)) → zK w p e 1 0 0 s m args below meth c 5 T Po 4 [.ref (w.2.1 + a), zi v1, zi u1, zi u2, .null] [] (T, M, J, R) := by
    intro n7
    induction n7 with
    | zero =>
      intro u1 u2 h3 h4 h5 hm9
      exfalso
      omega
    | succ n7 ih8 =>
      intro u1 u2 h3 h4 h5 hm9
      refine q_iload_n C dX8_changing_4 (n := 5) rfl rfl ?_
      refine q_iconst C dX8_changing_5 (n := 6) rfl ?_
      refine q_iload_n C dX8_changing_6 (n := 7) rfl rfl ?_
      refine q_ishl C dX8_changing_7 (n := 8) rfl (v := zshl 1 v1) rfl ?_
      have g10 := zr_shl 1 v1
      have g11 : 0 ≤ v1 ∧ v1 ≤ 3 → 1 ≤ zshl 1 v1 ∧ zshl 1 v1 ≤ 8 := fun h => zshl1 h
      refine q_icmp_ge C 69 dX8_changing_8 (n := 11) rfl rfl (by omega) (fun h12 => ?_) (fun h12 => ?_)
      · refine q_iload_n C dX8_changing_69 (n := 70) rfl rfl ?_
        exact q_iret C dX8_changing_70 ⟨rfl, rfl⟩ (by rw [hPo]; exact ⟨u1, rfl, rfl, trivial⟩)
      · refine q_iload_n C dX8_changing_11 (n := 12) rfl rfl ?_
        refine q_bipush C dX8_changing_12 (n := 14) rfl (x := 8) (by decide) ?_
        refine q_icmp_ge C 69 dX8_changing_14 (n := 17) rfl rfl (by omega) (fun h13 => ?_) (fun h13 => ?_)
        · refine q_iload_n C dX8_changing_69 (n := 70) rfl rfl ?_
          exact q_iret C dX8_changing_70 ⟨rfl, rfl⟩ (by rw [hPo]; exact ⟨u1, rfl, rfl, trivial⟩)
        · refine q_iconst C dX8_changing_17 (n := 18) rfl ?_
          refine q_istore C [.ref (w.2.1 + a), zi v1, zi u1, zi u2, zi 0] dX8_changing_18 (n := 20) rfl rfl rfl ?_
          have L_19 : ∀ n20 : Nat, ∀ (u14 : Int) (u15 : Int), (-2147483648 ≤ u14 ∧ u14 ≤ 2147483647) → (-2147483648 ≤ u15 ∧ u15 ≤ 2147483647) → (0 ≤ u15 ∧ u15 ≤ 3) → (3 - u15 + 1 ≤ (n20 : Int)) → zK w p e 1 0 0 s m args below meth c 5 T Po 20 [.ref (w.2.1 + a), zi v1, zi u14, zi u2, zi u15] [] (T, M, J, R) := by
            intro n20
            induction n20 with
            | zero =>
              intro u14 u15 h16 h17 h18 hm22
              exfalso
              omega
            | succ n20 ih21 =>
              intro u14 u15 h16 h17 h18 hm22
              refine q_iload C dX8_changing_20 (n := 22) rfl rfl ?_
              refine q_iload_n C dX8_changing_22 (n := 23) rfl rfl ?_
              refine q_icmp_ge C 63 dX8_changing_23 (n := 26) rfl rfl (by omega) (fun h23 => ?_) (fun h23 => ?_)
              · refine q_iinc C [.ref (w.2.1 + a), zi v1, zi u14, zi (u2 + 1), zi u15] dX8_changing_63 (n := 66) rfl rfl rfl rfl ?_
                refine q_goto C 4 dX8_changing_66 rfl ?_
                exact zK.weak (ih8 u14 (u2 + 1) (by omega) (by omega) (by omega) (by omega)) (zwk_c (zwk_c (zwk_c (zwk_c (zwk_n zwk_e)))))
              · refine q_iload_n C dX8_changing_26 (n := 27) rfl rfl ?_
                refine q_aload_n C dX8_changing_27 (n := 28) rfl rfl ?_
                refine q_getR C dX8_changing_28 (n := 31) rfl f_X8_29 h0.1 (hF _ _ _ h0.2.2.2.2.2.2.2.2.2.1) ?_
                refine q_iload_n C dX8_changing_31 (n := 32) rfl rfl ?_
                have g24 := zI.at hI (h0.2.2.2.2.2.2.2.2.2.2.2.1 u2)
                refine q_iald C dX8_changing_32 (n := 33) rfl h0.2.2.2.2.2.2.2.2.2.2.1 (by omega) (v := M (a + 759) u2) rfl ?_
                refine q_aload_n C dX8_changing_33 (n := 34) rfl rfl ?_
                refine q_getR C dX8_changing_34 (n := 37) rfl f_X8_29 h0.1 (hF _ _ _ h0.2.2.2.2.2.2.2.2.2.1) ?_
                refine q_iload_n C dX8_changing_37 (n := 38) rfl rfl ?_
                refine q_iconst C dX8_changing_38 (n := 39) rfl ?_
                refine q_iload C dX8_changing_39 (n := 41) rfl rfl ?_
                refine q_ishl C dX8_changing_41 (n := 42) rfl (v := zshl 1 u15) rfl ?_
                have g25 := zr_shl 1 u15
                have g26 : 0 ≤ u15 ∧ u15 ≤ 3 → 1 ≤ zshl 1 u15 ∧ zshl 1 u15 ≤ 8 := fun h => zshl1 h
                refine q_ixor C dX8_changing_42 (n := 43) rfl (v := zxor u2 (zshl 1 u15)) rfl ?_
                have g27 := zr_xor u2 (zshl 1 u15)
                have gx := zxor8 (s := u2) (b := u15) (by omega) (by omega)
                have g28 := zI.at hI (h0.2.2.2.2.2.2.2.2.2.2.2.1 (zxor u2 (zshl 1 u15)))
                refine q_iald C dX8_changing_43 (n := 44) rfl h0.2.2.2.2.2.2.2.2.2.2.1 (by omega) (v := M (a + 759) (zxor u2 (zshl 1 u15))) rfl ?_
                have J_31 : ∀ (u29 : Int), (-2147483648 ≤ u29 ∧ u29 ≤ 2147483647) → zK w p e 1 0 0 s m args below meth c 5 T Po 55 [.ref (w.2.1 + a), zi v1, .null, zi u2, zi u15] [zi u29, zi u14] (T, M, J, R) := by
                  intro u29 h30
                  refine q_ior C dX8_changing_55 (n := 56) rfl (v := zor u14 u29) rfl ?_
                  have g32 := zr_or u14 u29
                  have g33 : zand u14 31 = 0 → zand (zor u14 u29) 31 = zand u29 31 := fun h => zl_or h
                  refine q_istore_n C [.ref (w.2.1 + a), zi v1, zi (zor u14 u29), zi u2, zi u15] dX8_changing_56 (n := 57) rfl rfl rfl ?_
                  refine q_iinc C [.ref (w.2.1 + a), zi v1, zi (zor u14 u29), zi u2, zi (u15 + 1)] dX8_changing_57 (n := 60) rfl rfl rfl rfl ?_
                  refine q_goto C 20 dX8_changing_60 rfl ?_
                  exact zK.weak (ih21 (zor u14 u29) (u15 + 1) (by omega) (by omega) (by omega) (by omega)) (zwk_c (zwk_c (zwk_c (zwk_c (zwk_c zwk_e)))))
                refine q_icmp_eq C 54 dX8_changing_44 (n := 47) rfl rfl (by omega) (fun h34 => ?_) (fun h34 => ?_)
                · refine q_iconst C dX8_changing_54 (n := 55) rfl ?_
                  exact zK.weak (J_31 0 (by omega)) (zwk_c (zwk_c (zwk_n (zwk_c (zwk_c zwk_e)))))
                · refine q_iconst C dX8_changing_47 (n := 48) rfl ?_
                  refine q_iload C dX8_changing_48 (n := 50) rfl rfl ?_
                  refine q_ishl C dX8_changing_50 (n := 51) rfl (v := zshl 1 u15) rfl ?_
                  have g35 := zr_shl 1 u15
                  have g36 : 0 ≤ u15 ∧ u15 ≤ 3 → 1 ≤ zshl 1 u15 ∧ zshl 1 u15 ≤ 8 := fun h => zshl1 h
                  refine q_goto C 55 dX8_changing_51 rfl ?_
                  exact zK.weak (J_31 (zshl 1 u15) (by omega)) (zwk_c (zwk_c (zwk_n (zwk_c (zwk_c zwk_e)))))
          exact zK.weak (L_19 _ u1 0 (by omega) (by omega) (by omega) (Int.self_le_toNat _)) (zwk_c (zwk_c (zwk_c (zwk_c (zwk_c zwk_e)))))
  exact zK.weak (L_6 _ 0 0 (by omega) (by omega) (by omega) (Int.self_le_toNat _)) (zwk_c (zwk_c (zwk_c (zwk_c (zwk_n zwk_e)))))
