theorem c_X4_closeLine {w : zWp} {T : zTl} {M : zMm} {J : zJm} {R : zRm'} {G : zGt} {F : zRm'} {a : Nat} (hI : zI G M) (hF : zF F R) (h0 : zPage T F G a) (v1 : Int) (p1 : 0 ≤ v1 ∧ v1 ≤ 401) (p2 : M (a + 2) (M a 3) ≤ v1) (p3 : zMo M a) : zCt w 1 0 0 yX4_closeLine cX4_closeLine 2 none [.ref (w.2.1 + a), zi v1] (T, M, J, R) (zPv T R G (fun M2 => (zKr a 4 M M2) ∧ (zMo M2 a) ∧ (M2 (a + 2) (M2 a 3) ≤ v1) ∧ (M a 3 < 40 ∧ M2 a 3 = M a 3 + 1 ∧ M2 (a + 2) (M2 a 3) = v1 ∨ 40 ≤ M a 3))) := by
  refine zCt.of rfl (Nat.le_of_ble_eq_true rfl) ?_
  intro p e s m args below meth c C
  obtain ⟨Po, hPo⟩ : ∃ Po, Po = zPv T R G (fun M2 => (zKr a 4 M M2) ∧ (zMo M2 a) ∧ (M2 (a + 2) (M2 a 3) ≤ v1) ∧ (M a 3 < 40 ∧ M2 a 3 = M a 3 + 1 ∧ M2 (a + 2) (M2 a 3) = v1 ∨ 40 ≤ M a 3)) := ⟨_, rfl⟩
  rw [← hPo]
  have hK0 : zKr a 4 M M := zKr.rf
  show zK w p e 1 0 0 s m args below meth c 2 T Po 0 [.ref (w.2.1 + a), zi v1] [] (T, M, J, R)
  refine q_aload_n C dX4_closeLine_0 (n := 1) rfl rfl ?_
  have g1 := zI.at hI h0.2.2.2.2.2.2.2.2.2.2.1
  refine q_getI C dX4_closeLine_1 (n := 4) rfl f_X4_22 h0.1 (v := M a 3) rfl ?_
  refine q_bipush C dX4_closeLine_4 (n := 6) rfl (x := 40) (by decide) ?_
  refine q_icmp_ge C 29 dX4_closeLine_6 (n := 9) rfl rfl (by omega) (fun h2 => ?_) (fun h2 => ?_)
  · exact q_vret C dX4_closeLine_29 ⟨rfl, rfl⟩ (by rw [hPo]; exact ⟨M, J, rfl, rfl, hI, hK0, p3, p2, (Or.inr (by omega))⟩)
  · refine q_aload_n C dX4_closeLine_9 (n := 10) rfl rfl ?_
    refine q_dup C dX4_closeLine_10 (n := 11) rfl rfl ?_
    refine q_getI C dX4_closeLine_11 (n := 14) rfl f_X4_22 h0.1 (v := M a 3) rfl ?_
    refine q_iconst C dX4_closeLine_14 (n := 15) rfl ?_
    refine q_iadd C dX4_closeLine_15 (n := 16) rfl (v := (M a 3) + 1) rfl ?_
    refine q_putI C dX4_closeLine_16 (n := 19) rfl f_X4_22 h0.1 ⟨rfl, rfl⟩ (fun M3 (e4 : M3 = zup M a 3 ((M a 3) + 1)) => ?_)
    have hI5 : zI G M3 := hI.put e4 h0.2.2.2.2.2.2.2.2.2.2.1 rfl (by omega)
    have hK6 := hK0.put e4 (by omega)
    refine q_aload_n C dX4_closeLine_19 (n := 20) rfl rfl ?_
    refine q_getR C dX4_closeLine_20 (n := 23) rfl f_X4_15 h0.1 (hF _ _ _ h0.2.2.2.2.1) ?_
    refine q_aload_n C dX4_closeLine_23 (n := 24) rfl rfl ?_
    refine q_getI C dX4_closeLine_24 (n := 27) rfl f_X4_22 h0.1 (v := (M a 3) + 1) (zup_s e4) ?_
    refine q_iload_n C dX4_closeLine_27 (n := 28) rfl rfl ?_
    refine q_iast C dX4_closeLine_28 (n := 29) rfl h0.2.2.2.2.2.1 (by omega)  (fun M7 e8 => ?_)
    have hI9 : zI G M7 := hI5.put e8 (h0.2.2.2.2.2.2.1 ((M a 3) + 1)) rfl (by omega)
    have hK10 := hK6.put e8 (by omega)
    exact q_vret C dX4_closeLine_29 ⟨rfl, rfl⟩ (by rw [hPo]; exact ⟨M7, J, rfl, rfl, hI9, hK10, p3.close rfl (by omega) p2 e4 e8, (by have h3 : M7 a 3 = (M a 3) + 1 := ((zup_p e8 (by omega) _).trans (zup_s e4)); rw [h3]; have h2 : M7 (a + 2) ((M a 3) + 1) = v1 := (zup_s e8); omega), (Or.inl (by have h3 : M7 a 3 = (M a 3) + 1 := ((zup_p e8 (by omega) _).trans (zup_s e4)); have h2 : M7 (a + 2) ((M a 3) + 1) = v1 := (zup_s e8); exact ⟨by omega, by omega, by rw [h3]; omega⟩))⟩)
