/-- references but for a runner's pages, tally and summed row -/
def zRz (R R2 : zRm') (p : Nat) : Prop := ∀ c k, ¬ (c = p ∧ k = 11) → ¬ (c = p + 39 ∧ k = 7) → ¬ (c = p + 753 ∧ k = 2) → R2 c k = R c k
theorem zRz.rf {R : zRm'} {p : Nat} : zRz R R p := fun _ _ _ _ _ => rfl
theorem zRz.up11 {R R1 R2 : zRm'} {p : Nat} {v : Option Nat} (h : zRz R R1 p) (e : R2 = zup R1 p 11 v) : zRz R R2 p := fun c k q1 q2 q3 => by
  have : R2 c k = R1 c k := zup_n e q1
  rw [this]
  exact h c k q1 q2 q3
theorem zRz.up7 {R R1 R2 : zRm'} {p : Nat} {v : Option Nat} (h : zRz R R1 p) (e : R2 = zup R1 (p + 39) 7 v) : zRz R R2 p := fun c k q1 q2 q3 => by
  have : R2 c k = R1 c k := zup_n e q2
  rw [this]
  exact h c k q1 q2 q3
theorem zRz.up2 {R R1 R2 : zRm'} {p : Nat} {v : Option Nat} (h : zRz R R1 p) (e : R2 = zup R1 (p + 753) 2 v) : zRz R R2 p := fun c k q1 q2 q3 => by
  have : R2 c k = R1 c k := zup_n e q3
  rw [this]
  exact h c k q1 q2 q3
theorem zRz.F {F R R2 : zRm'} {p : Nat} (h : zRz R R2 p) (hF : zF F R) (n1 : F p 11 = none) (n2 : F (p + 39) 7 = none) (n3 : F (p + 753) 2 = none) : zF F R2 := by
  intro c k r q
  rw [h c k (fun z => by rw [z.1, z.2, n1] at q; cases q) (fun z => by rw [z.1, z.2, n2] at q; cases q) (fun z => by rw [z.1, z.2, n3] at q; cases q)]
  exact hF c k r q

theorem c_X11_run {w : zWp} {T : zTl} {M : zMm} {J : zJm} {R : zRm'} {G : zGt} {F : zRm'} {a : Nat} (hI : zI G M) (hF : zF F R) (h0 : zHideSets T F G a) (v1 : Int) (p1 : -2147483648 ≤ v1 ∧ v1 ≤ 2147483647) (p2 : zCI M a) : zCt w 124 0 0 yX11_run cX11_run 4 (some .int) [.ref (w.2.1 + a), zi v1] (T, M, J, R) (zPiE T G (fun x M2 R2 => (zKp G 15 M M2) ∧ (zRz R R2 (a + 30)))) := by
  refine zCt.of rfl (Nat.le_of_ble_eq_true rfl) ?_
  intro p e s m args below meth c C
  obtain ⟨Po, hPo⟩ : ∃ Po, Po = zPiE T G (fun x M2 R2 => (zKp G 15 M M2) ∧ (zRz R R2 (a + 30))) := ⟨_, rfl⟩
  rw [← hPo]
  have hK0 : zKp G 15 M M := zKp.rf
  show zK w p e 124 0 0 s m args below meth c 4 T Po 0 [.ref (w.2.1 + a), zi v1, .null, .null] [] (T, M, J, R)
  refine q_aload_n C dX11_run_0 (n := 1) rfl rfl ?_
  refine q_getR C dX11_run_1 (n := 4) rfl f_X11_20 h0.1 (hF _ _ _ h0.2.2.2.2.2.1) ?_
  refine q_iload_n C dX11_run_4 (n := 5) rfl rfl ?_
  refine q_callVp C dX11_run_5 (n := 8) rfl m_X11_99 v_yX7_hasFile h0.2.2.2.2.2.2.1.1 ⟨by decide, rfl⟩ (c_X7_hasFile (w := w) (J := J) hI hF h0.2.2.2.2.2.2.1 v1 (by omega)) (Nat.le_of_ble_eq_true rfl) rfl rfl (Nat.le_of_ble_eq_true rfl) ⟨Nat.le_refl _, Nat.le_refl _⟩ (fun x3 h4 => ?_)
  obtain ⟨h1, h2⟩ := h4
  refine q_if_ne C 13 dX11_run_8 (n := 11) rfl rfl (by omega) (fun h5 => ?_) (fun h5 => ?_)
  · refine q_aload_n C dX11_run_13 (n := 14) rfl rfl ?_
    refine q_getR C dX11_run_14 (n := 17) rfl f_X11_43 h0.1 (hF _ _ _ h0.2.2.2.2.2.2.2.2.2.2.2.2.2.2.2.2.2.1) ?_
    refine q_aload_n C dX11_run_17 (n := 18) rfl rfl ?_
    refine q_getR C dX11_run_18 (n := 21) rfl f_X11_20 h0.1 (hF _ _ _ h0.2.2.2.2.2.1) ?_
    refine q_iload_n C dX11_run_21 (n := 22) rfl rfl ?_
    refine q_aload_n C dX11_run_22 (n := 23) rfl rfl ?_
    refine q_getR C dX11_run_23 (n := 26) rfl f_X11_20 h0.1 (hF _ _ _ h0.2.2.2.2.2.1) ?_
    have g6 := zI.at hI h0.2.2.2.2.2.2.1.2.2.2.2.2.2.2.2.2.2.2.1
    refine q_getI C dX11_run_26 (n := 29) rfl f_X11_96 h0.2.2.2.2.2.2.1.1 (v := M (a + 2) 4) rfl ?_
    refine q_callVvR C dX11_run_29 (n := 32) rfl m_X11_102 v_yX6_start h0.2.2.2.2.2.2.2.2.2.2.2.2.2.2.2.2.2.2.1.1 ⟨by decide, rfl⟩ (c_X6_start (w := w) (J := J) hI hF h0.2.2.2.2.2.2.2.2.2.2.2.2.2.2.2.2.2.2.1 h0.2.2.2.2.2.2.1 v1 (M (a + 2) 4) (by omega) (by omega) (by omega) (by omega)) (Nat.le_of_ble_eq_true rfl) rfl rfl (Nat.le_of_ble_eq_true rfl) ⟨Nat.le_refl _, Nat.le_refl _⟩ (fun M8 J9  hI10 h11 => ?_)
    obtain ⟨hk12, h7⟩ := h11
    have hK13 := hK0.tr hk12 (by decide)
    obtain ⟨R14, e15⟩ : ∃ q, q = zup R (a + 30) 11 (some ((a + 2) + 1)) := ⟨_, rfl⟩
    rw [← e15]
    have hF := hF.put e15 h0.2.2.2.2.2.2.2.2.2.2.2.2.2.2.2.2.2.2.1.2.2.2.2.2.2.2.2.2.2.2.2.2.2.2.2.2.2.2.2.2.2.2.2.2.2.1
    obtain ⟨R16, e17⟩ : ∃ q, q = zup R14 ((a + 30) + 39) 7 (some ((a + 30) + 6)) := ⟨_, rfl⟩
    rw [← e17]
    have hF := hF.put e17 h0.2.2.2.2.2.2.2.2.2.2.2.2.2.2.2.2.2.2.1.2.2.2.2.2.2.2.2.2.2.2.2.2.2.2.2.2.2.2.1.2.2.2.2.2.2.2.2.2.2.2.2.2.2.2.2.1
    refine q_iconst C dX11_run_32 (n := 33) rfl ?_
    refine q_istore_n C [.ref (w.2.1 + a), zi v1, zi 1, .null] dX11_run_33 (n := 34) rfl rfl rfl ?_
    refine q_iconst C dX11_run_34 (n := 35) rfl ?_
    refine q_istore_n C [.ref (w.2.1 + a), zi v1, zi 1, zi 0] dX11_run_35 (n := 36) rfl rfl rfl ?_
    have L_33 : ∀ n34 : Nat, ∀ (u18 : Int) (u19 : Int) (R20 : zRm') (M21 : zMm) (J22 : zJm), zF F R20 → zI G M21 → zKp G 15 M M21 → (-2147483648 ≤ u18 ∧ u18 ≤ 2147483647) → (-2147483648 ≤ u19 ∧ u19 ≤ 2147483647) → ((u18 = 0 ∨ u18 = 1) ∧ 0 ≤ u19 ∧ u19 ≤ 1000000) → (zLn M21 (a + 30)) → (zCI M21 a) → (zRz R R20 (a + 30)) → (R20 (a + 30) 11 = some (a + 2 + 1)) → (R20 (a + 30 + 39) 7 = some (a + 30 + 6)) → (1000001 - u19 ≤ (n34 : Int)) → zK w p e 124 0 0 s m args below meth c 4 T Po 36 [.ref (w.2.1 + a), .null, zi u18, zi u19] [] (T, M21, J22, R20) := by
      intro n34
      induction n34 with
      | zero =>
        intro u18 u19 R20 M21 J22 hF hI23 hK24 h25 h26 h27 h28 h29 h30 h31 h32 hm36
        exfalso
        omega
      | succ n34 ih35 =>
        intro u18 u19 R20 M21 J22 hF hI23 hK24 h25 h26 h27 h28 h29 h30 h31 h32 hm36
        refine q_iload_n C dX11_run_36 (n := 37) rfl rfl ?_
        refine q_ldc C dX11_run_37 (n := 39) rfl (x := 1000000) k_X11_106 ?_
        have J_38 : (zRz R R20 (a + 30)) → zK w p e 124 0 0 s m args below meth c 4 T Po 60 [.ref (w.2.1 + a), .null, .null, .null] [] (T, M21, J22, R20) := by
          intro h37
          refine q_aload_n C dX11_run_60 (n := 61) rfl rfl ?_
          refine q_getR C dX11_run_61 (n := 64) rfl f_X11_43 h0.1 (hF _ _ _ h0.2.2.2.2.2.2.2.2.2.2.2.2.2.2.2.2.2.1) ?_
          refine q_getR C dX11_run_64 (n := 67) rfl f_X11_111 h0.2.2.2.2.2.2.2.2.2.2.2.2.2.2.2.2.2.2.1.1 (hF _ _ _ h0.2.2.2.2.2.2.2.2.2.2.2.2.2.2.2.2.2.2.1.2.2.2.1) ?_
          have g39 := zI.at hI23 h0.2.2.2.2.2.2.2.2.2.2.2.2.2.2.2.2.2.2.1.2.2.2.2.1.2.1
          refine q_getI C dX11_run_67 (n := 70) rfl f_X11_115 h0.2.2.2.2.2.2.2.2.2.2.2.2.2.2.2.2.2.2.1.2.2.2.2.1.1 (v := M21 (a + 30 + 1) 0) rfl ?_
          refine q_if_eq C 78 dX11_run_70 (n := 73) rfl rfl (by omega) (fun h40 => ?_) (fun h40 => ?_)
          · refine q_aload_n C dX11_run_78 (n := 79) rfl rfl ?_
            refine q_getR C dX11_run_79 (n := 82) rfl f_X11_43 h0.1 (hF _ _ _ h0.2.2.2.2.2.2.2.2.2.2.2.2.2.2.2.2.2.1) ?_
            refine q_getR C dX11_run_82 (n := 85) rfl f_X11_120 h0.2.2.2.2.2.2.2.2.2.2.2.2.2.2.2.2.2.2.1.1 (hF _ _ _ h0.2.2.2.2.2.2.2.2.2.2.2.2.2.2.2.2.2.2.1.2.2.2.2.2.2.2.1) ?_
            have g41 := zI.at hI23 h0.2.2.2.2.2.2.2.2.2.2.2.2.2.2.2.2.2.2.1.2.2.2.2.2.2.2.2.1.2.2.2.2.2.2.2.2.2.2
            refine q_getI C dX11_run_85 (n := 88) rfl f_X11_124 h0.2.2.2.2.2.2.2.2.2.2.2.2.2.2.2.2.2.2.1.2.2.2.2.2.2.2.2.1.1 (v := M21 (a + 30 + 2) 3) rfl ?_
            exact q_iret C dX11_run_88 ⟨rfl, rfl⟩ (by rw [hPo]; exact ⟨M21 (a + 30 + 2) 3, M21, J22, R20, rfl, rfl, hI23, hK24, h37⟩)
          · refine q_bipush C dX11_run_73 (n := 75) rfl (x := (-2)) (by decide) ?_
            refine q_goto C 88 dX11_run_75 rfl ?_
            exact q_iret C dX11_run_88 ⟨rfl, rfl⟩ (by rw [hPo]; exact ⟨(-2), M21, J22, R20, rfl, rfl, hI23, hK24, h37⟩)
        refine q_icmp_ge C 60 dX11_run_39 (n := 42) rfl rfl (by omega) (fun h42 => ?_) (fun h42 => ?_)
        · exact zK.weak (J_38 h30) (zwk_c (zwk_n (zwk_n (zwk_n zwk_e))))
        · refine q_iload_n C dX11_run_42 (n := 43) rfl rfl ?_
          refine q_if_eq C 60 dX11_run_43 (n := 46) rfl rfl (by omega) (fun h43 => ?_) (fun h43 => ?_)
          · exact zK.weak (J_38 h30) (zwk_c (zwk_n (zwk_n (zwk_n zwk_e))))
          · refine q_aload_n C dX11_run_46 (n := 47) rfl rfl ?_
            refine q_getR C dX11_run_47 (n := 50) rfl f_X11_43 h0.1 (hF _ _ _ h0.2.2.2.2.2.2.2.2.2.2.2.2.2.2.2.2.2.1) ?_
            refine q_callViE C dX11_run_50 (n := 53) rfl m_X11_107 v_yX6_doLine h0.2.2.2.2.2.2.2.2.2.2.2.2.2.2.2.2.2.2.1.1 ⟨by decide, rfl⟩ (c_X6_doLine (w := w) (J := J22) hI23 hF h0.2.2.2.2.2.2.2.2.2.2.2.2.2.2.2.2.2.2.1 h31 h0.2.2.2.2.2.2.1.2.2.1 h0.2.2.2.2.2.2.1.2.2.2.1 h32 h0.2.2.2.2.2.2.2.2.2.2.2.2.2.2.2.2.2.2.1.2.2.2.2.2.2.2.2.2.2.1 h0.2.2.2.2.2.2.2.2.2.2.2.2.2.2.2.2.2.2.1.2.2.2.2.2.2.2.2.2.2.2.1 (by omega) (by omega) h28 (fun j j0 j1 => ((h29).1 j j0 j1).1)) (Nat.le_of_ble_eq_true rfl) rfl rfl (Nat.le_of_ble_eq_true rfl) ⟨Nat.le_refl _, Nat.le_refl _⟩ (fun x52 M47 J48 R51 hI49 h50 => ?_)
            obtain ⟨hk53, h44, h45, h46⟩ := h50
            have hK54 := hK24.tr hk53 (by decide)
            have hz55 : zRz R R51 (a + 30) := h46.elim (fun e => e ▸ h30) (fun e => zRz.up2 h30 e)
            have hF : zF F R51 := h46.elim (fun e => e ▸ hF) (fun e => hF.put e h0.2.2.2.2.2.2.2.2.2.2.2.2.2.2.2.2.2.2.1.2.2.2.2.2.2.2.2.2.2.2.2.2.2.2.2.2.2.2.2.2.1.2.2.2.2.2.1)
            have hz56 : R51 (a + 30) 11 = some (a + 2 + 1) := h46.elim (fun e => e ▸ h31) (fun e => (zup_p e (by omega) _).trans h31)
            have hz57 : R51 (a + 30 + 39) 7 = some (a + 30 + 6) := h46.elim (fun e => e ▸ h32) (fun e => (zup_p e (by omega) _).trans h32)
            refine q_istore_n C [.ref (w.2.1 + a), .null, zi x52, zi u19] dX11_run_53 (n := 54) rfl rfl rfl ?_
            refine q_iinc C [.ref (w.2.1 + a), .null, zi x52, zi (u19 + 1)] dX11_run_54 (n := 57) rfl rfl rfl rfl ?_
            refine q_goto C 36 dX11_run_57 rfl ?_
            have hci58 : zCI M47 a := (zCI.kp h29 h0 hk53 (by decide))
            exact zK.weak (ih35 x52 (u19 + 1) R51 M47 J48 hF hI49 hK54 (by omega) (by omega) (by omega) h45 hci58 hz55 hz56 hz57 (by omega)) (zwk_c (zwk_n (zwk_c (zwk_c zwk_e))))
    have hci59 : zCI M8 a := (zCI.kp p2 h0 hk12 (by decide))
    exact zK.weak (L_33 _ 1 0 R16 M8 J9 hF hI10 hK13 (by omega) (by omega) (by omega) h7 hci59 ((zRz.up7 (zRz.up11 zRz.rf e15) e17)) ((zup_p e17 (by omega) _).trans (zup_s e15)) (zup_s e17) (Int.self_le_toNat _)) (zwk_c (zwk_n (zwk_c (zwk_c zwk_e))))
  · refine q_iconst C dX11_run_11 (n := 12) rfl ?_
    exact q_iret C dX11_run_12 ⟨rfl, rfl⟩ (by rw [hPo]; exact ⟨(-1), M, J, R, rfl, rfl, hI, hK0, zRz.rf⟩)
