theorem c_X7_hasFile_e {w : zWp} {T : zTl} {M : zMm} {J : zJm} {R : zRm'} {G : zGt} {F : zRm'} {a : Nat} (hI : zI G M) (hF : zF F R) (h0 : zSource T F G a) (v1 : Int) (p1 : -2147483648 ≤ v1 ∧ v1 ≤ 2147483647) : zCt w 1 0 0 yX7_hasFile cX7_hasFile 2 (some .boolean) [.ref (w.2.1 + a), zi v1] (T, M, J, R) (zPp T M J R (fun x => (x = 0 ∨ x = 1) ∧ (x = 1 ↔ (0 ≤ v1 ∧ v1 ≤ 3 ∧ M (a + 9 + 4 * v1.toNat) 4 = 1)))) := by
  refine zCt.of rfl (Nat.le_of_ble_eq_true rfl) ?_
  intro p e s m args below meth c C
  obtain ⟨Po, hPo⟩ : ∃ Po, Po = zPp T M J R (fun x => (x = 0 ∨ x = 1) ∧ (x = 1 ↔ (0 ≤ v1 ∧ v1 ≤ 3 ∧ M (a + 9 + 4 * v1.toNat) 4 = 1))) := ⟨_, rfl⟩
  rw [← hPo]
  show zK w p e 1 0 0 s m args below meth c 2 T Po 0 [.ref (w.2.1 + a), zi v1] [] (T, M, J, R)
  refine q_iload_n C dX7_hasFile_0 (n := 1) rfl rfl ?_
  have J_5 : ∀ (u1 : Int), (-2147483648 ≤ u1 ∧ u1 ≤ 2147483647) → (u1 = 0 ∨ u1 = 1) → (u1 = 1 ↔ (0 ≤ v1 ∧ v1 ≤ 3 ∧ M (a + 9 + 4 * v1.toNat) 4 = 1)) → zK w p e 1 0 0 s m args below meth c 2 T Po 26 [.null, .null] [zi u1] (T, M, J, R) := by
    intro u1 h2 h3 h4
    exact q_zret C dX7_hasFile_26 ⟨rfl, rfl⟩ (by omega) (by rw [hPo]; exact ⟨u1, rfl, rfl, by omega, by omega⟩)
  refine q_if_lt C 25 dX7_hasFile_1 (n := 4) rfl rfl (by omega) (fun h6 => ?_) (fun h6 => ?_)
  · refine q_iconst C dX7_hasFile_25 (n := 26) rfl ?_
    exact zK.weak (J_5 0 (by omega) (by omega) (by omega)) (zwk_n (zwk_n zwk_e))
  · refine q_iload_n C dX7_hasFile_4 (n := 5) rfl rfl ?_
    refine q_iconst C dX7_hasFile_5 (n := 6) rfl ?_
    refine q_icmp_ge C 25 dX7_hasFile_6 (n := 9) rfl rfl (by omega) (fun h7 => ?_) (fun h7 => ?_)
    · refine q_iconst C dX7_hasFile_25 (n := 26) rfl ?_
      exact zK.weak (J_5 0 (by omega) (by omega) (by omega)) (zwk_n (zwk_n zwk_e))
    · refine q_aload_n C dX7_hasFile_9 (n := 10) rfl rfl ?_
      refine q_getR C dX7_hasFile_10 (n := 13) rfl f_X7_11 h0.1 (hF _ _ _ h0.2.1) ?_
      refine q_iload_n C dX7_hasFile_13 (n := 14) rfl rfl ?_
      refine q_aald C dX7_hasFile_14 (n := 15) rfl ⟨by decide, by decide⟩ h0.2.2.1 (by omega) (hF _ _ _ (h0.2.2.2.1 v1 (by omega) (by omega)).1) ?_
      have g8 := zI.at hI (h0.2.2.2.1 v1 (by omega) (by omega)).2.2.2.2.2.2.2.2.2.2.2.2.1
      refine q_getI C dX7_hasFile_15 (n := 18) rfl f_X7_40 (h0.2.2.2.1 v1 (by omega) (by omega)).2.1 (v := M (a + 9 + 4 * (v1 : Int).toNat) 4) rfl ?_
      refine q_if_eq C 25 dX7_hasFile_18 (n := 21) rfl rfl (by omega) (fun h9 => ?_) (fun h9 => ?_)
      · refine q_iconst C dX7_hasFile_25 (n := 26) rfl ?_
        exact zK.weak (J_5 0 (by omega) (by omega) (by omega)) (zwk_n (zwk_n zwk_e))
      · refine q_iconst C dX7_hasFile_21 (n := 22) rfl ?_
        refine q_goto C 26 dX7_hasFile_22 rfl ?_
        exact zK.weak (J_5 1 (by omega) (by omega) (by omega)) (zwk_n (zwk_n zwk_e))
theorem c_X7_hasLine_e {w : zWp} {T : zTl} {M : zMm} {J : zJm} {R : zRm'} {G : zGt} {F : zRm'} {a : Nat} (hI : zI G M) (hF : zF F R) (h0 : zSource T F G a) (v1 : Int) (v2 : Int) (p1 : -2147483648 ≤ v1 ∧ v1 ≤ 2147483647) (p2 : -2147483648 ≤ v2 ∧ v2 ≤ 2147483647) : zCt w 2 0 0 yX7_hasLine cX7_hasLine 3 (some .boolean) [.ref (w.2.1 + a), zi v1, zi v2] (T, M, J, R) (zPp T M J R (fun x => (x = 0 ∨ x = 1) ∧ (x = 1 ↔ (0 ≤ v1 ∧ v1 ≤ 3 ∧ M (a + 9 + 4 * v1.toNat) 4 = 1 ∧ 0 ≤ v2 ∧ v2 < M (a + 9 + 4 * v1.toNat) 3)))) := by
  refine zCt.of rfl (Nat.le_of_ble_eq_true rfl) ?_
  intro p e s m args below meth c C
  obtain ⟨Po, hPo⟩ : ∃ Po, Po = zPp T M J R (fun x => (x = 0 ∨ x = 1) ∧ (x = 1 ↔ (0 ≤ v1 ∧ v1 ≤ 3 ∧ M (a + 9 + 4 * v1.toNat) 4 = 1 ∧ 0 ≤ v2 ∧ v2 < M (a + 9 + 4 * v1.toNat) 3))) := ⟨_, rfl⟩
  rw [← hPo]
  show zK w p e 2 0 0 s m args below meth c 3 T Po 0 [.ref (w.2.1 + a), zi v1, zi v2] [] (T, M, J, R)
  refine q_aload_n C dX7_hasLine_0 (n := 1) rfl rfl ?_
  refine q_iload_n C dX7_hasLine_1 (n := 2) rfl rfl ?_
  refine q_callVp C dX7_hasLine_2 (n := 5) rfl m_X7_44 v_yX7_hasFile h0.1 ⟨by decide, rfl⟩ (c_X7_hasFile_e (w := w) (J := J) hI hF h0 v1 (by omega)) (Nat.le_of_ble_eq_true rfl) rfl rfl (Nat.le_of_ble_eq_true rfl) ⟨Nat.le_refl _, Nat.le_refl _⟩ (fun x3 h4 => ?_)
  obtain ⟨h1, h2⟩ := h4
  have J_9 : ∀ (u5 : Int), (-2147483648 ≤ u5 ∧ u5 ≤ 2147483647) → (u5 = 0 ∨ u5 = 1) → (u5 = 1 ↔ (0 ≤ v1 ∧ v1 ≤ 3 ∧ M (a + 9 + 4 * v1.toNat) 4 = 1 ∧ 0 ≤ v2 ∧ v2 < M (a + 9 + 4 * v1.toNat) 3)) → zK w p e 2 0 0 s m args below meth c 3 T Po 30 [.null, .null, .null] [zi u5] (T, M, J, R) := by
    intro u5 h6 h7 h8
    exact q_zret C dX7_hasLine_30 ⟨rfl, rfl⟩ (by omega) (by rw [hPo]; exact ⟨u5, rfl, rfl, by omega, by omega⟩)
  refine q_if_eq C 29 dX7_hasLine_5 (n := 8) rfl rfl (by omega) (fun h10 => ?_) (fun h10 => ?_)
  · refine q_iconst C dX7_hasLine_29 (n := 30) rfl ?_
    exact zK.weak (J_9 0 (by omega) (by omega) (by omega)) (zwk_n (zwk_n (zwk_n zwk_e)))
  · refine q_iload_n C dX7_hasLine_8 (n := 9) rfl rfl ?_
    refine q_if_lt C 29 dX7_hasLine_9 (n := 12) rfl rfl (by omega) (fun h11 => ?_) (fun h11 => ?_)
    · refine q_iconst C dX7_hasLine_29 (n := 30) rfl ?_
      exact zK.weak (J_9 0 (by omega) (by omega) (by omega)) (zwk_n (zwk_n (zwk_n zwk_e)))
    · refine q_iload_n C dX7_hasLine_12 (n := 13) rfl rfl ?_
      refine q_aload_n C dX7_hasLine_13 (n := 14) rfl rfl ?_
      refine q_getR C dX7_hasLine_14 (n := 17) rfl f_X7_11 h0.1 (hF _ _ _ h0.2.1) ?_
      refine q_iload_n C dX7_hasLine_17 (n := 18) rfl rfl ?_
      refine q_aald C dX7_hasLine_18 (n := 19) rfl ⟨by decide, by decide⟩ h0.2.2.1 (by omega) (hF _ _ _ (h0.2.2.2.1 v1 (by omega) (by omega)).1) ?_
      have g12 := zI.at hI (h0.2.2.2.1 v1 (by omega) (by omega)).2.2.2.2.2.2.2.2.2.2.2.1
      refine q_getI C dX7_hasLine_19 (n := 22) rfl f_X7_48 (h0.2.2.2.1 v1 (by omega) (by omega)).2.1 (v := M (a + 9 + 4 * (v1 : Int).toNat) 3) rfl ?_
      refine q_icmp_ge C 29 dX7_hasLine_22 (n := 25) rfl rfl (by omega) (fun h13 => ?_) (fun h13 => ?_)
      · refine q_iconst C dX7_hasLine_29 (n := 30) rfl ?_
        exact zK.weak (J_9 0 (by omega) (by omega) (by omega)) (zwk_n (zwk_n (zwk_n zwk_e)))
      · refine q_iconst C dX7_hasLine_25 (n := 26) rfl ?_
        refine q_goto C 30 dX7_hasLine_26 rfl ?_
        exact zK.weak (J_9 1 (by omega) (by omega) (by omega)) (zwk_n (zwk_n (zwk_n zwk_e)))
theorem c_X7_hasSetting_e {w : zWp} {T : zTl} {M : zMm} {J : zJm} {R : zRm'} {G : zGt} {F : zRm'} {a : Nat} (hI : zI G M) (hF : zF F R) (h0 : zSource T F G a) (v1 : Int) (p1 : -2147483648 ≤ v1 ∧ v1 ≤ 2147483647) : zCt w 1 0 0 yX7_hasSetting cX7_hasSetting 2 (some .boolean) [.ref (w.2.1 + a), zi v1] (T, M, J, R) (zPp T M J R (fun x => (x = 0 ∨ x = 1) ∧ (x = 1 ↔ (0 ≤ v1 ∧ v1 < zshl 1 (M a 3))))) := by
  refine zCt.of rfl (Nat.le_of_ble_eq_true rfl) ?_
  intro p e s m args below meth c C
  obtain ⟨Po, hPo⟩ : ∃ Po, Po = zPp T M J R (fun x => (x = 0 ∨ x = 1) ∧ (x = 1 ↔ (0 ≤ v1 ∧ v1 < zshl 1 (M a 3)))) := ⟨_, rfl⟩
  rw [← hPo]
  show zK w p e 1 0 0 s m args below meth c 2 T Po 0 [.ref (w.2.1 + a), zi v1] [] (T, M, J, R)
  refine q_iload_n C dX7_hasSetting_0 (n := 1) rfl rfl ?_
  have J_5 : ∀ (u1 : Int), (-2147483648 ≤ u1 ∧ u1 ≤ 2147483647) → (u1 = 0 ∨ u1 = 1) → (u1 = 1 ↔ (0 ≤ v1 ∧ v1 < zshl 1 (M a 3))) → zK w p e 1 0 0 s m args below meth c 2 T Po 19 [.null, .null] [zi u1] (T, M, J, R) := by
    intro u1 h2 h3 h4
    exact q_zret C dX7_hasSetting_19 ⟨rfl, rfl⟩ (by omega) (by rw [hPo]; exact ⟨u1, rfl, rfl, by omega, by omega⟩)
  refine q_if_lt C 18 dX7_hasSetting_1 (n := 4) rfl rfl (by omega) (fun h6 => ?_) (fun h6 => ?_)
  · refine q_iconst C dX7_hasSetting_18 (n := 19) rfl ?_
    exact zK.weak (J_5 0 (by omega) (by omega) (by omega)) (zwk_n (zwk_n zwk_e))
  · refine q_iload_n C dX7_hasSetting_4 (n := 5) rfl rfl ?_
    refine q_iconst C dX7_hasSetting_5 (n := 6) rfl ?_
    refine q_aload_n C dX7_hasSetting_6 (n := 7) rfl rfl ?_
    have g7 := zI.at hI h0.2.2.2.2.2.2.2.2.2.2.1
    refine q_getI C dX7_hasSetting_7 (n := 10) rfl f_X7_26 h0.1 (v := M a 3) rfl ?_
    refine q_ishl C dX7_hasSetting_10 (n := 11) rfl (v := zshl 1 (M a 3)) rfl ?_
    have g8 := zr_shl 1 (M a 3)
    have g9 : 0 ≤ M a 3 ∧ M a 3 ≤ 3 → 1 ≤ zshl 1 (M a 3) ∧ zshl 1 (M a 3) ≤ 8 := fun h => zshl1 h
    refine q_icmp_ge C 18 dX7_hasSetting_11 (n := 14) rfl rfl (by omega) (fun h10 => ?_) (fun h10 => ?_)
    · refine q_iconst C dX7_hasSetting_18 (n := 19) rfl ?_
      exact zK.weak (J_5 0 (by omega) (by omega) (by omega)) (zwk_n (zwk_n zwk_e))
    · refine q_iconst C dX7_hasSetting_14 (n := 15) rfl ?_
      refine q_goto C 19 dX7_hasSetting_15 rfl ?_
      exact zK.weak (J_5 1 (by omega) (by omega) (by omega)) (zwk_n (zwk_n zwk_e))
theorem c_X11_theStudy_s {w : zWp} {T : zTl} {M : zMm} {J : zJm} {R : zRm'} {G : zGt} {F : zRm'} {a sy : Nat} (hF : zF F R) (h0 : zHideSets T F G a) (hst : R a 8 = some sy) : zCt w 1 0 0 yX11_theStudy cX11_theStudy 1 (some (.object "HideSets$Study")) [.ref (w.2.1 + a)] (T, M, J, R) (fun v τ => v = some (.ref (w.2.1 + sy)) ∧ τ = (T, M, J, R)) := by
  refine zCt.of rfl (Nat.le_of_ble_eq_true rfl) ?_
  intro p e s m args below meth c C
  show zK w p e 1 0 0 s m args below meth c 1 T _ 0 [.ref (w.2.1 + a)] [] (T, M, J, R)
  refine q_aload_n C dX11_theStudy_0 (n := 1) rfl rfl ?_
  refine q_getR C dX11_theStudy_1 (n := 4) rfl f_X11_47 h0.1 hst ?_
  refine q_ifnonnullR C 18 dX11_theStudy_4 rfl ?_
  refine q_aload_n C dX11_theStudy_18 (n := 19) rfl rfl ?_
  refine q_getR C dX11_theStudy_19 (n := 22) rfl f_X11_47 h0.1 hst ?_
  exact r_aret C (Or.inl ⟨_, rfl⟩) dX11_theStudy_22 ⟨rfl, rfl⟩ ⟨rfl, rfl⟩
theorem c_X11_theStudy_n {w : zWp} {T : zTl} {M : zMm} {J : zJm} {R : zRm'} {G : zGt} {F : zRm'} {a b : Nat} (hI : zI G M) (h0 : zHideSets T F G a) (hst : R a 8 = none) (hb : T.length = b) (hz : zFr b M J R) (hg : zG8 G b) : zCt w 6 761 164533 yX11_theStudy cX11_theStudy 1 (some (.object "HideSets$Study")) [.ref (w.2.1 + a)] (T, M, J, R) (fun v τ => v = some (.ref (w.2.1 + b)) ∧ ∃ (M2 : zMm) (R1 R2 : zRm'), τ = (T ++ zL8, M2, J, R2) ∧ zI G M2 ∧ (∀ c q, c < b → M2 c q = M c q) ∧ R2 = zup R1 a 8 (some b) ∧ (∀ c q, c < b → R1 c q = R c q) ∧ zN8 R1 b ∧ zFr (b + 761) M2 J R1) := by
  have ha : a < T.length := (List.getElem?_eq_some_iff.mp h0.1).1
  refine zCt.of rfl (Nat.le_of_ble_eq_true rfl) ?_
  intro p e s m args below meth c C
  obtain ⟨Po, hPo⟩ : ∃ Po, Po = (fun (v : Option Value) (τ : zSg) => v = some (.ref (w.2.1 + b)) ∧ ∃ (M2 : zMm) (R1 R2 : zRm'), τ = (T ++ zL8, M2, J, R2) ∧ zI G M2 ∧ (∀ c q, c < b → M2 c q = M c q) ∧ R2 = zup R1 a 8 (some b) ∧ (∀ c q, c < b → R1 c q = R c q) ∧ zN8 R1 b ∧ zFr (b + 761) M2 J R1) := ⟨_, rfl⟩
  rw [← hPo]
  show zK w p e 6 761 164533 s m args below meth c 1 T Po 0 [.ref (w.2.1 + a)] [] (T, M, J, R)
  refine q_aload_n C dX11_theStudy_0 (n := 1) rfl rfl ?_
  refine q_getN C dX11_theStudy_1 (n := 4) rfl f_X11_47 h0.1 hst ?_
  refine q_ifnonnullN C dX11_theStudy_4 (n := 7) rfl ?_
  refine q_aload_n C dX11_theStudy_7 (n := 8) rfl rfl ?_
  refine q_new C dX11_theStudy_8 (n := 11) rfl (q := b) nw_X11_83 hb hz ⟨by omega, by omega⟩ (fun T1 e1 => ?_)
  refine q_dup C dX11_theStudy_11 (n := 12) rfl rfl ?_
  have l1 : T1.length = T.length + 1 := by rw [e1, List.length_append]; rfl
  have z1 : zsz T1 = zsz T + 6 := by rw [e1, zsz_app2]; rfl
  refine q_ctorN C dX11_theStudy_12 (n := 15) rfl nl_X8 nn_X8 i_yX8_init e1 (n_X8 hI hb hz hg) (Nat.le_of_ble_eq_true rfl) rfl rfl (Nat.le_of_ble_eq_true rfl) ⟨by omega, by omega⟩ (fun T2 M2 R1 e2 hI2 hz2 hm2 hr2 hE2 => ?_)
  have ht : T2[a]? = some (11, 9) := zlk2 e2 h0.1
  refine q_putR C dX11_theStudy_15 (n := 18) rfl f_X11_47 ht rfl ⟨rfl, rfl⟩ (fun R2 er => ?_)
  refine q_aload_n C dX11_theStudy_18 (n := 19) rfl rfl ?_
  refine q_getR C dX11_theStudy_19 (n := 22) rfl f_X11_47 ht (zup_s er) ?_
  refine r_aret C (Or.inl ⟨_, rfl⟩) dX11_theStudy_22 ⟨?_, ?_⟩ (by rw [hPo]; exact ⟨rfl, M2, R1, R2, by rw [e2], hI2, hm2, er, hr2, hE2.1, hz2⟩)
  · show T2.length = T.length + 761
    rw [e2, List.length_append, zL8_len]
  · show zsz T2 = zsz T + 164533
    rw [e2, zsz_app2, zL8_sz]

theorem s_X11_presence {w : zWp} {T : zTl} {M : zMm} {J : zJm} {R : zRm'} {G : zGt} {F : zRm'} {a sy : Nat} (hI : zI G M) (hF : zF F R) (h0 : zHideSets T F G a) (v1 : Int) (v2 : Int) (v3 : Int) (h_sy : zStudy T F G sy) (p1 : 0 ≤ v1 ∧ v1 ≤ 3 ∧ 0 ≤ v2 ∧ v2 ≤ 3 ∧ 0 ≤ v3 ∧ v3 ≤ 39) (p2 : zCI M a) {p : Program} {e : Env} {s : State} {m : MethodId} {args : Array Value} {below : List Frame} {meth : Method} {c : Code} {mc ms : Nat} {T0 : zTl} {Po : Option Value → zSg → Prop} (C : zCx w p s m args meth c yX11_presence cX11_presence 5 (some .int)) (hmc : T.length = T0.length + mc) (hms : zsz T = zsz T0 + ms) (hPo : ∀ v τ, (zPiE T G (fun x M2 R2 => (zKp G 17 M M2) ∧ (zRz R R2 (sy + 1)))) v τ → Po v τ) : zK w p e 128 mc ms s m args below meth c 5 T0 Po 29 [.ref (w.2.1 + a), zi v1, zi v2, zi v3, .null] [.ref (w.2.1 + sy)] (T, M, J, R) := by
  have hK0 : zKp G 17 M M := zKp.rf
  refine q_astore C [.ref (w.2.1 + a), zi v1, zi v2, zi v3, .ref (w.2.1 + sy)] dX11_presence_29 (n := 31) rfl rfl rfl ?_
  refine q_aload C dX11_presence_31 (n := 33) rfl rfl ?_
  refine q_aload_n C dX11_presence_33 (n := 34) rfl rfl ?_
  refine q_getR C dX11_presence_34 (n := 37) rfl f_X11_20 h0.1 (hF _ _ _ h0.2.2.2.2.2.1) ?_
  refine q_iload_n C dX11_presence_37 (n := 38) rfl rfl ?_
  refine q_callVvE C dX11_presence_38 (n := 41) rfl m_X11_220 v_yX8_look h_sy.1 ⟨by decide, rfl⟩ (c_X8_look (w := w) (J := J) hI hF h_sy h0.2.2.2.2.2.2.1 v1 (by omega) p2.1) (Nat.le_of_ble_eq_true rfl) rfl rfl (Nat.le_of_ble_eq_true rfl) ⟨Nat.le_of_eq hmc, Nat.le_of_eq hms⟩ (fun M2 J3 R6 hI4 h5 => ?_)
  obtain ⟨hk7, h1⟩ := h5
  have hK8 := hK0.tr hk7 (by decide)
  have hF : zF F R6 := zRz.F h1 hF h_sy.2.2.1.2.2.2.2.2.2.2.2.2.2.2.2.2.2.2.2.2.2.2.2.2.2.2.2.2.2.1 h_sy.2.2.1.2.2.2.2.2.2.2.2.2.2.2.2.2.2.2.2.2.2.2.1.2.2.2.2.2.2.2.2.2.2.2.2.2.2.2.2.1 h_sy.2.2.1.2.2.2.2.2.2.2.2.2.2.2.2.2.2.2.2.2.2.2.2.2.1.2.2.2.2.2.1
  refine q_aload C dX11_presence_41 (n := 43) rfl rfl ?_
  refine q_getR C dX11_presence_43 (n := 46) rfl f_X11_223 h_sy.1 (hF _ _ _ h_sy.2.2.2.2.2.2.2.2.2.2.2.2.1) ?_
  refine q_iload_n C dX11_presence_46 (n := 47) rfl rfl ?_
  refine q_bipush C dX11_presence_47 (n := 49) rfl (x := 40) (by decide) ?_
  refine q_imul C dX11_presence_49 (n := 50) rfl (v := v2 * 40) rfl ?_
  refine q_iload_n C dX11_presence_50 (n := 51) rfl rfl ?_
  refine q_iadd C dX11_presence_51 (n := 52) rfl (v := (v2 * 40) + v3) rfl ?_
  have g9 := zI.at hI4 (h_sy.2.2.2.2.2.2.2.2.2.2.2.2.2.2.1 ((v2 * 40) + v3))
  refine q_iald C dX11_presence_52 (n := 53) rfl h_sy.2.2.2.2.2.2.2.2.2.2.2.2.2.1 (by omega) (v := M2 (sy + 760) ((v2 * 40) + v3)) rfl ?_
  exact q_iret C dX11_presence_53 ⟨hmc, hms⟩ (hPo _ _ (⟨M2 (sy + 760) ((v2 * 40) + v3), M2, J3, R6, rfl, rfl, hI4, hK8, h1⟩))
theorem c_X11_presence_n0 {w : zWp} {T : zTl} {M : zMm} {J : zJm} {R : zRm'} {G : zGt} {F : zRm'} {a : Nat} (hI : zI G M) (hF : zF F R) (h0 : zHideSets T F G a) (v1 : Int) (v2 : Int) (v3 : Int) (p1 : -2147483648 ≤ v1 ∧ v1 ≤ 2147483647) (p2 : -2147483648 ≤ v2 ∧ v2 ≤ 2147483647) (p3 : -2147483648 ≤ v3 ∧ v3 ≤ 2147483647) (p4 : ¬ (0 ≤ v1 ∧ v1 ≤ 3 ∧ M (a + 2 + 9 + 4 * v1.toNat) 4 = 1 ∧ 0 ≤ v2 ∧ v2 ≤ 3 ∧ M (a + 2 + 9 + 4 * v2.toNat) 4 = 1 ∧ 0 ≤ v3 ∧ v3 < M (a + 2 + 9 + 4 * v2.toNat) 3)) : zCt w 128 0 0 yX11_presence cX11_presence 5 (some .int) [.ref (w.2.1 + a), zi v1, zi v2, zi v3] (T, M, J, R) (zPp T M J R (fun x => True)) := by
  refine zCt.of rfl (Nat.le_of_ble_eq_true rfl) ?_
  intro p e s m args below meth c C
  obtain ⟨Po, hPo⟩ : ∃ Po, Po = zPp T M J R (fun x => True) := ⟨_, rfl⟩
  rw [← hPo]
  show zK w p e 128 0 0 s m args below meth c 5 T Po 0 [.ref (w.2.1 + a), zi v1, zi v2, zi v3, .null] [] (T, M, J, R)
  refine q_aload_n C dX11_presence_0 (n := 1) rfl rfl ?_
  refine q_getR C dX11_presence_1 (n := 4) rfl f_X11_20 h0.1 (hF _ _ _ h0.2.2.2.2.2.1) ?_
  refine q_iload_n C dX11_presence_4 (n := 5) rfl rfl ?_
  refine q_callVp C dX11_presence_5 (n := 8) rfl m_X11_99 v_yX7_hasFile h0.2.2.2.2.2.2.1.1 ⟨by decide, rfl⟩ (c_X7_hasFile_e (w := w) (J := J) hI hF h0.2.2.2.2.2.2.1 v1 (by omega)) (Nat.le_of_ble_eq_true rfl) rfl rfl (Nat.le_of_ble_eq_true rfl) ⟨Nat.le_refl _, Nat.le_refl _⟩ (fun x3 h4 => ?_)
  obtain ⟨h1, h2⟩ := h4
  refine q_if_eq C 23 dX11_presence_8 (n := 11) rfl rfl (by omega) (fun h5 => ?_) (fun h5 => ?_)
  · refine q_iconst C dX11_presence_23 (n := 24) rfl ?_
    exact q_iret C dX11_presence_24 ⟨rfl, rfl⟩ (by rw [hPo]; exact ⟨(-1), rfl, rfl, trivial⟩)
  · refine q_aload_n C dX11_presence_11 (n := 12) rfl rfl ?_
    refine q_getR C dX11_presence_12 (n := 15) rfl f_X11_20 h0.1 (hF _ _ _ h0.2.2.2.2.2.1) ?_
    refine q_iload_n C dX11_presence_15 (n := 16) rfl rfl ?_
    refine q_iload_n C dX11_presence_16 (n := 17) rfl rfl ?_
    refine q_callVp C dX11_presence_17 (n := 20) rfl m_X11_209 v_yX7_hasLine h0.2.2.2.2.2.2.1.1 ⟨by decide, rfl⟩ (c_X7_hasLine_e (w := w) (J := J) hI hF h0.2.2.2.2.2.2.1 v2 v3 (by omega) (by omega)) (Nat.le_of_ble_eq_true rfl) rfl rfl (Nat.le_of_ble_eq_true rfl) ⟨Nat.le_refl _, Nat.le_refl _⟩ (fun x8 h9 => ?_)
    obtain ⟨h6, h7⟩ := h9
    refine q_if_ne C 25 dX11_presence_20 (n := 23) rfl rfl (by omega) (fun h10 => ?_) (fun h10 => ?_)
    · exfalso; omega
    · refine q_iconst C dX11_presence_23 (n := 24) rfl ?_
      exact q_iret C dX11_presence_24 ⟨rfl, rfl⟩ (by rw [hPo]; exact ⟨(-1), rfl, rfl, trivial⟩)
theorem c_X11_presence_s {w : zWp} {T : zTl} {M : zMm} {J : zJm} {R : zRm'} {G : zGt} {F : zRm'} {a sy : Nat} (hI : zI G M) (hF : zF F R) (h0 : zHideSets T F G a) (v1 : Int) (v2 : Int) (v3 : Int) (hst : R a 8 = some sy) (h_sy : zStudy T F G sy) (p1 : -2147483648 ≤ v1 ∧ v1 ≤ 2147483647) (p2 : -2147483648 ≤ v2 ∧ v2 ≤ 2147483647) (p3 : -2147483648 ≤ v3 ∧ v3 ≤ 2147483647) (p4 : zCI M a) : zCt w 128 0 0 yX11_presence cX11_presence 5 (some .int) [.ref (w.2.1 + a), zi v1, zi v2, zi v3] (T, M, J, R) (zPiE T G (fun x M2 R2 => (zKp G 17 M M2) ∧ (zRz R R2 (sy + 1)))) := by
  refine zCt.of rfl (Nat.le_of_ble_eq_true rfl) ?_
  intro p e s m args below meth c C
  obtain ⟨Po, hPo⟩ : ∃ Po, Po = zPiE T G (fun x M2 R2 => (zKp G 17 M M2) ∧ (zRz R R2 (sy + 1))) := ⟨_, rfl⟩
  rw [← hPo]
  have hK0 : zKp G 17 M M := zKp.rf
  show zK w p e 128 0 0 s m args below meth c 5 T Po 0 [.ref (w.2.1 + a), zi v1, zi v2, zi v3, .null] [] (T, M, J, R)
  refine q_aload_n C dX11_presence_0 (n := 1) rfl rfl ?_
  refine q_getR C dX11_presence_1 (n := 4) rfl f_X11_20 h0.1 (hF _ _ _ h0.2.2.2.2.2.1) ?_
  refine q_iload_n C dX11_presence_4 (n := 5) rfl rfl ?_
  refine q_callVp C dX11_presence_5 (n := 8) rfl m_X11_99 v_yX7_hasFile h0.2.2.2.2.2.2.1.1 ⟨by decide, rfl⟩ (c_X7_hasFile (w := w) (J := J) hI hF h0.2.2.2.2.2.2.1 v1 (by omega)) (Nat.le_of_ble_eq_true rfl) rfl rfl (Nat.le_of_ble_eq_true rfl) ⟨Nat.le_refl _, Nat.le_refl _⟩ (fun x3 h4 => ?_)
  obtain ⟨h1, h2⟩ := h4
  refine q_if_eq C 23 dX11_presence_8 (n := 11) rfl rfl (by omega) (fun h5 => ?_) (fun h5 => ?_)
  · refine q_iconst C dX11_presence_23 (n := 24) rfl ?_
    exact q_iret C dX11_presence_24 ⟨rfl, rfl⟩ (by rw [hPo]; exact ⟨(-1), M, J, R, rfl, rfl, hI, hK0, zRz.rf⟩)
  · refine q_aload_n C dX11_presence_11 (n := 12) rfl rfl ?_
    refine q_getR C dX11_presence_12 (n := 15) rfl f_X11_20 h0.1 (hF _ _ _ h0.2.2.2.2.2.1) ?_
    refine q_iload_n C dX11_presence_15 (n := 16) rfl rfl ?_
    refine q_iload_n C dX11_presence_16 (n := 17) rfl rfl ?_
    refine q_callVp C dX11_presence_17 (n := 20) rfl m_X11_209 v_yX7_hasLine h0.2.2.2.2.2.2.1.1 ⟨by decide, rfl⟩ (c_X7_hasLine (w := w) (J := J) hI hF h0.2.2.2.2.2.2.1 v2 v3 (by omega) (by omega)) (Nat.le_of_ble_eq_true rfl) rfl rfl (Nat.le_of_ble_eq_true rfl) ⟨Nat.le_refl _, Nat.le_refl _⟩ (fun x8 h9 => ?_)
    obtain ⟨h6, h7⟩ := h9
    refine q_if_ne C 25 dX11_presence_20 (n := 23) rfl rfl (by omega) (fun h10 => ?_) (fun h10 => ?_)
    · refine q_aload_n C dX11_presence_25 (n := 26) rfl rfl ?_
      refine r_callV C m_X11_216 v_yX11_theStudy h0.1 (by decide) rfl rfl (c_X11_theStudy_s (w := w) (J := J) hF h0 hst) (Nat.le_of_ble_eq_true rfl) rfl (Nat.le_of_ble_eq_true rfl) ⟨Nat.le_refl _, Nat.le_refl _⟩ dX11_presence_26 (fun v τ hp _ _ => ?_)
      obtain ⟨rfl, rfl⟩ := hp
      exact s_X11_presence hI hF h0 v1 v2 v3 h_sy (by omega) p4 C rfl rfl (fun v τ h => by rw [hPo]; exact h)
    · refine q_iconst C dX11_presence_23 (n := 24) rfl ?_
      exact q_iret C dX11_presence_24 ⟨rfl, rfl⟩ (by rw [hPo]; exact ⟨(-1), M, J, R, rfl, rfl, hI, hK0, zRz.rf⟩)
theorem s_X11_outcomes {w : zWp} {T : zTl} {M : zMm} {J : zJm} {R : zRm'} {G : zGt} {F : zRm'} {a sy : Nat} (hI : zI G M) (hF : zF F R) (h0 : zHideSets T F G a) (v1 : Int) (h_sy : zStudy T F G sy) (p1 : 0 ≤ v1 ∧ v1 ≤ 3) (p2 : zCI M a) {p : Program} {e : Env} {s : State} {m : MethodId} {args : Array Value} {below : List Frame} {meth : Method} {c : Code} {mc ms : Nat} {T0 : zTl} {Po : Option Value → zSg → Prop} (C : zCx w p s m args meth c yX11_outcomes cX11_outcomes 3 (some .int)) (hmc : T.length = T0.length + mc) (hms : zsz T = zsz T0 + ms) (hPo : ∀ v τ, (zPiE T G (fun x M2 R2 => (zKp G 17 M M2) ∧ (zRz R R2 (sy + 1)))) v τ → Po v τ) : zK w p e 128 mc ms s m args below meth c 3 T0 Po 17 [.ref (w.2.1 + a), zi v1, .null] [.ref (w.2.1 + sy)] (T, M, J, R) := by
  have hK0 : zKp G 17 M M := zKp.rf
  refine q_astore_n C [.ref (w.2.1 + a), zi v1, .ref (w.2.1 + sy)] dX11_outcomes_17 (n := 18) rfl rfl rfl ?_
  refine q_aload_n C dX11_outcomes_18 (n := 19) rfl rfl ?_
  refine q_aload_n C dX11_outcomes_19 (n := 20) rfl rfl ?_
  refine q_getR C dX11_outcomes_20 (n := 23) rfl f_X11_20 h0.1 (hF _ _ _ h0.2.2.2.2.2.1) ?_
  refine q_iload_n C dX11_outcomes_23 (n := 24) rfl rfl ?_
  refine q_callVvE C dX11_outcomes_24 (n := 27) rfl m_X11_220 v_yX8_look h_sy.1 ⟨by decide, rfl⟩ (c_X8_look (w := w) (J := J) hI hF h_sy h0.2.2.2.2.2.2.1 v1 (by omega) p2.1) (Nat.le_of_ble_eq_true rfl) rfl rfl (Nat.le_of_ble_eq_true rfl) ⟨Nat.le_of_eq hmc, Nat.le_of_eq hms⟩ (fun M2 J3 R6 hI4 h5 => ?_)
  obtain ⟨hk7, h1⟩ := h5
  have hK8 := hK0.tr hk7 (by decide)
  have hF : zF F R6 := zRz.F h1 hF h_sy.2.2.1.2.2.2.2.2.2.2.2.2.2.2.2.2.2.2.2.2.2.2.2.2.2.2.2.2.2.1 h_sy.2.2.1.2.2.2.2.2.2.2.2.2.2.2.2.2.2.2.2.2.2.2.1.2.2.2.2.2.2.2.2.2.2.2.2.2.2.2.2.1 h_sy.2.2.1.2.2.2.2.2.2.2.2.2.2.2.2.2.2.2.2.2.2.2.2.2.1.2.2.2.2.2.1
  refine q_aload_n C dX11_outcomes_27 (n := 28) rfl rfl ?_
  refine q_iconst C dX11_outcomes_28 (n := 29) rfl ?_
  refine q_aload_n C dX11_outcomes_29 (n := 30) rfl rfl ?_
  refine q_getR C dX11_outcomes_30 (n := 33) rfl f_X11_20 h0.1 (hF _ _ _ h0.2.2.2.2.2.1) ?_
  have g9 := zI.at hI h0.2.2.2.2.2.2.1.2.2.2.2.2.2.2.2.2.2.1
  refine q_getI C dX11_outcomes_33 (n := 36) rfl f_X11_226 h0.2.2.2.2.2.2.1.1 (v := M (a + 2) 3) (hk7 _ _ (zle_t h0.2.2.2.2.2.2.1.2.2.2.2.2.2.2.2.2.2.1 (by decide))) ?_
  refine q_ishl C dX11_outcomes_36 (n := 37) rfl (v := zshl 1 (M (a + 2) 3)) rfl ?_
  have g10 := zr_shl 1 (M (a + 2) 3)
  have g11 : 0 ≤ M (a + 2) 3 ∧ M (a + 2) 3 ≤ 3 → 1 ≤ zshl 1 (M (a + 2) 3) ∧ zshl 1 (M (a + 2) 3) ≤ 8 := fun h => zshl1 h
  refine q_callVp C dX11_outcomes_37 (n := 40) rfl m_X11_229 v_yX8_unlike h_sy.1 ⟨by decide, rfl⟩ (c_X8_unlike (w := w) (J := J3) hI4 hF h_sy (zshl 1 (M (a + 2) 3)) (by omega)) (Nat.le_of_ble_eq_true rfl) rfl rfl (Nat.le_of_ble_eq_true rfl) ⟨Nat.le_of_eq hmc, Nat.le_of_eq hms⟩ (fun x12 h13 => ?_)
  exact q_iret C dX11_outcomes_40 ⟨hmc, hms⟩ (hPo _ _ (⟨x12, M2, J3, R6, rfl, rfl, hI4, hK8, h1⟩))
theorem c_X11_outcomes_n0 {w : zWp} {T : zTl} {M : zMm} {J : zJm} {R : zRm'} {G : zGt} {F : zRm'} {a : Nat} (hI : zI G M) (hF : zF F R) (h0 : zHideSets T F G a) (v1 : Int) (p1 : -2147483648 ≤ v1 ∧ v1 ≤ 2147483647) (p2 : ¬ (0 ≤ v1 ∧ v1 ≤ 3 ∧ M (a + 2 + 9 + 4 * v1.toNat) 4 = 1)) : zCt w 128 0 0 yX11_outcomes cX11_outcomes 3 (some .int) [.ref (w.2.1 + a), zi v1] (T, M, J, R) (zPp T M J R (fun x => True)) := by
  refine zCt.of rfl (Nat.le_of_ble_eq_true rfl) ?_
  intro p e s m args below meth c C
  obtain ⟨Po, hPo⟩ : ∃ Po, Po = zPp T M J R (fun x => True) := ⟨_, rfl⟩
  rw [← hPo]
  show zK w p e 128 0 0 s m args below meth c 3 T Po 0 [.ref (w.2.1 + a), zi v1, .null] [] (T, M, J, R)
  refine q_aload_n C dX11_outcomes_0 (n := 1) rfl rfl ?_
  refine q_getR C dX11_outcomes_1 (n := 4) rfl f_X11_20 h0.1 (hF _ _ _ h0.2.2.2.2.2.1) ?_
  refine q_iload_n C dX11_outcomes_4 (n := 5) rfl rfl ?_
  refine q_callVp C dX11_outcomes_5 (n := 8) rfl m_X11_99 v_yX7_hasFile h0.2.2.2.2.2.2.1.1 ⟨by decide, rfl⟩ (c_X7_hasFile_e (w := w) (J := J) hI hF h0.2.2.2.2.2.2.1 v1 (by omega)) (Nat.le_of_ble_eq_true rfl) rfl rfl (Nat.le_of_ble_eq_true rfl) ⟨Nat.le_refl _, Nat.le_refl _⟩ (fun x3 h4 => ?_)
  obtain ⟨h1, h2⟩ := h4
  refine q_if_ne C 13 dX11_outcomes_8 (n := 11) rfl rfl (by omega) (fun h5 => ?_) (fun h5 => ?_)
  · exfalso; omega
  · refine q_iconst C dX11_outcomes_11 (n := 12) rfl ?_
    exact q_iret C dX11_outcomes_12 ⟨rfl, rfl⟩ (by rw [hPo]; exact ⟨(-1), rfl, rfl, trivial⟩)
theorem c_X11_outcomes_s {w : zWp} {T : zTl} {M : zMm} {J : zJm} {R : zRm'} {G : zGt} {F : zRm'} {a sy : Nat} (hI : zI G M) (hF : zF F R) (h0 : zHideSets T F G a) (v1 : Int) (hst : R a 8 = some sy) (h_sy : zStudy T F G sy) (p1 : -2147483648 ≤ v1 ∧ v1 ≤ 2147483647) (p2 : zCI M a) : zCt w 128 0 0 yX11_outcomes cX11_outcomes 3 (some .int) [.ref (w.2.1 + a), zi v1] (T, M, J, R) (zPiE T G (fun x M2 R2 => (zKp G 17 M M2) ∧ (zRz R R2 (sy + 1)))) := by
  refine zCt.of rfl (Nat.le_of_ble_eq_true rfl) ?_
  intro p e s m args below meth c C
  obtain ⟨Po, hPo⟩ : ∃ Po, Po = zPiE T G (fun x M2 R2 => (zKp G 17 M M2) ∧ (zRz R R2 (sy + 1))) := ⟨_, rfl⟩
  rw [← hPo]
  have hK0 : zKp G 17 M M := zKp.rf
  show zK w p e 128 0 0 s m args below meth c 3 T Po 0 [.ref (w.2.1 + a), zi v1, .null] [] (T, M, J, R)
  refine q_aload_n C dX11_outcomes_0 (n := 1) rfl rfl ?_
  refine q_getR C dX11_outcomes_1 (n := 4) rfl f_X11_20 h0.1 (hF _ _ _ h0.2.2.2.2.2.1) ?_
  refine q_iload_n C dX11_outcomes_4 (n := 5) rfl rfl ?_
  refine q_callVp C dX11_outcomes_5 (n := 8) rfl m_X11_99 v_yX7_hasFile h0.2.2.2.2.2.2.1.1 ⟨by decide, rfl⟩ (c_X7_hasFile (w := w) (J := J) hI hF h0.2.2.2.2.2.2.1 v1 (by omega)) (Nat.le_of_ble_eq_true rfl) rfl rfl (Nat.le_of_ble_eq_true rfl) ⟨Nat.le_refl _, Nat.le_refl _⟩ (fun x3 h4 => ?_)
  obtain ⟨h1, h2⟩ := h4
  refine q_if_ne C 13 dX11_outcomes_8 (n := 11) rfl rfl (by omega) (fun h5 => ?_) (fun h5 => ?_)
  · refine q_aload_n C dX11_outcomes_13 (n := 14) rfl rfl ?_
    refine r_callV C m_X11_216 v_yX11_theStudy h0.1 (by decide) rfl rfl (c_X11_theStudy_s (w := w) (J := J) hF h0 hst) (Nat.le_of_ble_eq_true rfl) rfl (Nat.le_of_ble_eq_true rfl) ⟨Nat.le_refl _, Nat.le_refl _⟩ dX11_outcomes_14 (fun v τ hp _ _ => ?_)
    obtain ⟨rfl, rfl⟩ := hp
    exact s_X11_outcomes hI hF h0 v1 h_sy (by omega) p2 C rfl rfl (fun v τ h => by rw [hPo]; exact h)
  · refine q_iconst C dX11_outcomes_11 (n := 12) rfl ?_
    exact q_iret C dX11_outcomes_12 ⟨rfl, rfl⟩ (by rw [hPo]; exact ⟨(-1), M, J, R, rfl, rfl, hI, hK0, zRz.rf⟩)
theorem s_X11_like {w : zWp} {T : zTl} {M : zMm} {J : zJm} {R : zRm'} {G : zGt} {F : zRm'} {a sy : Nat} (hI : zI G M) (hF : zF F R) (h0 : zHideSets T F G a) (v1 : Int) (v2 : Int) (h_sy : zStudy T F G sy) (p1 : 0 ≤ v1 ∧ v1 ≤ 3 ∧ 0 ≤ v2 ∧ v2 ≤ 7) (p2 : zCI M a) {p : Program} {e : Env} {s : State} {m : MethodId} {args : Array Value} {below : List Frame} {meth : Method} {c : Code} {mc ms : Nat} {T0 : zTl} {Po : Option Value → zSg → Prop} (C : zCx w p s m args meth c yX11_like cX11_like 4 (some .int)) (hmc : T.length = T0.length + mc) (hms : zsz T = zsz T0 + ms) (hPo : ∀ v τ, (zPiE T G (fun x M2 R2 => (zKp G 17 M M2) ∧ (zRz R R2 (sy + 1)))) v τ → Po v τ) : zK w p e 128 mc ms s m args below meth c 4 T0 Po 28 [.ref (w.2.1 + a), zi v1, zi v2, .null] [.ref (w.2.1 + sy)] (T, M, J, R) := by
  have hK0 : zKp G 17 M M := zKp.rf
  refine q_astore_n C [.ref (w.2.1 + a), zi v1, zi v2, .ref (w.2.1 + sy)] dX11_like_28 (n := 29) rfl rfl rfl ?_
  refine q_aload_n C dX11_like_29 (n := 30) rfl rfl ?_
  refine q_aload_n C dX11_like_30 (n := 31) rfl rfl ?_
  refine q_getR C dX11_like_31 (n := 34) rfl f_X11_20 h0.1 (hF _ _ _ h0.2.2.2.2.2.1) ?_
  refine q_iload_n C dX11_like_34 (n := 35) rfl rfl ?_
  refine q_callVvE C dX11_like_35 (n := 38) rfl m_X11_220 v_yX8_look h_sy.1 ⟨by decide, rfl⟩ (c_X8_look (w := w) (J := J) hI hF h_sy h0.2.2.2.2.2.2.1 v1 (by omega) p2.1) (Nat.le_of_ble_eq_true rfl) rfl rfl (Nat.le_of_ble_eq_true rfl) ⟨Nat.le_of_eq hmc, Nat.le_of_eq hms⟩ (fun M2 J3 R6 hI4 h5 => ?_)
  obtain ⟨hk7, h1⟩ := h5
  have hK8 := hK0.tr hk7 (by decide)
  have hF : zF F R6 := zRz.F h1 hF h_sy.2.2.1.2.2.2.2.2.2.2.2.2.2.2.2.2.2.2.2.2.2.2.2.2.2.2.2.2.2.1 h_sy.2.2.1.2.2.2.2.2.2.2.2.2.2.2.2.2.2.2.2.2.2.2.1.2.2.2.2.2.2.2.2.2.2.2.2.2.2.2.2.1 h_sy.2.2.1.2.2.2.2.2.2.2.2.2.2.2.2.2.2.2.2.2.2.2.2.2.1.2.2.2.2.2.1
  refine q_aload_n C dX11_like_38 (n := 39) rfl rfl ?_
  refine q_getR C dX11_like_39 (n := 42) rfl f_X11_232 h_sy.1 (hF _ _ _ h_sy.2.2.2.2.2.2.2.2.2.1) ?_
  refine q_iload_n C dX11_like_42 (n := 43) rfl rfl ?_
  have g9 := zI.at hI4 (h_sy.2.2.2.2.2.2.2.2.2.2.2.1 v2)
  refine q_iald C dX11_like_43 (n := 44) rfl h_sy.2.2.2.2.2.2.2.2.2.2.1 (by omega) (v := M2 (sy + 759) v2) rfl ?_
  exact q_iret C dX11_like_44 ⟨hmc, hms⟩ (hPo _ _ (⟨M2 (sy + 759) v2, M2, J3, R6, rfl, rfl, hI4, hK8, h1⟩))
theorem c_X11_like_n0 {w : zWp} {T : zTl} {M : zMm} {J : zJm} {R : zRm'} {G : zGt} {F : zRm'} {a : Nat} (hI : zI G M) (hF : zF F R) (h0 : zHideSets T F G a) (v1 : Int) (v2 : Int) (p1 : -2147483648 ≤ v1 ∧ v1 ≤ 2147483647) (p2 : -2147483648 ≤ v2 ∧ v2 ≤ 2147483647) (p3 : ¬ (0 ≤ v1 ∧ v1 ≤ 3 ∧ M (a + 2 + 9 + 4 * v1.toNat) 4 = 1 ∧ 0 ≤ v2 ∧ v2 < zshl 1 (M (a + 2) 3))) : zCt w 128 0 0 yX11_like cX11_like 4 (some .int) [.ref (w.2.1 + a), zi v1, zi v2] (T, M, J, R) (zPp T M J R (fun x => True)) := by
  refine zCt.of rfl (Nat.le_of_ble_eq_true rfl) ?_
  intro p e s m args below meth c C
  obtain ⟨Po, hPo⟩ : ∃ Po, Po = zPp T M J R (fun x => True) := ⟨_, rfl⟩
  rw [← hPo]
  show zK w p e 128 0 0 s m args below meth c 4 T Po 0 [.ref (w.2.1 + a), zi v1, zi v2, .null] [] (T, M, J, R)
  refine q_aload_n C dX11_like_0 (n := 1) rfl rfl ?_
  refine q_getR C dX11_like_1 (n := 4) rfl f_X11_20 h0.1 (hF _ _ _ h0.2.2.2.2.2.1) ?_
  refine q_iload_n C dX11_like_4 (n := 5) rfl rfl ?_
  refine q_callVp C dX11_like_5 (n := 8) rfl m_X11_99 v_yX7_hasFile h0.2.2.2.2.2.2.1.1 ⟨by decide, rfl⟩ (c_X7_hasFile_e (w := w) (J := J) hI hF h0.2.2.2.2.2.2.1 v1 (by omega)) (Nat.le_of_ble_eq_true rfl) rfl rfl (Nat.le_of_ble_eq_true rfl) ⟨Nat.le_refl _, Nat.le_refl _⟩ (fun x3 h4 => ?_)
  obtain ⟨h1, h2⟩ := h4
  refine q_if_eq C 22 dX11_like_8 (n := 11) rfl rfl (by omega) (fun h5 => ?_) (fun h5 => ?_)
  · refine q_iconst C dX11_like_22 (n := 23) rfl ?_
    exact q_iret C dX11_like_23 ⟨rfl, rfl⟩ (by rw [hPo]; exact ⟨(-1), rfl, rfl, trivial⟩)
  · refine q_aload_n C dX11_like_11 (n := 12) rfl rfl ?_
    refine q_getR C dX11_like_12 (n := 15) rfl f_X11_20 h0.1 (hF _ _ _ h0.2.2.2.2.2.1) ?_
    refine q_iload_n C dX11_like_15 (n := 16) rfl rfl ?_
    refine q_callVp C dX11_like_16 (n := 19) rfl m_X11_92 v_yX7_hasSetting h0.2.2.2.2.2.2.1.1 ⟨by decide, rfl⟩ (c_X7_hasSetting_e (w := w) (J := J) hI hF h0.2.2.2.2.2.2.1 v2 (by omega)) (Nat.le_of_ble_eq_true rfl) rfl rfl (Nat.le_of_ble_eq_true rfl) ⟨Nat.le_refl _, Nat.le_refl _⟩ (fun x8 h9 => ?_)
    obtain ⟨h6, h7⟩ := h9
    refine q_if_ne C 24 dX11_like_19 (n := 22) rfl rfl (by omega) (fun h10 => ?_) (fun h10 => ?_)
    · exfalso; omega
    · refine q_iconst C dX11_like_22 (n := 23) rfl ?_
      exact q_iret C dX11_like_23 ⟨rfl, rfl⟩ (by rw [hPo]; exact ⟨(-1), rfl, rfl, trivial⟩)
theorem c_X11_like_s {w : zWp} {T : zTl} {M : zMm} {J : zJm} {R : zRm'} {G : zGt} {F : zRm'} {a sy : Nat} (hI : zI G M) (hF : zF F R) (h0 : zHideSets T F G a) (v1 : Int) (v2 : Int) (hst : R a 8 = some sy) (h_sy : zStudy T F G sy) (p1 : -2147483648 ≤ v1 ∧ v1 ≤ 2147483647) (p2 : -2147483648 ≤ v2 ∧ v2 ≤ 2147483647) (p3 : zCI M a) : zCt w 128 0 0 yX11_like cX11_like 4 (some .int) [.ref (w.2.1 + a), zi v1, zi v2] (T, M, J, R) (zPiE T G (fun x M2 R2 => (zKp G 17 M M2) ∧ (zRz R R2 (sy + 1)))) := by
  refine zCt.of rfl (Nat.le_of_ble_eq_true rfl) ?_
  intro p e s m args below meth c C
  obtain ⟨Po, hPo⟩ : ∃ Po, Po = zPiE T G (fun x M2 R2 => (zKp G 17 M M2) ∧ (zRz R R2 (sy + 1))) := ⟨_, rfl⟩
  rw [← hPo]
  have hK0 : zKp G 17 M M := zKp.rf
  show zK w p e 128 0 0 s m args below meth c 4 T Po 0 [.ref (w.2.1 + a), zi v1, zi v2, .null] [] (T, M, J, R)
  refine q_aload_n C dX11_like_0 (n := 1) rfl rfl ?_
  refine q_getR C dX11_like_1 (n := 4) rfl f_X11_20 h0.1 (hF _ _ _ h0.2.2.2.2.2.1) ?_
  refine q_iload_n C dX11_like_4 (n := 5) rfl rfl ?_
  refine q_callVp C dX11_like_5 (n := 8) rfl m_X11_99 v_yX7_hasFile h0.2.2.2.2.2.2.1.1 ⟨by decide, rfl⟩ (c_X7_hasFile (w := w) (J := J) hI hF h0.2.2.2.2.2.2.1 v1 (by omega)) (Nat.le_of_ble_eq_true rfl) rfl rfl (Nat.le_of_ble_eq_true rfl) ⟨Nat.le_refl _, Nat.le_refl _⟩ (fun x3 h4 => ?_)
  obtain ⟨h1, h2⟩ := h4
  refine q_if_eq C 22 dX11_like_8 (n := 11) rfl rfl (by omega) (fun h5 => ?_) (fun h5 => ?_)
  · refine q_iconst C dX11_like_22 (n := 23) rfl ?_
    exact q_iret C dX11_like_23 ⟨rfl, rfl⟩ (by rw [hPo]; exact ⟨(-1), M, J, R, rfl, rfl, hI, hK0, zRz.rf⟩)
  · refine q_aload_n C dX11_like_11 (n := 12) rfl rfl ?_
    refine q_getR C dX11_like_12 (n := 15) rfl f_X11_20 h0.1 (hF _ _ _ h0.2.2.2.2.2.1) ?_
    refine q_iload_n C dX11_like_15 (n := 16) rfl rfl ?_
    refine q_callVp C dX11_like_16 (n := 19) rfl m_X11_92 v_yX7_hasSetting h0.2.2.2.2.2.2.1.1 ⟨by decide, rfl⟩ (c_X7_hasSetting (w := w) (J := J) hI hF h0.2.2.2.2.2.2.1 v2 (by omega)) (Nat.le_of_ble_eq_true rfl) rfl rfl (Nat.le_of_ble_eq_true rfl) ⟨Nat.le_refl _, Nat.le_refl _⟩ (fun x8 h9 => ?_)
    obtain ⟨h6, h7⟩ := h9
    refine q_if_ne C 24 dX11_like_19 (n := 22) rfl rfl (by omega) (fun h10 => ?_) (fun h10 => ?_)
    · refine q_aload_n C dX11_like_24 (n := 25) rfl rfl ?_
      refine r_callV C m_X11_216 v_yX11_theStudy h0.1 (by decide) rfl rfl (c_X11_theStudy_s (w := w) (J := J) hF h0 hst) (Nat.le_of_ble_eq_true rfl) rfl (Nat.le_of_ble_eq_true rfl) ⟨Nat.le_refl _, Nat.le_refl _⟩ dX11_like_25 (fun v τ hp _ _ => ?_)
      obtain ⟨rfl, rfl⟩ := hp
      exact s_X11_like hI hF h0 v1 v2 h_sy (by omega) p3 C rfl rfl (fun v τ h => by rw [hPo]; exact h)
    · refine q_iconst C dX11_like_22 (n := 23) rfl ?_
      exact q_iret C dX11_like_23 ⟨rfl, rfl⟩ (by rw [hPo]; exact ⟨(-1), M, J, R, rfl, rfl, hI, hK0, zRz.rf⟩)
theorem s_X11_depends {w : zWp} {T : zTl} {M : zMm} {J : zJm} {R : zRm'} {G : zGt} {F : zRm'} {a sy : Nat} (hI : zI G M) (hF : zF F R) (h0 : zHideSets T F G a) (v1 : Int) (h_sy : zStudy T F G sy) (p1 : 0 ≤ v1 ∧ v1 ≤ 3) (p2 : zCI M a) {p : Program} {e : Env} {s : State} {m : MethodId} {args : Array Value} {below : List Frame} {meth : Method} {c : Code} {mc ms : Nat} {T0 : zTl} {Po : Option Value → zSg → Prop} (C : zCx w p s m args meth c yX11_depends cX11_depends 3 (some .int)) (hmc : T.length = T0.length + mc) (hms : zsz T = zsz T0 + ms) (hPo : ∀ v τ, (zPiE T G (fun x M2 R2 => (zKp G 17 M M2) ∧ (zRz R R2 (sy + 1)))) v τ → Po v τ) : zK w p e 128 mc ms s m args below meth c 3 T0 Po 17 [.ref (w.2.1 + a), zi v1, .null] [.ref (w.2.1 + sy)] (T, M, J, R) := by
  have hK0 : zKp G 17 M M := zKp.rf
  refine q_astore_n C [.ref (w.2.1 + a), zi v1, .ref (w.2.1 + sy)] dX11_depends_17 (n := 18) rfl rfl rfl ?_
  refine q_aload_n C dX11_depends_18 (n := 19) rfl rfl ?_
  refine q_aload_n C dX11_depends_19 (n := 20) rfl rfl ?_
  refine q_getR C dX11_depends_20 (n := 23) rfl f_X11_20 h0.1 (hF _ _ _ h0.2.2.2.2.2.1) ?_
  refine q_iload_n C dX11_depends_23 (n := 24) rfl rfl ?_
  refine q_callVvE C dX11_depends_24 (n := 27) rfl m_X11_220 v_yX8_look h_sy.1 ⟨by decide, rfl⟩ (c_X8_look (w := w) (J := J) hI hF h_sy h0.2.2.2.2.2.2.1 v1 (by omega) p2.1) (Nat.le_of_ble_eq_true rfl) rfl rfl (Nat.le_of_ble_eq_true rfl) ⟨Nat.le_of_eq hmc, Nat.le_of_eq hms⟩ (fun M2 J3 R6 hI4 h5 => ?_)
  obtain ⟨hk7, h1⟩ := h5
  have hK8 := hK0.tr hk7 (by decide)
  have hF : zF F R6 := zRz.F h1 hF h_sy.2.2.1.2.2.2.2.2.2.2.2.2.2.2.2.2.2.2.2.2.2.2.2.2.2.2.2.2.2.1 h_sy.2.2.1.2.2.2.2.2.2.2.2.2.2.2.2.2.2.2.2.2.2.2.1.2.2.2.2.2.2.2.2.2.2.2.2.2.2.2.2.1 h_sy.2.2.1.2.2.2.2.2.2.2.2.2.2.2.2.2.2.2.2.2.2.2.2.2.1.2.2.2.2.2.1
  refine q_aload_n C dX11_depends_27 (n := 28) rfl rfl ?_
  refine q_aload_n C dX11_depends_28 (n := 29) rfl rfl ?_
  refine q_getR C dX11_depends_29 (n := 32) rfl f_X11_20 h0.1 (hF _ _ _ h0.2.2.2.2.2.1) ?_
  have g9 := zI.at hI h0.2.2.2.2.2.2.1.2.2.2.2.2.2.2.2.2.2.1
  refine q_getI C dX11_depends_32 (n := 35) rfl f_X11_226 h0.2.2.2.2.2.2.1.1 (v := M (a + 2) 3) (hk7 _ _ (zle_t h0.2.2.2.2.2.2.1.2.2.2.2.2.2.2.2.2.2.1 (by decide))) ?_
  refine q_callVp C dX11_depends_35 (n := 38) rfl m_X11_235 v_yX8_changing h_sy.1 ⟨by decide, rfl⟩ (c_X8_changing (w := w) (J := J3) hI4 hF h_sy (M (a + 2) 3) (by omega)) (Nat.le_of_ble_eq_true rfl) rfl rfl (Nat.le_of_ble_eq_true rfl) ⟨Nat.le_of_eq hmc, Nat.le_of_eq hms⟩ (fun x10 h11 => ?_)
  exact q_iret C dX11_depends_38 ⟨hmc, hms⟩ (hPo _ _ (⟨x10, M2, J3, R6, rfl, rfl, hI4, hK8, h1⟩))
theorem c_X11_depends_n0 {w : zWp} {T : zTl} {M : zMm} {J : zJm} {R : zRm'} {G : zGt} {F : zRm'} {a : Nat} (hI : zI G M) (hF : zF F R) (h0 : zHideSets T F G a) (v1 : Int) (p1 : -2147483648 ≤ v1 ∧ v1 ≤ 2147483647) (p2 : ¬ (0 ≤ v1 ∧ v1 ≤ 3 ∧ M (a + 2 + 9 + 4 * v1.toNat) 4 = 1)) : zCt w 128 0 0 yX11_depends cX11_depends 3 (some .int) [.ref (w.2.1 + a), zi v1] (T, M, J, R) (zPp T M J R (fun x => True)) := by
  refine zCt.of rfl (Nat.le_of_ble_eq_true rfl) ?_
  intro p e s m args below meth c C
  obtain ⟨Po, hPo⟩ : ∃ Po, Po = zPp T M J R (fun x => True) := ⟨_, rfl⟩
  rw [← hPo]
  show zK w p e 128 0 0 s m args below meth c 3 T Po 0 [.ref (w.2.1 + a), zi v1, .null] [] (T, M, J, R)
  refine q_aload_n C dX11_depends_0 (n := 1) rfl rfl ?_
  refine q_getR C dX11_depends_1 (n := 4) rfl f_X11_20 h0.1 (hF _ _ _ h0.2.2.2.2.2.1) ?_
  refine q_iload_n C dX11_depends_4 (n := 5) rfl rfl ?_
  refine q_callVp C dX11_depends_5 (n := 8) rfl m_X11_99 v_yX7_hasFile h0.2.2.2.2.2.2.1.1 ⟨by decide, rfl⟩ (c_X7_hasFile_e (w := w) (J := J) hI hF h0.2.2.2.2.2.2.1 v1 (by omega)) (Nat.le_of_ble_eq_true rfl) rfl rfl (Nat.le_of_ble_eq_true rfl) ⟨Nat.le_refl _, Nat.le_refl _⟩ (fun x3 h4 => ?_)
  obtain ⟨h1, h2⟩ := h4
  refine q_if_ne C 13 dX11_depends_8 (n := 11) rfl rfl (by omega) (fun h5 => ?_) (fun h5 => ?_)
  · exfalso; omega
  · refine q_iconst C dX11_depends_11 (n := 12) rfl ?_
    exact q_iret C dX11_depends_12 ⟨rfl, rfl⟩ (by rw [hPo]; exact ⟨(-1), rfl, rfl, trivial⟩)
theorem c_X11_depends_s {w : zWp} {T : zTl} {M : zMm} {J : zJm} {R : zRm'} {G : zGt} {F : zRm'} {a sy : Nat} (hI : zI G M) (hF : zF F R) (h0 : zHideSets T F G a) (v1 : Int) (hst : R a 8 = some sy) (h_sy : zStudy T F G sy) (p1 : -2147483648 ≤ v1 ∧ v1 ≤ 2147483647) (p2 : zCI M a) : zCt w 128 0 0 yX11_depends cX11_depends 3 (some .int) [.ref (w.2.1 + a), zi v1] (T, M, J, R) (zPiE T G (fun x M2 R2 => (zKp G 17 M M2) ∧ (zRz R R2 (sy + 1)))) := by
  refine zCt.of rfl (Nat.le_of_ble_eq_true rfl) ?_
  intro p e s m args below meth c C
  obtain ⟨Po, hPo⟩ : ∃ Po, Po = zPiE T G (fun x M2 R2 => (zKp G 17 M M2) ∧ (zRz R R2 (sy + 1))) := ⟨_, rfl⟩
  rw [← hPo]
  have hK0 : zKp G 17 M M := zKp.rf
  show zK w p e 128 0 0 s m args below meth c 3 T Po 0 [.ref (w.2.1 + a), zi v1, .null] [] (T, M, J, R)
  refine q_aload_n C dX11_depends_0 (n := 1) rfl rfl ?_
  refine q_getR C dX11_depends_1 (n := 4) rfl f_X11_20 h0.1 (hF _ _ _ h0.2.2.2.2.2.1) ?_
  refine q_iload_n C dX11_depends_4 (n := 5) rfl rfl ?_
  refine q_callVp C dX11_depends_5 (n := 8) rfl m_X11_99 v_yX7_hasFile h0.2.2.2.2.2.2.1.1 ⟨by decide, rfl⟩ (c_X7_hasFile (w := w) (J := J) hI hF h0.2.2.2.2.2.2.1 v1 (by omega)) (Nat.le_of_ble_eq_true rfl) rfl rfl (Nat.le_of_ble_eq_true rfl) ⟨Nat.le_refl _, Nat.le_refl _⟩ (fun x3 h4 => ?_)
  obtain ⟨h1, h2⟩ := h4
  refine q_if_ne C 13 dX11_depends_8 (n := 11) rfl rfl (by omega) (fun h5 => ?_) (fun h5 => ?_)
  · refine q_aload_n C dX11_depends_13 (n := 14) rfl rfl ?_
    refine r_callV C m_X11_216 v_yX11_theStudy h0.1 (by decide) rfl rfl (c_X11_theStudy_s (w := w) (J := J) hF h0 hst) (Nat.le_of_ble_eq_true rfl) rfl (Nat.le_of_ble_eq_true rfl) ⟨Nat.le_refl _, Nat.le_refl _⟩ dX11_depends_14 (fun v τ hp _ _ => ?_)
    obtain ⟨rfl, rfl⟩ := hp
    exact s_X11_depends hI hF h0 v1 h_sy (by omega) p2 C rfl rfl (fun v τ h => by rw [hPo]; exact h)
  · refine q_iconst C dX11_depends_11 (n := 12) rfl ?_
    exact q_iret C dX11_depends_12 ⟨rfl, rfl⟩ (by rw [hPo]; exact ⟨(-1), M, J, R, rfl, rfl, hI, hK0, zRz.rf⟩)
theorem zCI.lo {M M2 : zMm} {a : Nat} (h : zCI M a) (g : ∀ c k, c < a + 836 → M2 c k = M c k) : zCI M2 a := ⟨fun j j0 j1 => (h.1 j j0 j1).cg (g _ _ (by omega)) (g _ _ (by omega)) (g _ _ (by omega)) (fun i => g _ _ (by omega)), fun q q0 q1 j j0 j1 => (h.2 q q0 q1 j j0 j1).cg (g _ _ (by omega)) (g _ _ (by omega)) (g _ _ (by omega)) (fun i => g _ _ (by omega))⟩
theorem zF2mk {F R R1 R2 : zRm'} {a b : Nat} (hF : zF F R) (ha : a < b) (h8 : F a 8 = none) (hr : ∀ c q, c < b → R1 c q = R c q) (er : R2 = zup R1 a 8 (some b)) : ∃ F2 : zRm', (∀ c k, c < b → F2 c k = F c k) ∧ (∀ (c : Nat) (z : Int), b ≤ c → c < b + 761 → ¬ (c = b + 1 ∧ z = 11 ∨ c = b + 40 ∧ z = 7 ∨ c = b + 754 ∧ z = 2) → F2 c z = R1 c z) ∧ (∀ (c : Nat) (z : Int), c = b + 1 ∧ z = 11 ∨ c = b + 40 ∧ z = 7 ∨ c = b + 754 ∧ z = 2 → F2 c z = none) ∧ (∀ c k, b + 761 ≤ c → F2 c k = none) ∧ zF F2 R2 := by
  refine ⟨fun c z => if c < b then F c z else if (c = b + 1 ∧ z = 11 ∨ c = b + 40 ∧ z = 7 ∨ c = b + 754 ∧ z = 2) then none else if c < b + 761 then R1 c z else none, fun c k h => ?_, fun c z h1 h2 h3 => ?_, fun c z h => ?_, fun c k h => ?_, fun c z r h => ?_⟩
  · simp only [h, if_true]
  · simp only [if_neg (Nat.not_lt.mpr h1), if_neg h3, if_pos h2]
  · have h1 : ¬ c < b := by omega
    simp only [if_neg h1, if_pos h]
  · have h1 : ¬ c < b := by omega
    have h2 : ¬ c < b + 761 := by omega
    simp only [if_neg h1, if_neg h2, ite_self]
  · by_cases h1 : c < b
    · simp only [h1, if_true] at h
      have h2 : ¬ (c = a ∧ z = 8) := fun q => by rw [q.1, q.2, h8] at h; cases h
      rw [zup_n er h2, hr c z h1]
      exact hF c z r h
    · have h2 : ¬ (c = a ∧ z = 8) := by omega
      rw [zup_n er h2]
      simp only [if_neg h1] at h
      split at h
      · cases h
      · split at h
        · exact h
        · cases h
theorem zInB {P L : zTl} {b : Nat} (hb : P.length = b) : zIn (P ++ L) b L := by
  have := zIn.of (P := P) (L := L) (X := []) hb
  rw [List.append_nil] at this
  exact this
/-- behind a question that made the study at b -/
def zMade (G : zGt) (T : zTl) (F : zRm') (M : zMm) (a b : Nat) : Option Value → zSg → Prop := fun v τ => ∃ (x : Int) (M2 : zMm) (J2 : zJm) (R2 F2 R1 : zRm'), v = some (zi x) ∧ τ = (T ++ zL8, M2, J2, R2) ∧ zI G M2 ∧ zF F2 R2 ∧ zN8 R1 b ∧ (∀ (c : Nat) (z : Int), b ≤ c → c < b + 761 → ¬ (c = b + 1 ∧ z = 11 ∨ c = b + 40 ∧ z = 7 ∨ c = b + 754 ∧ z = 2) → F2 c z = R1 c z) ∧ (∀ (c : Nat) (z : Int), c = b + 1 ∧ z = 11 ∨ c = b + 40 ∧ z = 7 ∨ c = b + 754 ∧ z = 2 → F2 c z = none) ∧ (∀ c k, c < b → F2 c k = F c k) ∧ (∀ c k, b + 761 ≤ c → F2 c k = none) ∧ (∀ c q, c < b → 17 ≤ (G c q).1 → M2 c q = M c q) ∧ R2 a 8 = some b
theorem zMade.of {G : zGt} {T : zTl} {F R2 F2 R1 : zRm'} {M M2 : zMm} {a b : Nat} (ha : a < b) (h : ∀ c q, c < b → M2 c q = M c q) (hF : zF F2 R2) (hN : zN8 R1 b) (f1 : ∀ c k, c < b → F2 c k = F c k) (f2 : ∀ (c : Nat) (z : Int), b ≤ c → c < b + 761 → ¬ (c = b + 1 ∧ z = 11 ∨ c = b + 40 ∧ z = 7 ∨ c = b + 754 ∧ z = 2) → F2 c z = R1 c z) (f3 : ∀ (c : Nat) (z : Int), c = b + 1 ∧ z = 11 ∨ c = b + 40 ∧ z = 7 ∨ c = b + 754 ∧ z = 2 → F2 c z = none) (f4 : ∀ c k, b + 761 ≤ c → F2 c k = none) (h8 : R2 a 8 = some b) {v : Option Value} {τ : zSg} (hp : zPiE (T ++ zL8) G (fun x M3 R3 => (zKp G 17 M2 M3) ∧ (zRz R2 R3 (b + 1))) v τ) : zMade G T F M a b v τ := by
  obtain ⟨x, M3, J3, R3, rfl, rfl, hI3, hk, hz3⟩ := hp
  exact ⟨x, M3, J3, R3, F2, R1, rfl, rfl, hI3, hz3.F hF (f3 _ _ (by omega)) (f3 _ _ (by omega)) (f3 _ _ (by omega)), hN, f2, f3, f1, f4, fun c q hc ht => (hk c q ht).trans (h c q hc), (hz3 a 8 (by omega) (by omega) (by omega)).trans h8⟩

theorem c_X11_presence_n1 {w : zWp} {T : zTl} {M : zMm} {J : zJm} {R : zRm'} {G : zGt} {F : zRm'} {a : Nat} (hI : zI G M) (hF : zF F R) (h0 : zHideSets T F G a) {b : Nat} {R0 : zRm'} (hb : T.length = b) (hst : R a 8 = none) (hz : zFr b M J R) (hg8 : zG8 G b) (sT : zIn T a zL11) (sG : zG11 G a) (sN : zN11 R0 a) (sg : ∀ (c : Nat) (z : Int), a ≤ c → c < a + 836 → ¬ (c = a ∧ z = 8 ∨ c = a + 30 ∧ z = 11 ∨ c = a + 69 ∧ z = 7 ∨ c = a + 783 ∧ z = 2) → F c z = R0 c z) (sh : ∀ (c : Nat) (z : Int), c = a ∧ z = 8 ∨ c = a + 30 ∧ z = 11 ∨ c = a + 69 ∧ z = 7 ∨ c = a + 783 ∧ z = 2 → F c z = none) (hci : zCI M a) (v1 : Int) (v2 : Int) (v3 : Int) (p1 : -2147483648 ≤ v1 ∧ v1 ≤ 2147483647) (p2 : -2147483648 ≤ v2 ∧ v2 ≤ 2147483647) (p3 : -2147483648 ≤ v3 ∧ v3 ≤ 2147483647) (p4 : 0 ≤ v1 ∧ v1 ≤ 3 ∧ M (a + 2 + 9 + 4 * v1.toNat) 4 = 1 ∧ 0 ≤ v2 ∧ v2 ≤ 3 ∧ M (a + 2 + 9 + 4 * v2.toNat) 4 = 1 ∧ 0 ≤ v3 ∧ v3 < M (a + 2 + 9 + 4 * v2.toNat) 3) : zCt w 128 761 164533 yX11_presence cX11_presence 5 (some .int) [.ref (w.2.1 + a), zi v1, zi v2, zi v3] (T, M, J, R) (zMade G T F M a b) := by
  refine zCt.of rfl (Nat.le_of_ble_eq_true rfl) ?_
  intro p e s m args below meth c C
  obtain ⟨Po, hPo⟩ : ∃ Po, Po = zMade G T F M a b := ⟨_, rfl⟩
  rw [← hPo]
  show zK w p e 128 761 164533 s m args below meth c 5 T Po 0 [.ref (w.2.1 + a), zi v1, zi v2, zi v3, .null] [] (T, M, J, R)
  refine q_aload_n C dX11_presence_0 (n := 1) rfl rfl ?_
  refine q_getR C dX11_presence_1 (n := 4) rfl f_X11_20 h0.1 (hF _ _ _ h0.2.2.2.2.2.1) ?_
  refine q_iload_n C dX11_presence_4 (n := 5) rfl rfl ?_
  refine q_callVp C dX11_presence_5 (n := 8) rfl m_X11_99 v_yX7_hasFile h0.2.2.2.2.2.2.1.1 ⟨by decide, rfl⟩ (c_X7_hasFile_e (w := w) (J := J) hI hF h0.2.2.2.2.2.2.1 v1 (by omega)) (Nat.le_of_ble_eq_true rfl) rfl rfl (Nat.le_of_ble_eq_true rfl) ⟨Nat.le_add_right _ _, Nat.le_add_right _ _⟩ (fun x3 h4 => ?_)
  obtain ⟨h1, h2⟩ := h4
  refine q_if_eq C 23 dX11_presence_8 (n := 11) rfl rfl (by omega) (fun h5 => ?_) (fun h5 => ?_)
  · exfalso; omega
  · refine q_aload_n C dX11_presence_11 (n := 12) rfl rfl ?_
    refine q_getR C dX11_presence_12 (n := 15) rfl f_X11_20 h0.1 (hF _ _ _ h0.2.2.2.2.2.1) ?_
    refine q_iload_n C dX11_presence_15 (n := 16) rfl rfl ?_
    refine q_iload_n C dX11_presence_16 (n := 17) rfl rfl ?_
    refine q_callVp C dX11_presence_17 (n := 20) rfl m_X11_209 v_yX7_hasLine h0.2.2.2.2.2.2.1.1 ⟨by decide, rfl⟩ (c_X7_hasLine_e (w := w) (J := J) hI hF h0.2.2.2.2.2.2.1 v2 v3 (by omega) (by omega)) (Nat.le_of_ble_eq_true rfl) rfl rfl (Nat.le_of_ble_eq_true rfl) ⟨Nat.le_add_right _ _, Nat.le_add_right _ _⟩ (fun x8 h9 => ?_)
    obtain ⟨h6, h7⟩ := h9
    refine q_if_ne C 25 dX11_presence_20 (n := 23) rfl rfl (by omega) (fun h10 => ?_) (fun h10 => ?_)
    · refine q_aload_n C dX11_presence_25 (n := 26) rfl rfl ?_
      refine r_callV C m_X11_216 v_yX11_theStudy h0.1 (by decide) rfl rfl (c_X11_theStudy_n (w := w) (J := J) hI h0 hst hb hz hg8) (Nat.le_of_ble_eq_true rfl) rfl (Nat.le_of_ble_eq_true rfl) ⟨Nat.le_refl _, Nat.le_refl _⟩ dX11_presence_26 (fun v τ hp hl hs => ?_)
      obtain ⟨rfl, M2, R1, R2, rfl, hI2, hm2, er, hr1, hN8, hz2⟩ := hp
      have hab : a + 836 ≤ b := by have := zIn.len sT zL11_len (by decide); omega
      obtain ⟨F2, f1, f2, f3, f4, hF2⟩ := zF2mk hF (by omega) (sh a 8 (by omega)) hr1 er
      have k1 : zHideSets (T ++ zL8) F2 G a := zMk11 (zIn.ext sT) sG sN (fun c z h1 h2 h3 => (f1 c z (by omega)).trans (sg c z h1 h2 h3)) (fun c z h => (f1 c z (by omega)).trans (sh c z h))
      have k2 : zStudy (T ++ zL8) F2 G b := zMk8 (zInB hb) hg8 hN8 f2 f3
      have gz := zI.at hI (h0.2.2.2.2.2.2.1.2.2.2.1 v2 (by omega) (by omega)).2.2.2.2.2.2.2.2.2.2.2.1
      exact s_X11_presence hI2 hF2 k1 v1 v2 v3 k2 (by omega) (hci.lo (fun c k h => hm2 c k (by omega))) C hl hs (fun v τ h => by rw [hPo]; exact zMade.of (by omega) hm2 hF2 hN8 f1 f2 f3 f4 (zup_s er) h)
    · exfalso; omega
theorem c_X11_outcomes_n1 {w : zWp} {T : zTl} {M : zMm} {J : zJm} {R : zRm'} {G : zGt} {F : zRm'} {a : Nat} (hI : zI G M) (hF : zF F R) (h0 : zHideSets T F G a) {b : Nat} {R0 : zRm'} (hb : T.length = b) (hst : R a 8 = none) (hz : zFr b M J R) (hg8 : zG8 G b) (sT : zIn T a zL11) (sG : zG11 G a) (sN : zN11 R0 a) (sg : ∀ (c : Nat) (z : Int), a ≤ c → c < a + 836 → ¬ (c = a ∧ z = 8 ∨ c = a + 30 ∧ z = 11 ∨ c = a + 69 ∧ z = 7 ∨ c = a + 783 ∧ z = 2) → F c z = R0 c z) (sh : ∀ (c : Nat) (z : Int), c = a ∧ z = 8 ∨ c = a + 30 ∧ z = 11 ∨ c = a + 69 ∧ z = 7 ∨ c = a + 783 ∧ z = 2 → F c z = none) (hci : zCI M a) (v1 : Int) (p1 : -2147483648 ≤ v1 ∧ v1 ≤ 2147483647) (p2 : 0 ≤ v1 ∧ v1 ≤ 3 ∧ M (a + 2 + 9 + 4 * v1.toNat) 4 = 1) : zCt w 128 761 164533 yX11_outcomes cX11_outcomes 3 (some .int) [.ref (w.2.1 + a), zi v1] (T, M, J, R) (zMade G T F M a b) := by
  refine zCt.of rfl (Nat.le_of_ble_eq_true rfl) ?_
  intro p e s m args below meth c C
  obtain ⟨Po, hPo⟩ : ∃ Po, Po = zMade G T F M a b := ⟨_, rfl⟩
  rw [← hPo]
  show zK w p e 128 761 164533 s m args below meth c 3 T Po 0 [.ref (w.2.1 + a), zi v1, .null] [] (T, M, J, R)
  refine q_aload_n C dX11_outcomes_0 (n := 1) rfl rfl ?_
  refine q_getR C dX11_outcomes_1 (n := 4) rfl f_X11_20 h0.1 (hF _ _ _ h0.2.2.2.2.2.1) ?_
  refine q_iload_n C dX11_outcomes_4 (n := 5) rfl rfl ?_
  refine q_callVp C dX11_outcomes_5 (n := 8) rfl m_X11_99 v_yX7_hasFile h0.2.2.2.2.2.2.1.1 ⟨by decide, rfl⟩ (c_X7_hasFile_e (w := w) (J := J) hI hF h0.2.2.2.2.2.2.1 v1 (by omega)) (Nat.le_of_ble_eq_true rfl) rfl rfl (Nat.le_of_ble_eq_true rfl) ⟨Nat.le_add_right _ _, Nat.le_add_right _ _⟩ (fun x3 h4 => ?_)
  obtain ⟨h1, h2⟩ := h4
  refine q_if_ne C 13 dX11_outcomes_8 (n := 11) rfl rfl (by omega) (fun h5 => ?_) (fun h5 => ?_)
  · refine q_aload_n C dX11_outcomes_13 (n := 14) rfl rfl ?_
    refine r_callV C m_X11_216 v_yX11_theStudy h0.1 (by decide) rfl rfl (c_X11_theStudy_n (w := w) (J := J) hI h0 hst hb hz hg8) (Nat.le_of_ble_eq_true rfl) rfl (Nat.le_of_ble_eq_true rfl) ⟨Nat.le_refl _, Nat.le_refl _⟩ dX11_outcomes_14 (fun v τ hp hl hs => ?_)
    obtain ⟨rfl, M2, R1, R2, rfl, hI2, hm2, er, hr1, hN8, hz2⟩ := hp
    have hab : a + 836 ≤ b := by have := zIn.len sT zL11_len (by decide); omega
    obtain ⟨F2, f1, f2, f3, f4, hF2⟩ := zF2mk hF (by omega) (sh a 8 (by omega)) hr1 er
    have k1 : zHideSets (T ++ zL8) F2 G a := zMk11 (zIn.ext sT) sG sN (fun c z h1 h2 h3 => (f1 c z (by omega)).trans (sg c z h1 h2 h3)) (fun c z h => (f1 c z (by omega)).trans (sh c z h))
    have k2 : zStudy (T ++ zL8) F2 G b := zMk8 (zInB hb) hg8 hN8 f2 f3
    skip
    exact s_X11_outcomes hI2 hF2 k1 v1 k2 (by omega) (hci.lo (fun c k h => hm2 c k (by omega))) C hl hs (fun v τ h => by rw [hPo]; exact zMade.of (by omega) hm2 hF2 hN8 f1 f2 f3 f4 (zup_s er) h)
  · exfalso; omega
theorem c_X11_like_n1 {w : zWp} {T : zTl} {M : zMm} {J : zJm} {R : zRm'} {G : zGt} {F : zRm'} {a : Nat} (hI : zI G M) (hF : zF F R) (h0 : zHideSets T F G a) {b : Nat} {R0 : zRm'} (hb : T.length = b) (hst : R a 8 = none) (hz : zFr b M J R) (hg8 : zG8 G b) (sT : zIn T a zL11) (sG : zG11 G a) (sN : zN11 R0 a) (sg : ∀ (c : Nat) (z : Int), a ≤ c → c < a + 836 → ¬ (c = a ∧ z = 8 ∨ c = a + 30 ∧ z = 11 ∨ c = a + 69 ∧ z = 7 ∨ c = a + 783 ∧ z = 2) → F c z = R0 c z) (sh : ∀ (c : Nat) (z : Int), c = a ∧ z = 8 ∨ c = a + 30 ∧ z = 11 ∨ c = a + 69 ∧ z = 7 ∨ c = a + 783 ∧ z = 2 → F c z = none) (hci : zCI M a) (v1 : Int) (v2 : Int) (p1 : -2147483648 ≤ v1 ∧ v1 ≤ 2147483647) (p2 : -2147483648 ≤ v2 ∧ v2 ≤ 2147483647) (p3 : 0 ≤ v1 ∧ v1 ≤ 3 ∧ M (a + 2 + 9 + 4 * v1.toNat) 4 = 1 ∧ 0 ≤ v2 ∧ v2 < zshl 1 (M (a + 2) 3)) : zCt w 128 761 164533 yX11_like cX11_like 4 (some .int) [.ref (w.2.1 + a), zi v1, zi v2] (T, M, J, R) (zMade G T F M a b) := by
  refine zCt.of rfl (Nat.le_of_ble_eq_true rfl) ?_
  intro p e s m args below meth c C
  obtain ⟨Po, hPo⟩ : ∃ Po, Po = zMade G T F M a b := ⟨_, rfl⟩
  rw [← hPo]
  show zK w p e 128 761 164533 s m args below meth c 4 T Po 0 [.ref (w.2.1 + a), zi v1, zi v2, .null] [] (T, M, J, R)
  refine q_aload_n C dX11_like_0 (n := 1) rfl rfl ?_
  refine q_getR C dX11_like_1 (n := 4) rfl f_X11_20 h0.1 (hF _ _ _ h0.2.2.2.2.2.1) ?_
  refine q_iload_n C dX11_like_4 (n := 5) rfl rfl ?_
  refine q_callVp C dX11_like_5 (n := 8) rfl m_X11_99 v_yX7_hasFile h0.2.2.2.2.2.2.1.1 ⟨by decide, rfl⟩ (c_X7_hasFile_e (w := w) (J := J) hI hF h0.2.2.2.2.2.2.1 v1 (by omega)) (Nat.le_of_ble_eq_true rfl) rfl rfl (Nat.le_of_ble_eq_true rfl) ⟨Nat.le_add_right _ _, Nat.le_add_right _ _⟩ (fun x3 h4 => ?_)
  obtain ⟨h1, h2⟩ := h4
  refine q_if_eq C 22 dX11_like_8 (n := 11) rfl rfl (by omega) (fun h5 => ?_) (fun h5 => ?_)
  · exfalso; omega
  · refine q_aload_n C dX11_like_11 (n := 12) rfl rfl ?_
    refine q_getR C dX11_like_12 (n := 15) rfl f_X11_20 h0.1 (hF _ _ _ h0.2.2.2.2.2.1) ?_
    refine q_iload_n C dX11_like_15 (n := 16) rfl rfl ?_
    refine q_callVp C dX11_like_16 (n := 19) rfl m_X11_92 v_yX7_hasSetting h0.2.2.2.2.2.2.1.1 ⟨by decide, rfl⟩ (c_X7_hasSetting_e (w := w) (J := J) hI hF h0.2.2.2.2.2.2.1 v2 (by omega)) (Nat.le_of_ble_eq_true rfl) rfl rfl (Nat.le_of_ble_eq_true rfl) ⟨Nat.le_add_right _ _, Nat.le_add_right _ _⟩ (fun x8 h9 => ?_)
    obtain ⟨h6, h7⟩ := h9
    refine q_if_ne C 24 dX11_like_19 (n := 22) rfl rfl (by omega) (fun h10 => ?_) (fun h10 => ?_)
    · refine q_aload_n C dX11_like_24 (n := 25) rfl rfl ?_
      refine r_callV C m_X11_216 v_yX11_theStudy h0.1 (by decide) rfl rfl (c_X11_theStudy_n (w := w) (J := J) hI h0 hst hb hz hg8) (Nat.le_of_ble_eq_true rfl) rfl (Nat.le_of_ble_eq_true rfl) ⟨Nat.le_refl _, Nat.le_refl _⟩ dX11_like_25 (fun v τ hp hl hs => ?_)
      obtain ⟨rfl, M2, R1, R2, rfl, hI2, hm2, er, hr1, hN8, hz2⟩ := hp
      have hab : a + 836 ≤ b := by have := zIn.len sT zL11_len (by decide); omega
      obtain ⟨F2, f1, f2, f3, f4, hF2⟩ := zF2mk hF (by omega) (sh a 8 (by omega)) hr1 er
      have k1 : zHideSets (T ++ zL8) F2 G a := zMk11 (zIn.ext sT) sG sN (fun c z h1 h2 h3 => (f1 c z (by omega)).trans (sg c z h1 h2 h3)) (fun c z h => (f1 c z (by omega)).trans (sh c z h))
      have k2 : zStudy (T ++ zL8) F2 G b := zMk8 (zInB hb) hg8 hN8 f2 f3
      have gz := zshl1 (zI.at hI h0.2.2.2.2.2.2.1.2.2.2.2.2.2.2.2.2.2.1)
      exact s_X11_like hI2 hF2 k1 v1 v2 k2 (by omega) (hci.lo (fun c k h => hm2 c k (by omega))) C hl hs (fun v τ h => by rw [hPo]; exact zMade.of (by omega) hm2 hF2 hN8 f1 f2 f3 f4 (zup_s er) h)
    · exfalso; omega
theorem c_X11_depends_n1 {w : zWp} {T : zTl} {M : zMm} {J : zJm} {R : zRm'} {G : zGt} {F : zRm'} {a : Nat} (hI : zI G M) (hF : zF F R) (h0 : zHideSets T F G a) {b : Nat} {R0 : zRm'} (hb : T.length = b) (hst : R a 8 = none) (hz : zFr b M J R) (hg8 : zG8 G b) (sT : zIn T a zL11) (sG : zG11 G a) (sN : zN11 R0 a) (sg : ∀ (c : Nat) (z : Int), a ≤ c → c < a + 836 → ¬ (c = a ∧ z = 8 ∨ c = a + 30 ∧ z = 11 ∨ c = a + 69 ∧ z = 7 ∨ c = a + 783 ∧ z = 2) → F c z = R0 c z) (sh : ∀ (c : Nat) (z : Int), c = a ∧ z = 8 ∨ c = a + 30 ∧ z = 11 ∨ c = a + 69 ∧ z = 7 ∨ c = a + 783 ∧ z = 2 → F c z = none) (hci : zCI M a) (v1 : Int) (p1 : -2147483648 ≤ v1 ∧ v1 ≤ 2147483647) (p2 : 0 ≤ v1 ∧ v1 ≤ 3 ∧ M (a + 2 + 9 + 4 * v1.toNat) 4 = 1) : zCt w 128 761 164533 yX11_depends cX11_depends 3 (some .int) [.ref (w.2.1 + a), zi v1] (T, M, J, R) (zMade G T F M a b) := by
  refine zCt.of rfl (Nat.le_of_ble_eq_true rfl) ?_
  intro p e s m args below meth c C
  obtain ⟨Po, hPo⟩ : ∃ Po, Po = zMade G T F M a b := ⟨_, rfl⟩
  rw [← hPo]
  show zK w p e 128 761 164533 s m args below meth c 3 T Po 0 [.ref (w.2.1 + a), zi v1, .null] [] (T, M, J, R)
  refine q_aload_n C dX11_depends_0 (n := 1) rfl rfl ?_
  refine q_getR C dX11_depends_1 (n := 4) rfl f_X11_20 h0.1 (hF _ _ _ h0.2.2.2.2.2.1) ?_
  refine q_iload_n C dX11_depends_4 (n := 5) rfl rfl ?_
  refine q_callVp C dX11_depends_5 (n := 8) rfl m_X11_99 v_yX7_hasFile h0.2.2.2.2.2.2.1.1 ⟨by decide, rfl⟩ (c_X7_hasFile_e (w := w) (J := J) hI hF h0.2.2.2.2.2.2.1 v1 (by omega)) (Nat.le_of_ble_eq_true rfl) rfl rfl (Nat.le_of_ble_eq_true rfl) ⟨Nat.le_add_right _ _, Nat.le_add_right _ _⟩ (fun x3 h4 => ?_)
  obtain ⟨h1, h2⟩ := h4
  refine q_if_ne C 13 dX11_depends_8 (n := 11) rfl rfl (by omega) (fun h5 => ?_) (fun h5 => ?_)
  · refine q_aload_n C dX11_depends_13 (n := 14) rfl rfl ?_
    refine r_callV C m_X11_216 v_yX11_theStudy h0.1 (by decide) rfl rfl (c_X11_theStudy_n (w := w) (J := J) hI h0 hst hb hz hg8) (Nat.le_of_ble_eq_true rfl) rfl (Nat.le_of_ble_eq_true rfl) ⟨Nat.le_refl _, Nat.le_refl _⟩ dX11_depends_14 (fun v τ hp hl hs => ?_)
    obtain ⟨rfl, M2, R1, R2, rfl, hI2, hm2, er, hr1, hN8, hz2⟩ := hp
    have hab : a + 836 ≤ b := by have := zIn.len sT zL11_len (by decide); omega
    obtain ⟨F2, f1, f2, f3, f4, hF2⟩ := zF2mk hF (by omega) (sh a 8 (by omega)) hr1 er
    have k1 : zHideSets (T ++ zL8) F2 G a := zMk11 (zIn.ext sT) sG sN (fun c z h1 h2 h3 => (f1 c z (by omega)).trans (sg c z h1 h2 h3)) (fun c z h => (f1 c z (by omega)).trans (sh c z h))
    have k2 : zStudy (T ++ zL8) F2 G b := zMk8 (zInB hb) hg8 hN8 f2 f3
    skip
    exact s_X11_depends hI2 hF2 k1 v1 k2 (by omega) (hci.lo (fun c k h => hm2 c k (by omega))) C hl hs (fun v τ h => by rw [hPo]; exact zMade.of (by omega) hm2 hF2 hN8 f1 f2 f3 f4 (zup_s er) h)
  · exfalso; omega
