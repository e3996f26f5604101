theorem zFi.mo {T : zTl} {F : zRm'} {G : zGt} {M : zMm} {a : Nat} {k l : Int} (h : zFi M a) (hI : zI G M) (h0 : zModel T F G a) (hk : 0 ≤ k ∧ k ≤ 3) (hl : 0 ≤ l ∧ l ≤ M (a + 2) (4 + k)) : 0 ≤ zSum (M (a + 2)) (8 + 40 * k) l.toNat ∧ zSum (M (a + 2)) (8 + 40 * k) l.toNat ≤ zSum (M (a + 2)) (8 + 40 * k) (M (a + 2) (4 + k)).toNat ∧ zSum (M (a + 2)) (8 + 40 * k) (M (a + 2) (4 + k)).toNat ≤ 400 ∧ (M (a + 2) (4 + k) ≤ l ∨ zSum (M (a + 2)) (8 + 40 * k) l.toNat + M (a + 2) (8 + 40 * k + l) ≤ zSum (M (a + 2)) (8 + 40 * k) (M (a + 2) (4 + k)).toNat) := by
  have hs := h k hk.1 hk.2
  have hn := zI.at hI ((zM9 h0 (4 + k)).trans (zfG_4 (by omega)))
  have hp : ∀ j : Nat, j < 40 → 0 ≤ M (a + 2) (8 + 40 * k + j) := fun j hj => (zI.at hI ((zM9 h0 (8 + 40 * k + j)).trans (zfG_8 (by omega)))).1
  have z0 := zSum_mo (g := M (a + 2)) (b := 8 + 40 * k) 0 l.toNat (fun j hj => hp j (by omega))
  rw [Nat.zero_add] at z0
  have e : (M (a + 2) (4 + k)).toNat = l.toNat + ((M (a + 2) (4 + k)).toNat - l.toNat) := by omega
  have z1 := zSum_mo (g := M (a + 2)) (b := 8 + 40 * k) l.toNat ((M (a + 2) (4 + k)).toNat - l.toNat) (fun j hj => hp j (by omega))
  rw [← e] at z1
  refine ⟨z0, z1, hs, ?_⟩
  by_cases hq : M (a + 2) (4 + k) ≤ l
  · exact Or.inl hq
  · refine Or.inr ?_
    have z2 := zSum_mo (g := M (a + 2)) (b := 8 + 40 * k) (l + 1).toNat ((M (a + 2) (4 + k)).toNat - (l + 1).toNat) (fun j hj => hp j (by omega))
    rw [show (l + 1).toNat + ((M (a + 2) (4 + k)).toNat - (l + 1).toNat) = (M (a + 2) (4 + k)).toNat by omega, zSum_s hl.1] at z2
    omega
theorem zSum_up {g h : Int → Int} {b : Int} {l m : Nat} (e : ∀ i : Nat, i < m → i ≠ l → h (b + i) = g (b + i)) : ∀ (n : Nat), n ≤ m → l < n → zSum h b n + g (b + l) = zSum g b n + h (b + l)
  | 0, _, h2 => absurd h2 (Nat.not_lt_zero _)
  | n + 1, h1, h2 => by
    have e1 : zSum h b (n + 1) = zSum h b n + h (b + (n : Int)) := rfl
    have e2 : zSum g b (n + 1) = zSum g b n + g (b + (n : Int)) := rfl
    by_cases q : l = n
    · subst q
      rw [e1, e2, zSum_cg (g := h) (h := g) l (fun i hi => e i (by omega) (by omega))]
      omega
    · have ih := zSum_up e n (by omega) (by omega)
      rw [e1, e2, e n (by omega) (by omega)]
      omega
theorem zEd_fi {T : zTl} {F : zRm'} {G : zGt} {M Mx M1 M2 : zMm} {a : Nat} {k l x n : Int} (e0 : ∀ j, Mx (a + 2) j = M (a + 2) j) (e1 : M1 = zup Mx (a + 2) (8 + 40 * k + l) x) (e2 : M2 = zup M1 (a + 2) (4 + k) n) (f : zFi M a) (hI : zI G M) (h0 : zModel T F G a) (hk : 0 ≤ k ∧ k ≤ 3) (hl : 0 ≤ l ∧ l ≤ 39) (hn : l < M (a + 2) (4 + k) ∧ n = M (a + 2) (4 + k) ∧ zSum (M (a + 2)) (8 + 40 * k) (M (a + 2) (4 + k)).toNat - M (a + 2) (8 + 40 * k + l) + x ≤ 400 ∨ l = M (a + 2) (4 + k) ∧ n = l + 1 ∧ zSum (M (a + 2)) (8 + 40 * k) (M (a + 2) (4 + k)).toNat + x ≤ 400) : zFi M2 a := fun q q0 q3 => by
  have hq := zI.at hI ((zM9 h0 (4 + q)).trans (zfG_4 (by omega)))
  have c : ∀ j, j ≠ 4 + k → j ≠ 8 + 40 * k + l → M2 (a + 2) j = M (a + 2) j := fun j j1 j2 => by
    rw [zup_n e2 (by omega), zup_n e1 (by omega), e0]
  have c4 : M2 (a + 2) (4 + k) = n := zup_s e2
  have cl : M2 (a + 2) (8 + 40 * k + l) = x := by rw [zup_n e2 (by omega), zup_s e1]
  by_cases z : q = k
  · subst z
    rw [c4]
    rcases hn with ⟨h1, h2, h3⟩ | ⟨h1, h2, h3⟩
    · have hu := zSum_up (g := M (a + 2)) (h := M2 (a + 2)) (b := 8 + 40 * q) (l := l.toNat) (m := 40) (fun i i0 i1 => c _ (by omega) (by omega)) n.toNat (by omega) (by omega)
      rw [show ((l.toNat : Nat) : Int) = l by omega, cl] at hu
      rw [← h2] at h3
      omega
    · rw [h2, zSum_s hl.1, cl, zSum_cg (g := M2 (a + 2)) (h := M (a + 2)) l.toNat (fun i hi => c _ (by omega) (by omega))]
      rw [← h1] at h3
      omega
  · rw [c (4 + q) (by omega) (by omega), zSum_cg (g := M2 (a + 2)) (h := M (a + 2))]
    · exact f q q0 q3
    · intro i hi
      exact c _ (by omega) (by omega)
theorem c_X12_edit {w : zWp} {T : zTl} {M : zMm} {J : zJm} {R : zRm'} {G : zGt} {F : zRm'} {a : Nat} (hI : zI G M) (hF : zF F R) (h0 : zModel T F G a) (v1 : Int) (v2 : Int) (p1 : zFi M a) (p2 : -2147483648 ≤ v1 ∧ v1 ≤ 2147483647) (p3 : -2147483648 ≤ v2 ∧ v2 ≤ 2147483647) : zCt w 3 0 0 yX12_edit cX12_edit 12 (some .int) [.ref (w.2.1 + a), zi v1, zi v2] (T, M, J, R) (zPi T R G (fun x M2 => (zMd a [2, 4] [0, 2, 3, 9] [] M M2) ∧ (zFi M2 a) ∧ (M2 a 2 = 0))) := by
  refine zCt.of rfl (Nat.le_of_ble_eq_true rfl) ?_
  intro p e s m args below meth c C
  obtain ⟨Po, hPo⟩ : ∃ Po, Po = zPi T R G (fun x M2 => (zMd a [2, 4] [0, 2, 3, 9] [] M M2) ∧ (zFi M2 a) ∧ (M2 a 2 = 0)) := ⟨_, rfl⟩
  rw [← hPo]
  have hK0 : zMd a [2, 4] [0, 2, 3, 9] [] M M := zMd.rf
  have gk_length := zI.at hI (zM5 h0)
  have gk_size := zI.at hI (zM6 h0)
  show zK w p e 3 0 0 s m args below meth c 12 T Po 0 [.ref (w.2.1 + a), zi v1, zi v2, .null, .null, .null, .null, .null, .null, .null, .null, .null] [] (T, M, J, R)
  refine q_aload_n C dX12_edit_0 (n := 1) rfl rfl ?_
  refine q_callVv C dX12_edit_1 (n := 4) rfl m_X12_293 v_yX12_taken (zM0 h0) ⟨by decide, rfl⟩ (c_X12_taken (w := w) (J := J) hI hF h0) (Nat.le_of_ble_eq_true rfl) rfl rfl (Nat.le_of_ble_eq_true rfl) ⟨Nat.le_refl _, Nat.le_refl _⟩ (fun M3 J4  hI5 h6 => ?_)
  obtain ⟨hk7, h1, h2⟩ := h6
  have hK8 := hK0.tr hk7 rfl rfl rfl
  refine q_aload_n C dX12_edit_4 (n := 5) rfl rfl ?_
  refine q_iload_n C dX12_edit_5 (n := 6) rfl rfl ?_
  refine q_callVp C dX12_edit_6 (n := 9) rfl m_X12_281 v_yX12_isFile (zM0 h0) ⟨by decide, rfl⟩ (c_X12_isFile (w := w) (J := J4) hI5 hF h0 v1 (by omega)) (Nat.le_of_ble_eq_true rfl) rfl rfl (Nat.le_of_ble_eq_true rfl) ⟨Nat.le_refl _, Nat.le_refl _⟩ (fun x11 h12 => ?_)
  obtain ⟨h9, h10⟩ := h12
  refine q_if_eq C 25 dX12_edit_9 (n := 12) rfl rfl (by omega) (fun h13 => ?_) (fun h13 => ?_)
  · refine q_bipush C dX12_edit_25 (n := 27) rfl (x := (-2)) (by decide) ?_
    have hp14 : zFi M3 a := p1.cg (fun j => (hk7.getA rfl rfl rfl))
    exact q_iret C dX12_edit_27 ⟨rfl, rfl⟩ (by rw [hPo]; exact ⟨(-2), M3, J4, rfl, rfl, hI5, hK8, hp14, by omega⟩)
  · refine q_iload_n C dX12_edit_12 (n := 13) rfl rfl ?_
    refine q_iconst C dX12_edit_13 (n := 14) rfl ?_
    refine q_aload_n C dX12_edit_14 (n := 15) rfl rfl ?_
    refine q_iload_n C dX12_edit_15 (n := 16) rfl rfl ?_
    refine q_callVp C dX12_edit_16 (n := 19) rfl m_X12_285 v_yX12_linesOf (zM0 h0) ⟨by decide, rfl⟩ (c_X12_linesOf (w := w) (J := J4) hI5 hF h0 v1 (by omega)) (Nat.le_of_ble_eq_true rfl) rfl rfl (Nat.le_of_ble_eq_true rfl) ⟨Nat.le_refl _, Nat.le_refl _⟩ (fun x17 h18 => ?_)
    obtain ⟨h15, h16⟩ := h18
    have hz19 : M3 (a + 2) (4 + v1) = M (a + 2) (4 + v1) := (hk7.getA rfl rfl rfl)
    refine q_callSp C dX12_edit_19 (n := 22) rfl m_X12_277 s_yX12_isIn (c_X12_isIn (w := w) (J := J4) hI5 hF v2 0 x17 (by omega) (by omega) (by omega)) (Nat.le_of_ble_eq_true rfl) rfl rfl (Nat.le_of_ble_eq_true rfl) ⟨Nat.le_refl _, Nat.le_refl _⟩ (fun x23 h24 => ?_)
    obtain ⟨h20, h21, h22⟩ := h24
    refine q_if_ne C 28 dX12_edit_22 (n := 25) rfl rfl (by omega) (fun h25 => ?_) (fun h25 => ?_)
    · refine q_aload_n C dX12_edit_28 (n := 29) rfl rfl ?_
      refine q_iconst C dX12_edit_29 (n := 30) rfl ?_
      refine q_callVp C dX12_edit_30 (n := 33) rfl m_X12_296 v_yX12_badByte (zM0 h0) ⟨by decide, rfl⟩ (c_X12_badByte (w := w) (J := J4) hI5 hF h0 0 (by omega)) (Nat.le_of_ble_eq_true rfl) rfl rfl (Nat.le_of_ble_eq_true rfl) ⟨Nat.le_refl _, Nat.le_refl _⟩ (fun x28 h29 => ?_)
      obtain ⟨h26, h27⟩ := h29
      refine q_istore_n C [.ref (w.2.1 + a), zi v1, zi v2, zi x28, .null, .null, .null, .null, .null, .null, .null, .null] dX12_edit_33 (n := 34) rfl rfl rfl ?_
      refine q_iload_n C dX12_edit_34 (n := 35) rfl rfl ?_
      refine q_if_lt C 44 dX12_edit_35 (n := 38) rfl rfl (by omega) (fun h30 => ?_) (fun h30 => ?_)
      · have gz0 := zSum_0 (g := M (a + 2)) (b := 8 + 40 * v1)
        have gc : 39 < v2 ∨ 0 ≤ M (a + 2) (8 + 40 * v1 + v2) ∧ M (a + 2) (8 + 40 * v1 + v2) ≤ 440 := (Decidable.em (39 < v2)).imp id (fun h => zI.at hI ((zM9 h0 (8 + 40 * v1 + v2)).trans (zfG_8 (by omega))))
        refine q_aload_n C dX12_edit_44 (n := 45) rfl rfl ?_
        refine q_iload_n C dX12_edit_45 (n := 46) rfl rfl ?_
        refine q_callVp C dX12_edit_46 (n := 49) rfl m_X12_285 v_yX12_linesOf (zM0 h0) ⟨by decide, rfl⟩ (c_X12_linesOf (w := w) (J := J4) hI5 hF h0 v1 (by omega)) (Nat.le_of_ble_eq_true rfl) rfl rfl (Nat.le_of_ble_eq_true rfl) ⟨Nat.le_refl _, Nat.le_refl _⟩ (fun x33 h34 => ?_)
        obtain ⟨h31, h32⟩ := h34
        have hz35 : M3 (a + 2) (4 + v1) = M (a + 2) (4 + v1) := (hk7.getA rfl rfl rfl)
        refine q_istore C [.ref (w.2.1 + a), zi v1, zi v2, zi x28, zi x33, .null, .null, .null, .null, .null, .null, .null] dX12_edit_49 (n := 51) rfl rfl rfl ?_
        refine q_iload_n C dX12_edit_51 (n := 52) rfl rfl ?_
        refine q_iload C dX12_edit_52 (n := 54) rfl rfl ?_
        have J_39 : ∀ (u36 : Int), (-2147483648 ≤ u36 ∧ u36 ≤ 2147483647) → (v2 = M (a + 2) (4 + v1) ∧ u36 = v2 + 1 ∨ v2 < M (a + 2) (4 + v1) ∧ u36 = M (a + 2) (4 + v1)) → zK w p e 3 0 0 s m args below meth c 12 T Po 66 [.ref (w.2.1 + a), zi v1, zi v2, .null, zi x33, .null, .null, .null, .null, .null, .null, .null] [zi u36] (T, M3, J4, R) := by
          intro u36 h37 h38
          refine q_istore C [.ref (w.2.1 + a), zi v1, zi v2, .null, zi x33, zi u36, .null, .null, .null, .null, .null, .null] dX12_edit_66 (n := 68) rfl rfl rfl ?_
          refine q_aload_n C dX12_edit_68 (n := 69) rfl rfl ?_
          have g40 := zI.at hI5 (zM6 h0)
          refine q_getI C dX12_edit_69 (n := 72) rfl f_X12_274 (zM0 h0) (v := M3 a 3) rfl ?_
          refine q_iconst C dX12_edit_72 (n := 73) rfl ?_
          refine q_iadd C dX12_edit_73 (n := 74) rfl (v := (M3 a 3) + 1) rfl ?_
          refine q_istore C [.ref (w.2.1 + a), zi v1, zi v2, .null, zi x33, zi u36, zi ((M3 a 3) + 1), .null, .null, .null, .null, .null] dX12_edit_74 (n := 76) rfl rfl rfl ?_
          refine q_iconst C dX12_edit_76 (n := 77) rfl ?_
          refine q_istore C [.ref (w.2.1 + a), zi v1, zi v2, .null, zi x33, zi u36, zi ((M3 a 3) + 1), zi 0, .null, .null, .null, .null] dX12_edit_77 (n := 79) rfl rfl rfl ?_
          have L_47 : ∀ n48 : Nat, ∀ (u41 : Int) (u42 : Int), (-2147483648 ≤ u41 ∧ u41 ≤ 2147483647) → (-2147483648 ≤ u42 ∧ u42 ≤ 2147483647) → (0 ≤ u42 ∧ u42 ≤ x33) → (u42 ≤ v2 ∧ u41 = M a 2 + 1 + zSum (M (a + 2)) (8 + 40 * v1) (u42 : Int).toNat + u42 ∨ v2 < u42 ∧ u41 = M a 2 + zSum (M (a + 2)) (8 + 40 * v1) (u42 : Int).toNat + u42 - M (a + 2) (8 + 40 * v1 + v2)) → (41 - u42 ≤ (n48 : Int)) → zK w p e 3 0 0 s m args below meth c 12 T Po 79 [.ref (w.2.1 + a), zi v1, zi v2, .null, zi x33, zi u36, zi u41, zi u42, .null, .null, .null, .null] [] (T, M3, J4, R) := by
            intro n48
            induction n48 with
            | zero =>
              intro u41 u42 h43 h44 h45 h46 hm50
              exfalso
              omega
            | succ n48 ih49 =>
              intro u41 u42 h43 h44 h45 h46 hm50
              refine q_iload C dX12_edit_79 (n := 81) rfl rfl ?_
              refine q_iload C dX12_edit_81 (n := 83) rfl rfl ?_
              refine q_icmp_ge C 112 dX12_edit_83 (n := 86) rfl rfl (by omega) (fun h51 => ?_) (fun h51 => ?_)
              · have gmo := zFi.mo p1 hI h0 (k := v1) (l := v2) (by omega) (by omega)
                have gq : zSum (M (a + 2)) (8 + 40 * v1) (u42 : Int).toNat = zSum (M (a + 2)) (8 + 40 * v1) (M (a + 2) (4 + v1)).toNat := by rw [show (u42 : Int) = M (a + 2) (4 + v1) by omega]
                refine q_iload C dX12_edit_112 (n := 114) rfl rfl ?_
                refine q_sipush C dX12_edit_114 (n := 117) rfl (x := 400) (by decide) ?_
                refine q_icmp_gt C 127 dX12_edit_117 (n := 120) rfl rfl (by omega) (fun h52 => ?_) (fun h52 => ?_)
                · refine q_bipush C dX12_edit_127 (n := 129) rfl (x := (-3)) (by decide) ?_
                  have hp53 : zFi M3 a := p1.cg (fun j => (hk7.getA rfl rfl rfl))
                  exact q_iret C dX12_edit_129 ⟨rfl, rfl⟩ (by rw [hPo]; exact ⟨(-3), M3, J4, rfl, rfl, hI5, hK8, hp53, by omega⟩)
                · refine q_iload C dX12_edit_120 (n := 122) rfl rfl ?_
                  refine q_bipush C dX12_edit_122 (n := 124) rfl (x := 40) (by decide) ?_
                  refine q_icmp_le C 130 dX12_edit_124 (n := 127) rfl rfl (by omega) (fun h54 => ?_) (fun h54 => ?_)
                  · refine q_aload_n C dX12_edit_130 (n := 131) rfl rfl ?_
                    refine q_iload_n C dX12_edit_131 (n := 132) rfl rfl ?_
                    refine q_iload_n C dX12_edit_132 (n := 133) rfl rfl ?_
                    have hp55 : zFi M3 a := p1.cg (fun j => (hk7.getA rfl rfl rfl))
                    refine q_callVp C dX12_edit_133 (n := 136) rfl m_X12_321 v_yX12_beginOf (zM0 h0) ⟨by decide, rfl⟩ (c_X12_beginOf (w := w) (J := J4) hI5 hF h0 v1 v2 hp55 (by omega) (by have hz56 : M3 (a + 2) (4 + v1) = M (a + 2) (4 + v1) := (hk7.getA rfl rfl rfl); omega)) (Nat.le_of_ble_eq_true rfl) rfl rfl (Nat.le_of_ble_eq_true rfl) ⟨Nat.le_refl _, Nat.le_refl _⟩ (fun x60 h61 => ?_)
                    obtain ⟨h57, h58, h59⟩ := h61
                    have hz62 : M3 (a + 2) (4 + v1) = M (a + 2) (4 + v1) := (hk7.getA rfl rfl rfl)
                    have hz63 : M3 (a + 2) (8 + 40 * v1 + v2) = M (a + 2) (8 + 40 * v1 + v2) := (hk7.getA rfl rfl rfl)
                    have gM1 : M3 (a + 2) = M (a + 2) := funext (fun j => (hk7.getA rfl rfl rfl))
                    have gs1 : zSum (M3 (a + 2)) (8 + 40 * v1) v2.toNat = zSum (M (a + 2)) (8 + 40 * v1) v2.toNat := by rw [gM1]
                    refine q_istore C [.ref (w.2.1 + a), zi v1, zi v2, .null, zi x33, zi u36, zi u41, zi x60, .null, .null, .null, .null] dX12_edit_136 (n := 138) rfl rfl rfl ?_
                    refine q_aload_n C dX12_edit_138 (n := 139) rfl rfl ?_
                    refine q_iload_n C dX12_edit_139 (n := 140) rfl rfl ?_
                    refine q_iload C dX12_edit_140 (n := 142) rfl rfl ?_
                    refine q_callVp C dX12_edit_142 (n := 145) rfl m_X12_321 v_yX12_beginOf (zM0 h0) ⟨by decide, rfl⟩ (c_X12_beginOf (w := w) (J := J4) hI5 hF h0 v1 x33 hp55 (by omega) (by have hz64 : M3 (a + 2) (4 + v1) = M (a + 2) (4 + v1) := (hk7.getA rfl rfl rfl); omega)) (Nat.le_of_ble_eq_true rfl) rfl rfl (Nat.le_of_ble_eq_true rfl) ⟨Nat.le_refl _, Nat.le_refl _⟩ (fun x68 h69 => ?_)
                    obtain ⟨h65, h66, h67⟩ := h69
                    have hz70 : M3 (a + 2) (4 + v1) = M (a + 2) (4 + v1) := (hk7.getA rfl rfl rfl)
                    have hz71 : M3 (a + 2) (8 + 40 * v1 + x33) = M (a + 2) (8 + 40 * v1 + x33) := (hk7.getA rfl rfl rfl)
                    have gM2 : M3 (a + 2) = M (a + 2) := funext (fun j => (hk7.getA rfl rfl rfl))
                    have gs2 : zSum (M3 (a + 2)) (8 + 40 * v1) (x33 : Int).toNat = zSum (M (a + 2)) (8 + 40 * v1) (M (a + 2) (4 + v1)).toNat := by rw [gM2, show (x33 : Int) = M (a + 2) (4 + v1) by omega]
                    refine q_istore C [.ref (w.2.1 + a), zi v1, zi v2, .null, zi x33, zi u36, zi u41, zi x60, zi x68, .null, .null, .null] dX12_edit_145 (n := 147) rfl rfl rfl ?_
                    refine q_iload_n C dX12_edit_147 (n := 148) rfl rfl ?_
                    refine q_iload C dX12_edit_148 (n := 150) rfl rfl ?_
                    have J_75 : ∀ (u72 : Int), (-2147483648 ≤ u72 ∧ u72 ≤ 2147483647) → (v2 < M (a + 2) (4 + v1) ∧ u72 = M (a + 2) (8 + 40 * v1 + v2) ∨ v2 = M (a + 2) (4 + v1) ∧ u72 = 0) → zK w p e 3 0 0 s m args below meth c 12 T Po 163 [.ref (w.2.1 + a), zi v1, zi v2, .null, .null, zi u36, .null, zi x60, zi x68, .null, .null, .null] [zi u72] (T, M3, J4, R) := by
                      intro u72 h73 h74
                      refine q_istore C [.ref (w.2.1 + a), zi v1, zi v2, .null, .null, zi u36, .null, zi x60, zi x68, zi u72, .null, .null] dX12_edit_163 (n := 165) rfl rfl rfl ?_
                      refine q_aload_n C dX12_edit_165 (n := 166) rfl rfl ?_
                      refine q_getI C dX12_edit_166 (n := 169) rfl f_X12_274 (zM0 h0) (v := M3 a 3) rfl ?_
                      refine q_iload C dX12_edit_169 (n := 171) rfl rfl ?_
                      refine q_isub C dX12_edit_171 (n := 172) rfl (v := (M3 a 3) - u72) rfl ?_
                      refine q_istore C [.ref (w.2.1 + a), zi v1, zi v2, .null, .null, zi u36, .null, zi x60, zi x68, zi u72, zi ((M3 a 3) - u72), .null] dX12_edit_172 (n := 174) rfl rfl rfl ?_
                      refine q_iload C dX12_edit_174 (n := 176) rfl rfl ?_
                      have J_82 : ∀ (M77 : zMm) (J78 : zJm), zI G M77 → zMd a [2, 4] [0, 2, 3, 9] [] M M77 → zMd a [4] [] [] M3 M77 → zK w p e 3 0 0 s m args below meth c 12 T Po 258 [.ref (w.2.1 + a), zi v1, zi v2, .null, .null, zi u36, .null, zi x60, .null, .null, .null, .null] [] (T, M77, J78, R) := by
                        intro M77 J78 hI79 hK80 hK81
                        refine q_iconst C dX12_edit_258 (n := 259) rfl ?_
                        refine q_istore C [.ref (w.2.1 + a), zi v1, zi v2, .null, .null, zi u36, .null, zi x60, .null, .null, .null, zi 0] dX12_edit_259 (n := 261) rfl rfl rfl ?_
                        have L_92 : ∀ n93 : Nat, ∀ (u83 : Int) (M85 : zMm) (J86 : zJm), zI G M85 → zMd a [2, 4] [0, 2, 3, 9] [] M M85 → zMd a [4] [] [] M77 M85 → (-2147483648 ≤ u83 ∧ u83 ≤ 2147483647) → (0 ≤ u83 ∧ u83 ≤ M a 2) → (441 - u83 ≤ (n93 : Int)) → zK w p e 3 0 0 s m args below meth c 12 T Po 261 [.ref (w.2.1 + a), zi v1, zi v2, .null, .null, zi u36, .null, zi x60, .null, .null, .null, zi u83] [] (T, M85, J86, R) := by
                          intro n93
                          induction n93 with
                          | zero =>
                            intro u83 M85 J86 hI87 hK88 hK89 h90 h91 hm95
                            exfalso
                            omega
                          | succ n93 ih94 =>
                            intro u83 M85 J86 hI87 hK88 hK89 h90 h91 hm95
                            refine q_iload C dX12_edit_261 (n := 263) rfl rfl ?_
                            refine q_aload_n C dX12_edit_263 (n := 264) rfl rfl ?_
                            refine q_getI C dX12_edit_264 (n := 267) rfl f_X12_274 (zM0 h0) (v := M3 a 3) ((hK89.getS rfl rfl).trans (hK81.getS rfl rfl)) ?_
                            refine q_icmp_ge C 293 dX12_edit_267 (n := 270) rfl rfl (by omega) (fun h96 => ?_) (fun h96 => ?_)
                            · refine q_aload_n C dX12_edit_293 (n := 294) rfl rfl ?_
                              refine q_getR C dX12_edit_294 (n := 297) rfl f_X12_17 (zM0 h0) (hF _ _ _ (zM7 h0)) ?_
                              refine q_bipush C dX12_edit_297 (n := 299) rfl (x := 8) (by decide) ?_
                              refine q_bipush C dX12_edit_299 (n := 301) rfl (x := 40) (by decide) ?_
                              refine q_iload_n C dX12_edit_301 (n := 302) rfl rfl ?_
                              refine q_imul C dX12_edit_302 (n := 303) rfl (v := 40 * v1) rfl ?_
                              refine q_iadd C dX12_edit_303 (n := 304) rfl (v := 8 + (40 * v1)) rfl ?_
                              refine q_iload_n C dX12_edit_304 (n := 305) rfl rfl ?_
                              refine q_iadd C dX12_edit_305 (n := 306) rfl (v := (8 + (40 * v1)) + v2) rfl ?_
                              refine q_aload_n C dX12_edit_306 (n := 307) rfl rfl ?_
                              refine q_getI C dX12_edit_307 (n := 310) rfl f_X12_274 (zM0 h0) (v := M3 a 3) ((hK89.getS rfl rfl).trans (hK81.getS rfl rfl)) ?_
                              refine q_iast C dX12_edit_310 (n := 311) rfl (zM8 h0) (by omega)  (fun M97 e98 => ?_)
                              have hp99 : zFi M85 a := hp55.cg (fun j => ((hK89.getA rfl rfl rfl).trans (hK81.getA rfl rfl rfl)))
                              have hI100 : zI G M97 := hI87.put e98 (((zM9 h0) ((8 + (40 * v1)) + v2)).trans (zfG_8 (by omega))) rfl (by omega)
                              have hK101 := hK88.upA e98 rfl
                              refine q_aload_n C dX12_edit_311 (n := 312) rfl rfl ?_
                              refine q_getR C dX12_edit_312 (n := 315) rfl f_X12_17 (zM0 h0) (hF _ _ _ (zM7 h0)) ?_
                              refine q_iconst C dX12_edit_315 (n := 316) rfl ?_
                              refine q_iload_n C dX12_edit_316 (n := 317) rfl rfl ?_
                              refine q_iadd C dX12_edit_317 (n := 318) rfl (v := 4 + v1) rfl ?_
                              refine q_iload C dX12_edit_318 (n := 320) rfl rfl ?_
                              refine q_iast C dX12_edit_320 (n := 321) rfl (zM8 h0) (by omega)  (fun M103 e104 => ?_)
                              have hI105 : zI G M103 := hI100.put e104 (((zM9 h0) (4 + v1)).trans (zfG_4 (by omega))) rfl (by omega)
                              have hK106 := hK101.upA e104 rfl
                              have hp107 : zFi M103 a := zEd_fi (M := M) (k := v1) (l := v2) (fun j => ((hK89.getA rfl rfl rfl).trans ((hK81.getA rfl rfl rfl).trans (hk7.getA rfl rfl rfl)))) e98 e104 p1 hI h0 (by omega) (by omega) (by omega)
                              refine q_aload_n C dX12_edit_321 (n := 322) rfl rfl ?_
                              refine q_iconst C dX12_edit_322 (n := 323) rfl ?_
                              refine q_putZ C dX12_edit_323 (n := 326) rfl f_X12_300 (zM0 h0) ⟨rfl, rfl⟩ (by omega) (fun M108 (e109 : M108 = zup M103 a 9 0) => ?_)
                              have hI110 : zI G M108 := hI105.put e109 (zM22 h0) rfl (by omega)
                              have hK111 := hK106.upS e109 rfl
                              refine q_iload C dX12_edit_326 (n := 328) rfl rfl ?_
                              have hp112 : zFi M108 a := hp107.cg (fun j => (zup_p e109 (by omega) _))
                              exact q_iret C dX12_edit_328 ⟨rfl, rfl⟩ (by rw [hPo]; exact ⟨u36, M108, J86, rfl, rfl, hI110, hK111, hp112, by have hz113 : M108 a 2 = M3 a 2 := ((zup_n e109 (by omega)).trans ((zup_p e104 (by omega) _).trans ((zup_p e98 (by omega) _).trans ((hK89.getS rfl rfl).trans (hK81.getS rfl rfl))))); omega⟩)
                            · refine q_aload_n C dX12_edit_270 (n := 271) rfl rfl ?_
                              refine q_getR C dX12_edit_271 (n := 274) rfl f_X12_24 (zM0 h0) (hF _ _ _ (zM13 h0)) ?_
                              refine q_iload C dX12_edit_274 (n := 276) rfl rfl ?_
                              refine q_iload C dX12_edit_276 (n := 278) rfl rfl ?_
                              refine q_iadd C dX12_edit_278 (n := 279) rfl (v := x60 + u83) rfl ?_
                              refine q_aload_n C dX12_edit_279 (n := 280) rfl rfl ?_
                              refine q_getR C dX12_edit_280 (n := 283) rfl f_X12_13 (zM0 h0) (hF _ _ _ (zM2 h0)) ?_
                              refine q_iload C dX12_edit_283 (n := 285) rfl rfl ?_
                              have g114 := zI.at hI ((zM4 h0) u83)
                              refine q_bald C dX12_edit_285 (n := 286) rfl (zM3 h0) (by omega) (v := M (a + 1) u83) ((hK89.getA rfl rfl rfl).trans ((hK81.getA rfl rfl rfl).trans (hk7.getA rfl rfl rfl))) ?_
                              refine q_bast C dX12_edit_286 (n := 287) rfl (zM14 h0) (by omega) (by omega) (fun M115 e116 => ?_)
                              have hI117 : zI G M115 := hI87.put e116 ((zM15 h0) (x60 + u83)) rfl (by omega)
                              have hK118 := hK88.upA e116 rfl
                              have hK119 := hK89.upA e116 rfl
                              refine q_iinc C [.ref (w.2.1 + a), zi v1, zi v2, .null, .null, zi u36, .null, zi x60, .null, .null, .null, zi (u83 + 1)] dX12_edit_287 (n := 290) rfl rfl rfl rfl ?_
                              refine q_goto C 261 dX12_edit_290 rfl ?_
                              exact zK.weak (ih94 (u83 + 1) M115 J86 hI117 hK118 hK119 (by omega) (by omega) (by omega)) (zwk_c (zwk_c (zwk_c (zwk_n (zwk_n (zwk_c (zwk_n (zwk_c (zwk_n (zwk_n (zwk_n (zwk_c zwk_e))))))))))))
                        exact zK.weak (L_92 _ 0 M77 J78 hI79 hK80 (zMd.rf : zMd a [4] [] [] M77 M77) (by omega) (by omega) (Int.self_le_toNat _)) (zwk_c (zwk_c (zwk_c (zwk_n (zwk_n (zwk_c (zwk_n (zwk_c (zwk_n (zwk_n (zwk_n (zwk_c zwk_e))))))))))))
                      refine q_if_le C 221 dX12_edit_176 (n := 179) rfl rfl (by omega) (fun h120 => ?_) (fun h120 => ?_)
                      · refine q_iload C dX12_edit_221 (n := 223) rfl rfl ?_
                        refine q_iload C dX12_edit_223 (n := 225) rfl rfl ?_
                        refine q_iadd C dX12_edit_225 (n := 226) rfl (v := x60 + u72) rfl ?_
                        refine q_istore C [.ref (w.2.1 + a), zi v1, zi v2, .null, .null, zi u36, .null, zi x60, zi x68, zi u72, zi ((M3 a 3) - u72), zi (x60 + u72)] dX12_edit_226 (n := 228) rfl rfl rfl ?_
                        have L_131 : ∀ n132 : Nat, ∀ (u121 : Int) (M123 : zMm) (J124 : zJm), zI G M123 → zMd a [2, 4] [0, 2, 3, 9] [] M M123 → zMd a [4] [] [] M3 M123 → zMd a [4] [] [] M3 M123 → (-2147483648 ≤ u121 ∧ u121 ≤ 2147483647) → (x60 + u72 ≤ u121 ∧ u121 ≤ x68) → (1701 - u121 ≤ (n132 : Int)) → zK w p e 3 0 0 s m args below meth c 12 T Po 228 [.ref (w.2.1 + a), zi v1, zi v2, .null, .null, zi u36, .null, zi x60, zi x68, .null, zi ((M3 a 3) - u72), zi u121] [] (T, M123, J124, R) := by
                          intro n132
                          induction n132 with
                          | zero =>
                            intro u121 M123 J124 hI125 hK126 hK127 hK128 h129 h130 hm134
                            exfalso
                            omega
                          | succ n132 ih133 =>
                            intro u121 M123 J124 hI125 hK126 hK127 hK128 h129 h130 hm134
                            refine q_iload C dX12_edit_228 (n := 230) rfl rfl ?_
                            refine q_iload C dX12_edit_230 (n := 232) rfl rfl ?_
                            refine q_icmp_ge C 258 dX12_edit_232 (n := 235) rfl rfl (by omega) (fun h135 => ?_) (fun h135 => ?_)
                            · exact zK.weak (J_82 M123 J124 hI125 hK126 hK127) (zwk_c (zwk_c (zwk_c (zwk_n (zwk_n (zwk_c (zwk_n (zwk_c (zwk_n (zwk_n (zwk_n (zwk_n zwk_e))))))))))))
                            · refine q_aload_n C dX12_edit_235 (n := 236) rfl rfl ?_
                              refine q_getR C dX12_edit_236 (n := 239) rfl f_X12_24 (zM0 h0) (hF _ _ _ (zM13 h0)) ?_
                              refine q_iload C dX12_edit_239 (n := 241) rfl rfl ?_
                              refine q_iload C dX12_edit_241 (n := 243) rfl rfl ?_
                              refine q_iadd C dX12_edit_243 (n := 244) rfl (v := u121 + ((M3 a 3) - u72)) rfl ?_
                              refine q_aload_n C dX12_edit_244 (n := 245) rfl rfl ?_
                              refine q_getR C dX12_edit_245 (n := 248) rfl f_X12_24 (zM0 h0) (hF _ _ _ (zM13 h0)) ?_
                              refine q_iload C dX12_edit_248 (n := 250) rfl rfl ?_
                              have g136 := zI.at hI125 ((zM15 h0) u121)
                              refine q_bald C dX12_edit_250 (n := 251) rfl (zM14 h0) (by omega) (v := M123 (a + 4) u121) rfl ?_
                              refine q_bast C dX12_edit_251 (n := 252) rfl (zM14 h0) (by omega) (by omega) (fun M137 e138 => ?_)
                              have hI139 : zI G M137 := hI125.put e138 ((zM15 h0) (u121 + ((M3 a 3) - u72))) rfl (by omega)
                              have hK140 := hK126.upA e138 rfl
                              have hK141 := hK127.upA e138 rfl
                              have hK142 := hK128.upA e138 rfl
                              refine q_iinc C [.ref (w.2.1 + a), zi v1, zi v2, .null, .null, zi u36, .null, zi x60, zi x68, .null, zi ((M3 a 3) - u72), zi (u121 + 1)] dX12_edit_252 (n := 255) rfl rfl rfl rfl ?_
                              refine q_goto C 228 dX12_edit_255 rfl ?_
                              exact zK.weak (ih133 (u121 + 1) M137 J124 hI139 hK140 hK141 hK142 (by omega) (by omega) (by omega)) (zwk_c (zwk_c (zwk_c (zwk_n (zwk_n (zwk_c (zwk_n (zwk_c (zwk_c (zwk_n (zwk_c (zwk_c zwk_e))))))))))))
                        exact zK.weak (L_131 _ (x60 + u72) M3 J4 hI5 hK8 (zMd.rf : zMd a [4] [] [] M3 M3) (zMd.rf : zMd a [4] [] [] M3 M3) (by omega) (by omega) (Int.self_le_toNat _)) (zwk_c (zwk_c (zwk_c (zwk_n (zwk_n (zwk_c (zwk_n (zwk_c (zwk_c (zwk_n (zwk_c (zwk_c zwk_e))))))))))))
                      · refine q_iload C dX12_edit_179 (n := 181) rfl rfl ?_
                        refine q_iconst C dX12_edit_181 (n := 182) rfl ?_
                        refine q_isub C dX12_edit_182 (n := 183) rfl (v := x68 - 1) rfl ?_
                        refine q_istore C [.ref (w.2.1 + a), zi v1, zi v2, .null, .null, zi u36, .null, zi x60, zi x68, zi u72, zi ((M3 a 3) - u72), zi (x68 - 1)] dX12_edit_183 (n := 185) rfl rfl rfl ?_
                        have L_153 : ∀ n154 : Nat, ∀ (u143 : Int) (M145 : zMm) (J146 : zJm), zI G M145 → zMd a [2, 4] [0, 2, 3, 9] [] M M145 → zMd a [4] [] [] M3 M145 → zMd a [4] [] [] M3 M145 → (-2147483648 ≤ u143 ∧ u143 ≤ 2147483647) → (x60 + u72 - 1 ≤ u143 ∧ u143 ≤ x68 - 1) → (u143 + 2 ≤ (n154 : Int)) → zK w p e 3 0 0 s m args below meth c 12 T Po 185 [.ref (w.2.1 + a), zi v1, zi v2, .null, .null, zi u36, .null, zi x60, .null, zi u72, zi ((M3 a 3) - u72), zi u143] [] (T, M145, J146, R) := by
                          intro n154
                          induction n154 with
                          | zero =>
                            intro u143 M145 J146 hI147 hK148 hK149 hK150 h151 h152 hm156
                            exfalso
                            omega
                          | succ n154 ih155 =>
                            intro u143 M145 J146 hI147 hK148 hK149 hK150 h151 h152 hm156
                            refine q_iload C dX12_edit_185 (n := 187) rfl rfl ?_
                            refine q_iload C dX12_edit_187 (n := 189) rfl rfl ?_
                            refine q_iload C dX12_edit_189 (n := 191) rfl rfl ?_
                            refine q_iadd C dX12_edit_191 (n := 192) rfl (v := x60 + u72) rfl ?_
                            refine q_icmp_lt C 218 dX12_edit_192 (n := 195) rfl rfl (by omega) (fun h157 => ?_) (fun h157 => ?_)
                            · refine q_goto C 258 dX12_edit_218 rfl ?_
                              exact zK.weak (J_82 M145 J146 hI147 hK148 hK149) (zwk_c (zwk_c (zwk_c (zwk_n (zwk_n (zwk_c (zwk_n (zwk_c (zwk_n (zwk_n (zwk_n (zwk_n zwk_e))))))))))))
                            · refine q_aload_n C dX12_edit_195 (n := 196) rfl rfl ?_
                              refine q_getR C dX12_edit_196 (n := 199) rfl f_X12_24 (zM0 h0) (hF _ _ _ (zM13 h0)) ?_
                              refine q_iload C dX12_edit_199 (n := 201) rfl rfl ?_
                              refine q_iload C dX12_edit_201 (n := 203) rfl rfl ?_
                              refine q_iadd C dX12_edit_203 (n := 204) rfl (v := u143 + ((M3 a 3) - u72)) rfl ?_
                              refine q_aload_n C dX12_edit_204 (n := 205) rfl rfl ?_
                              refine q_getR C dX12_edit_205 (n := 208) rfl f_X12_24 (zM0 h0) (hF _ _ _ (zM13 h0)) ?_
                              refine q_iload C dX12_edit_208 (n := 210) rfl rfl ?_
                              have g158 := zI.at hI147 ((zM15 h0) u143)
                              refine q_bald C dX12_edit_210 (n := 211) rfl (zM14 h0) (by omega) (v := M145 (a + 4) u143) rfl ?_
                              refine q_bast C dX12_edit_211 (n := 212) rfl (zM14 h0) (by omega) (by omega) (fun M159 e160 => ?_)
                              have hI161 : zI G M159 := hI147.put e160 ((zM15 h0) (u143 + ((M3 a 3) - u72))) rfl (by omega)
                              have hK162 := hK148.upA e160 rfl
                              have hK163 := hK149.upA e160 rfl
                              have hK164 := hK150.upA e160 rfl
                              refine q_iinc C [.ref (w.2.1 + a), zi v1, zi v2, .null, .null, zi u36, .null, zi x60, .null, zi u72, zi ((M3 a 3) - u72), zi (u143 + (-1))] dX12_edit_212 (n := 215) rfl rfl rfl rfl ?_
                              refine q_goto C 185 dX12_edit_215 rfl ?_
                              exact zK.weak (ih155 (u143 + (-1)) M159 J146 hI161 hK162 hK163 hK164 (by omega) (by omega) (by omega)) (zwk_c (zwk_c (zwk_c (zwk_n (zwk_n (zwk_c (zwk_n (zwk_c (zwk_n (zwk_c (zwk_c (zwk_c zwk_e))))))))))))
                        exact zK.weak (L_153 _ (x68 - 1) M3 J4 hI5 hK8 (zMd.rf : zMd a [4] [] [] M3 M3) (zMd.rf : zMd a [4] [] [] M3 M3) (by omega) (by omega) (Int.self_le_toNat _)) (zwk_c (zwk_c (zwk_c (zwk_n (zwk_n (zwk_c (zwk_n (zwk_c (zwk_n (zwk_c (zwk_c (zwk_c zwk_e))))))))))))
                    refine q_icmp_ge C 162 dX12_edit_150 (n := 153) rfl rfl (by omega) (fun h165 => ?_) (fun h165 => ?_)
                    · refine q_iconst C dX12_edit_162 (n := 163) rfl ?_
                      exact zK.weak (J_75 0 (by omega) (by omega)) (zwk_c (zwk_c (zwk_c (zwk_n (zwk_n (zwk_c (zwk_n (zwk_c (zwk_c (zwk_n (zwk_n (zwk_n zwk_e))))))))))))
                    · refine q_aload_n C dX12_edit_153 (n := 154) rfl rfl ?_
                      refine q_iload_n C dX12_edit_154 (n := 155) rfl rfl ?_
                      refine q_iload_n C dX12_edit_155 (n := 156) rfl rfl ?_
                      refine q_callVp C dX12_edit_156 (n := 159) rfl m_X12_289 v_yX12_lengthOf (zM0 h0) ⟨by decide, rfl⟩ (c_X12_lengthOf (w := w) (J := J4) hI5 hF h0 v1 v2 (by omega) (by omega)) (Nat.le_of_ble_eq_true rfl) rfl rfl (Nat.le_of_ble_eq_true rfl) ⟨Nat.le_refl _, Nat.le_refl _⟩ (fun x168 h169 => ?_)
                      obtain ⟨h166, h167⟩ := h169
                      have hz170 : M3 (a + 2) (8 + 40 * v1 + v2) = M (a + 2) (8 + 40 * v1 + v2) := (hk7.getA rfl rfl rfl)
                      refine q_goto C 163 dX12_edit_159 rfl ?_
                      exact zK.weak (J_75 x168 (by omega) (by omega)) (zwk_c (zwk_c (zwk_c (zwk_n (zwk_n (zwk_c (zwk_n (zwk_c (zwk_c (zwk_n (zwk_n (zwk_n zwk_e))))))))))))
                  · refine q_bipush C dX12_edit_127 (n := 129) rfl (x := (-3)) (by decide) ?_
                    have hp171 : zFi M3 a := p1.cg (fun j => (hk7.getA rfl rfl rfl))
                    exact q_iret C dX12_edit_129 ⟨rfl, rfl⟩ (by rw [hPo]; exact ⟨(-3), M3, J4, rfl, rfl, hI5, hK8, hp171, by omega⟩)
              · have gz1 := zSum_s (g := M (a + 2)) (b := 8 + 40 * v1) (i := u42) (by omega)
                have gle := zFi.le p1 hI h0 (k := v1) (l := u42) (by omega) (by omega)
                have gl : ¬ (u42 : Int) = v2 ∨ M (a + 2) (8 + 40 * v1 + u42) = M (a + 2) (8 + 40 * v1 + v2) := (Decidable.em ((u42 : Int) = v2)).symm.imp id (fun h => by rw [h])
                refine q_iload C dX12_edit_86 (n := 88) rfl rfl ?_
                refine q_iload_n C dX12_edit_88 (n := 89) rfl rfl ?_
                have J_175 : ∀ (u172 : Int), (-2147483648 ≤ u172 ∧ u172 ≤ 2147483647) → ((u42 + 1) ≤ v2 ∧ u172 = M a 2 + 1 + zSum (M (a + 2)) (8 + 40 * v1) ((u42 + 1) : Int).toNat + (u42 + 1) ∨ v2 < (u42 + 1) ∧ u172 = M a 2 + zSum (M (a + 2)) (8 + 40 * v1) ((u42 + 1) : Int).toNat + (u42 + 1) - M (a + 2) (8 + 40 * v1 + v2)) → zK w p e 3 0 0 s m args below meth c 12 T Po 106 [.ref (w.2.1 + a), zi v1, zi v2, .null, zi x33, zi u36, zi u172, zi u42, .null, .null, .null, .null] [] (T, M3, J4, R) := by
                  intro u172 h173 h174
                  refine q_iinc C [.ref (w.2.1 + a), zi v1, zi v2, .null, zi x33, zi u36, zi u172, zi (u42 + 1), .null, .null, .null, .null] dX12_edit_106 (n := 109) rfl rfl rfl rfl ?_
                  refine q_goto C 79 dX12_edit_109 rfl ?_
                  exact zK.weak (ih49 u172 (u42 + 1) (by omega) (by omega) (by omega) (by omega) (by omega)) (zwk_c (zwk_c (zwk_c (zwk_n (zwk_c (zwk_c (zwk_c (zwk_c (zwk_n (zwk_n (zwk_n (zwk_n zwk_e))))))))))))
                refine q_icmp_eq C 106 dX12_edit_89 (n := 92) rfl rfl (by omega) (fun h176 => ?_) (fun h176 => ?_)
                · exact zK.weak (J_175 u41 (by omega) (by omega)) (zwk_c (zwk_c (zwk_c (zwk_n (zwk_c (zwk_c (zwk_c (zwk_c (zwk_n (zwk_n (zwk_n (zwk_n zwk_e))))))))))))
                · refine q_iload C dX12_edit_92 (n := 94) rfl rfl ?_
                  refine q_aload_n C dX12_edit_94 (n := 95) rfl rfl ?_
                  refine q_iload_n C dX12_edit_95 (n := 96) rfl rfl ?_
                  refine q_iload C dX12_edit_96 (n := 98) rfl rfl ?_
                  refine q_callVp C dX12_edit_98 (n := 101) rfl m_X12_289 v_yX12_lengthOf (zM0 h0) ⟨by decide, rfl⟩ (c_X12_lengthOf (w := w) (J := J4) hI5 hF h0 v1 u42 (by omega) (by omega)) (Nat.le_of_ble_eq_true rfl) rfl rfl (Nat.le_of_ble_eq_true rfl) ⟨Nat.le_refl _, Nat.le_refl _⟩ (fun x179 h180 => ?_)
                  obtain ⟨h177, h178⟩ := h180
                  have hz181 : M3 (a + 2) (8 + 40 * v1 + u42) = M (a + 2) (8 + 40 * v1 + u42) := (hk7.getA rfl rfl rfl)
                  refine q_iconst C dX12_edit_101 (n := 102) rfl ?_
                  refine q_iadd C dX12_edit_102 (n := 103) rfl (v := x179 + 1) rfl ?_
                  refine q_iadd C dX12_edit_103 (n := 104) rfl (v := u41 + (x179 + 1)) rfl ?_
                  refine q_istore C [.ref (w.2.1 + a), zi v1, zi v2, .null, zi x33, zi u36, zi (u41 + (x179 + 1)), zi u42, .null, .null, .null, .null] dX12_edit_104 (n := 106) rfl rfl rfl ?_
                  exact zK.weak (J_175 (u41 + (x179 + 1)) (by omega) (by omega)) (zwk_c (zwk_c (zwk_c (zwk_n (zwk_c (zwk_c (zwk_c (zwk_c (zwk_n (zwk_n (zwk_n (zwk_n zwk_e))))))))))))
          exact zK.weak (L_47 _ ((M3 a 3) + 1) 0 (by omega) (by omega) (by omega) (by omega) (Int.self_le_toNat _)) (zwk_c (zwk_c (zwk_c (zwk_n (zwk_c (zwk_c (zwk_c (zwk_c (zwk_n (zwk_n (zwk_n (zwk_n zwk_e))))))))))))
        refine q_icmp_ne C 64 dX12_edit_54 (n := 57) rfl rfl (by omega) (fun h182 => ?_) (fun h182 => ?_)
        · refine q_iload C dX12_edit_64 (n := 66) rfl rfl ?_
          exact zK.weak (J_39 x33 (by omega) (by omega)) (zwk_c (zwk_c (zwk_c (zwk_n (zwk_c (zwk_n (zwk_n (zwk_n (zwk_n (zwk_n (zwk_n (zwk_n zwk_e))))))))))))
        · refine q_iload C dX12_edit_57 (n := 59) rfl rfl ?_
          refine q_iconst C dX12_edit_59 (n := 60) rfl ?_
          refine q_iadd C dX12_edit_60 (n := 61) rfl (v := x33 + 1) rfl ?_
          refine q_goto C 66 dX12_edit_61 rfl ?_
          exact zK.weak (J_39 (x33 + 1) (by omega) (by omega)) (zwk_c (zwk_c (zwk_c (zwk_n (zwk_c (zwk_n (zwk_n (zwk_n (zwk_n (zwk_n (zwk_n (zwk_n zwk_e))))))))))))
      · refine q_sipush C dX12_edit_38 (n := 41) rfl (x := (-1000)) (by decide) ?_
        refine q_iload_n C dX12_edit_41 (n := 42) rfl rfl ?_
        refine q_isub C dX12_edit_42 (n := 43) rfl (v := (-1000) - x28) rfl ?_
        have hp183 : zFi M3 a := p1.cg (fun j => (hk7.getA rfl rfl rfl))
        exact q_iret C dX12_edit_43 ⟨rfl, rfl⟩ (by rw [hPo]; exact ⟨(-1000) - x28, M3, J4, rfl, rfl, hI5, hK8, hp183, by omega⟩)
    · refine q_bipush C dX12_edit_25 (n := 27) rfl (x := (-2)) (by decide) ?_
      have hp184 : zFi M3 a := p1.cg (fun j => (hk7.getA rfl rfl rfl))
      exact q_iret C dX12_edit_27 ⟨rfl, rfl⟩ (by rw [hPo]; exact ⟨(-2), M3, J4, rfl, rfl, hI5, hK8, hp184, by omega⟩)
