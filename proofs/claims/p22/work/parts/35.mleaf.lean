theorem zSum_s {g : Int → Int} {b i : Int} (h : 0 ≤ i) : zSum g b (i + 1).toNat = zSum g b i.toNat + g (b + i) := by
  have e : (i + 1).toNat = i.toNat + 1 := by omega
  rw [e]
  show zSum g b i.toNat + g (b + (i.toNat : Nat)) = _
  rw [show ((i.toNat : Nat) : Int) = i by omega]
theorem zSum_0 {g : Int → Int} {b : Int} : zSum g b (0 : Int).toNat = 0 := rfl
theorem zSum_mo {g : Int → Int} {b : Int} : ∀ (n m : Nat), (∀ j : Nat, j < n + m → 0 ≤ g (b + j)) → zSum g b n ≤ zSum g b (n + m)
  | n, 0, _ => Int.le_refl _
  | n, m + 1, h => by
    have h1 := zSum_mo (g := g) (b := b) n m (fun j hj => h j (by omega))
    have h2 := h (n + m) (by omega)
    have e : zSum g b (n + (m + 1)) = zSum g b (n + m) + g (b + ((n + m : Nat) : Int)) := rfl
    rw [e]
    have e2 : ((n + m : Nat) : Int) = (n : Int) + (m : Int) := by omega
    rw [e2] at h2 ⊢
    omega
def zFi (M : zMm) (a : Nat) : Prop := ∀ k, 0 ≤ k → k ≤ 3 → zSum (M (a + 2)) (8 + 40 * k) (M (a + 2) (4 + k)).toNat ≤ 400
theorem zFi.cg {M M2 : zMm} {a : Nat} (h : zFi M a) (e : ∀ j, M2 (a + 2) j = M (a + 2) j) : zFi M2 a := by
  have : M2 (a + 2) = M (a + 2) := funext e
  intro k k0 k3
  rw [this]
  exact h k k0 k3
theorem zFi.le {T : zTl} {F : zRm'} {G : zGt} {M : zMm} {a : Nat} {k l : Int} (h : zFi M a) (hI : zI G M) (h0 : zModel T F G a) (hk : 0 ≤ k ∧ k ≤ 3) (hl : 0 ≤ l ∧ l ≤ M (a + 2) (4 + k)) : 0 ≤ zSum (M (a + 2)) (8 + 40 * k) l.toNat ∧ zSum (M (a + 2)) (8 + 40 * k) l.toNat ≤ 400 ∧ (M (a + 2) (4 + k) ≤ l ∨ zSum (M (a + 2)) (8 + 40 * k) l.toNat + M (a + 2) (8 + 40 * k + l) ≤ 400) := by
  have hs := h k hk.1 hk.2
  have hn := zI.at hI ((zM9 h0 (4 + k)).trans (zfG_4 (by omega)))
  have hp : ∀ j : Nat, j < 40 → 0 ≤ M (a + 2) (8 + 40 * k + j) := fun j hj => (zI.at hI ((zM9 h0 (8 + 40 * k + j)).trans (zfG_8 (by omega)))).1
  have z0 := zSum_mo (g := M (a + 2)) (b := 8 + 40 * k) 0 l.toNat (fun j hj => hp j (by omega))
  rw [Nat.zero_add] at z0
  have e : (M (a + 2) (4 + k)).toNat = l.toNat + ((M (a + 2) (4 + k)).toNat - l.toNat) := by omega
  have z1 := zSum_mo (g := M (a + 2)) (b := 8 + 40 * k) l.toNat ((M (a + 2) (4 + k)).toNat - l.toNat) (fun j hj => hp j (by omega))
  rw [← e] at z1
  refine ⟨z0, by omega, ?_⟩
  by_cases hq : M (a + 2) (4 + k) ≤ l
  · exact Or.inl hq
  · refine Or.inr ?_
    have z2 := zSum_mo (g := M (a + 2)) (b := 8 + 40 * k) (l + 1).toNat ((M (a + 2) (4 + k)).toNat - (l + 1).toNat) (fun j hj => hp j (by omega))
    rw [show (l + 1).toNat + ((M (a + 2) (4 + k)).toNat - (l + 1).toNat) = (M (a + 2) (4 + k)).toNat by omega, zSum_s hl.1] at z2
    omega
def zOg (M : zMm) (a : Nat) (og lg : Int → Int) : Prop := ∀ t, t < 440 → M (a + 10) t = og t ∧ M (a + 11) t = lg t
theorem zOg.cg {M M2 : zMm} {a : Nat} {og lg : Int → Int} (h : zOg M a og lg) (e : ∀ j, M2 (a + 10) j = M (a + 10) j) (e2 : ∀ j, M2 (a + 11) j = M (a + 11) j) : zOg M2 a og lg := fun t ht => by
  rw [e, e2]
  exact h t ht
theorem zOg.up0 {M M2 : zMm} {a : Nat} {og lg : Int → Int} {i x : Int} (h : zOg M a og lg) (e : M2 = zup M (a + 10) i x) (hi : 440 ≤ i) : zOg M2 a og lg := fun t ht => by
  rw [zup_n e (by omega), zup_n e (by omega)]
  exact h t ht
theorem zOg.up1 {M M2 : zMm} {a : Nat} {og lg : Int → Int} {i x : Int} (h : zOg M a og lg) (e : M2 = zup M (a + 11) i x) (hi : 440 ≤ i) : zOg M2 a og lg := fun t ht => by
  rw [zup_n e (by omega), zup_n e (by omega)]
  exact h t ht
def zLt (M : zMm) (a : Nat) (n i : Int) : Prop := ∀ t, 0 ≤ t → t < n → 0 ≤ M (a + 10) t ∧ 1 ≤ M (a + 11) t ∧ M (a + 10) t + M (a + 11) t ≤ i ∧ (t + 1 < n → M (a + 10) t + M (a + 11) t ≤ M (a + 10) (t + 1))
theorem zLt.cg {M M2 : zMm} {a : Nat} {n i : Int} (h : zLt M a n i) (e : ∀ j, M2 (a + 10) j = M (a + 10) j) (e2 : ∀ j, M2 (a + 11) j = M (a + 11) j) : zLt M2 a n i := fun t t0 t1 => by
  rw [e, e2, e]
  exact h t t0 t1
theorem zLt.le {M : zMm} {a : Nat} {n i i2 : Int} (h : zLt M a n i) (hi : i ≤ i2) : zLt M a n i2 := fun t t0 t1 => by
  obtain ⟨h1, h2, h3, h4⟩ := h t t0 t1
  exact ⟨h1, h2, by omega, h4⟩
theorem zLt.add {M M1 M2 : zMm} {a : Nat} {n i x : Int} (h : zLt M a n i) (n0 : 0 ≤ n) (i0 : 0 ≤ i) (x1 : 1 ≤ x) (e1 : M1 = zup M (a + 10) n i) (e2 : M2 = zup M1 (a + 11) n x) : zLt M2 a (n + 1) (i + x) := fun t t0 t1 => by
  by_cases q : t = n
  · subst q
    have g0 : M2 (a + 10) t = i := (zup_p e2 (by omega) _).trans (zup_s e1)
    have g1 : M2 (a + 11) t = x := zup_s e2
    rw [g0, g1]
    exact ⟨i0, x1, Int.le_refl _, fun q => by omega⟩
  · obtain ⟨h1, h2, h3, h4⟩ := h t t0 (by omega)
    have g0 : M2 (a + 10) t = M (a + 10) t := (zup_p e2 (by omega) _).trans (zup_n e1 (by omega))
    have g1 : M2 (a + 11) t = M (a + 11) t := (zup_n e2 (by omega)).trans (zup_p e1 (by omega) _)
    rw [g0, g1]
    refine ⟨h1, h2, by omega, fun q2 => ?_⟩
    by_cases q3 : t + 1 = n
    · rw [q3]
      have g3 : M2 (a + 10) n = i := (zup_p e2 (by omega) _).trans (zup_s e1)
      rw [g3]
      exact h3
    · have g3 : M2 (a + 10) (t + 1) = M (a + 10) (t + 1) := (zup_p e2 (by omega) _).trans (zup_n e1 (by omega))
      rw [g3]
      exact h4 (by omega)
theorem zLt.zero {M : zMm} {a : Nat} {i : Int} : zLt M a 0 i := fun t t0 t1 => by omega
theorem c_X12_throwsIf {w : zWp} {T : zTl} {M : zMm} {J : zJm} {R : zRm'} {G : zGt} {F : zRm'} {a : Nat} (hI : zI G M) (hF : zF F R) (h0 : zModel T F G a) (v1 : Int) (p1 : v1 = 0 ∨ v1 = 1) : zCt w 1 0 0 yX12_throwsIf cX12_throwsIf 2 (some .boolean) [.ref (w.2.1 + a), zi v1] (T, M, J, R) (zPi T R G (fun x M2 => (zMd a [] [0] [] M M2) ∧ (x = 0 ∨ x = 1) ∧ (x = v1))) := by
  refine zCt.of rfl (Nat.le_of_ble_eq_true rfl) ?_
  intro p e s m args below meth c C
  obtain ⟨Po, hPo⟩ : ∃ Po, Po = zPi T R G (fun x M2 => (zMd a [] [0] [] M M2) ∧ (x = 0 ∨ x = 1) ∧ (x = v1)) := ⟨_, rfl⟩
  rw [← hPo]
  have hK0 : zMd a [] [0] [] M M := zMd.rf
  show zK w p e 1 0 0 s m args below meth c 2 T Po 0 [.ref (w.2.1 + a), zi v1] [] (T, M, J, R)
  refine q_aload_n C dX12_throwsIf_0 (n := 1) rfl rfl ?_
  refine q_iload_n C dX12_throwsIf_1 (n := 2) rfl rfl ?_
  refine q_if_eq C 9 dX12_throwsIf_2 (n := 5) rfl rfl (by omega) (fun h1 => ?_) (fun h1 => ?_)
  · refine q_iconst C dX12_throwsIf_9 (n := 10) rfl ?_
    refine q_putI C dX12_throwsIf_10 (n := 13) rfl f_X12_1 (zM0 h0) ⟨rfl, rfl⟩ (fun M2 (e3 : M2 = zup M a 0 0) => ?_)
    have hI4 : zI G M2 := hI.put e3 (zM1 h0) rfl (by omega)
    have hK5 := hK0.upS e3 rfl
    refine q_iload_n C dX12_throwsIf_13 (n := 14) rfl rfl ?_
    exact q_zret C dX12_throwsIf_14 ⟨rfl, rfl⟩ (by omega) (by rw [hPo]; exact ⟨v1, M2, J, rfl, rfl, hI4, hK5, by omega, by omega⟩)
  · refine q_iconst C dX12_throwsIf_5 (n := 6) rfl ?_
    refine q_goto C 10 dX12_throwsIf_6 rfl ?_
    refine q_putI C dX12_throwsIf_10 (n := 13) rfl f_X12_1 (zM0 h0) ⟨rfl, rfl⟩ (fun M6 (e7 : M6 = zup M a 0 1) => ?_)
    have hI8 : zI G M6 := hI.put e7 (zM1 h0) rfl (by omega)
    have hK9 := hK0.upS e7 rfl
    refine q_iload_n C dX12_throwsIf_13 (n := 14) rfl rfl ?_
    exact q_zret C dX12_throwsIf_14 ⟨rfl, rfl⟩ (by omega) (by rw [hPo]; exact ⟨v1, M6, J, rfl, rfl, hI8, hK9, by omega, by omega⟩)
theorem c_X12_four {w : zWp} {T : zTl} {M : zMm} {J : zJm} {R : zRm'} {G : zGt} {F : zRm'} {a : Nat} (hI : zI G M) (hF : zF F R) (h0 : zModel T F G a) (v1 : Int) (p1 : M a 2 ≤ 436) : zCt w 1 0 0 yX12_four cX12_four 3 none [.ref (w.2.1 + a), zi v1] (T, M, J, R) (zPv T R G (fun M2 => (zMd a [1] [2] [] M M2) ∧ (M2 a 2 = M a 2 + 4) ∧ (zFz M M2 (a + 1) (M a 2) v1 4))) := by
  refine zCt.of rfl (Nat.le_of_ble_eq_true rfl) ?_
  intro p e s m args below meth c C
  obtain ⟨Po, hPo⟩ : ∃ Po, Po = zPv T R G (fun M2 => (zMd a [1] [2] [] M M2) ∧ (M2 a 2 = M a 2 + 4) ∧ (zFz M M2 (a + 1) (M a 2) v1 4)) := ⟨_, rfl⟩
  rw [← hPo]
  have hK0 : zMd a [1] [2] [] M M := zMd.rf
  show zK w p e 1 0 0 s m args below meth c 3 T Po 0 [.ref (w.2.1 + a), zi v1, .null] [] (T, M, J, R)
  refine q_bipush C dX12_four_0 (n := 2) rfl (x := 24) (by decide) ?_
  refine q_istore_n C [.ref (w.2.1 + a), zi v1, zi 24] dX12_four_2 (n := 3) rfl rfl rfl ?_
  have L_12 : ∀ n13 : Nat, ∀ (u1 : Int) (M3 : zMm) (J4 : zJm), zI G M3 → zMd a [1] [2] [] M M3 → zMd a [1] [2] [] M M3 → (-2147483648 ≤ u1 ∧ u1 ≤ 2147483647) → (-8 ≤ u1 ∧ u1 ≤ 24) → (8 * (M3 a 2) + u1 = 8 * (M a 2) + 24) → (zFz M M3 (a + 1) (M a 2) v1 (M3 a 2 - M a 2)) → (u1 + 9 ≤ (n13 : Int)) → zK w p e 1 0 0 s m args below meth c 3 T Po 3 [.ref (w.2.1 + a), zi v1, zi u1] [] (T, M3, J4, R) := by
    intro n13
    induction n13 with
    | zero =>
      intro u1 M3 J4 hI5 hK6 hK7 h8 h9 h10 h11 hm15
      exfalso
      omega
    | succ n13 ih14 =>
      intro u1 M3 J4 hI5 hK6 hK7 h8 h9 h10 h11 hm15
      refine q_iload_n C dX12_four_3 (n := 4) rfl rfl ?_
      refine q_if_lt C 36 dX12_four_4 (n := 7) rfl rfl (by omega) (fun h16 => ?_) (fun h16 => ?_)
      · exact q_vret C dX12_four_36 ⟨rfl, rfl⟩ (by rw [hPo]; exact ⟨M3, J4, rfl, rfl, hI5, hK6, by omega, (zFz.cg h11 (fun _ => rfl) (by omega))⟩)
      · refine q_aload_n C dX12_four_7 (n := 8) rfl rfl ?_
        refine q_getR C dX12_four_8 (n := 11) rfl f_X12_13 (zM0 h0) (hF _ _ _ (zM2 h0)) ?_
        refine q_aload_n C dX12_four_11 (n := 12) rfl rfl ?_
        have g17 := zI.at hI5 (zM5 h0)
        refine q_getI C dX12_four_12 (n := 15) rfl f_X12_267 (zM0 h0) (v := M3 a 2) rfl ?_
        refine q_iload_n C dX12_four_15 (n := 16) rfl rfl ?_
        refine q_iload_n C dX12_four_16 (n := 17) rfl rfl ?_
        refine q_ishr C dX12_four_17 (n := 18) rfl (v := zshr v1 u1) rfl ?_
        have g18 := zr_shr v1 u1
        refine q_i2b C dX12_four_18 (n := 19) rfl (v := zi2b (zshr v1 u1)) rfl ?_
        have g19 := z8_r (zshr v1 u1)
        refine q_bast C dX12_four_19 (n := 20) rfl (zM3 h0) (by omega) (by omega) (fun M20 e21 => ?_)
        have hI22 : zI G M20 := hI5.put e21 ((zM4 h0) (M3 a 2)) rfl (by omega)
        have hK23 := hK6.upA e21 rfl
        have hK24 := hK7.upA e21 rfl
        refine q_aload_n C dX12_four_20 (n := 21) rfl rfl ?_
        refine q_dup C dX12_four_21 (n := 22) rfl rfl ?_
        refine q_getI C dX12_four_22 (n := 25) rfl f_X12_267 (zM0 h0) (v := M3 a 2) (zup_p e21 (by omega) _) ?_
        refine q_iconst C dX12_four_25 (n := 26) rfl ?_
        refine q_iadd C dX12_four_26 (n := 27) rfl (v := (M3 a 2) + 1) rfl ?_
        refine q_putI C dX12_four_27 (n := 30) rfl f_X12_267 (zM0 h0) ⟨rfl, rfl⟩ (fun M25 (e26 : M25 = zup M20 a 2 ((M3 a 2) + 1)) => ?_)
        have hI27 : zI G M25 := hI22.put e26 (zM5 h0) rfl (by omega)
        have hK28 := hK23.upS e26 rfl
        have hK29 := hK24.upS e26 rfl
        refine q_iinc C [.ref (w.2.1 + a), zi v1, zi (u1 + (-8))] dX12_four_30 (n := 33) rfl rfl rfl rfl ?_
        refine q_goto C 3 dX12_four_33 rfl ?_
        exact zK.weak (ih14 (u1 + (-8)) M25 J4 hI27 hK28 hK29 (by omega) (by omega) (by have hz30 : M25 a 2 = (M3 a 2) + 1 := (zup_s e26); omega) (zFz.cg (zFz.put h11 e21 (by omega) (by unfold zby; congr 2; omega) (by omega)) (fun j => zup_p e26 (by omega) j) (by have hz : M25 a 2 = (M3 a 2) + 1 := (zup_s e26); omega)) (by omega)) (zwk_c (zwk_c (zwk_c zwk_e)))
  exact zK.weak (L_12 _ 24 M J hI hK0 (zMd.rf : zMd a [1] [2] [] M M) (by omega) (by omega) (by omega) (zFz.nil (by omega)) (Int.self_le_toNat _)) (zwk_c (zwk_c (zwk_c zwk_e)))
theorem c_X12_feed {w : zWp} {T : zTl} {M : zMm} {J : zJm} {R : zRm'} {G : zGt} {F : zRm'} {a : Nat} (hI : zI G M) (hF : zF F R) (h0 : zModel T F G a) (v1 : Int) (v2 : Int) (v3 : Int) (v4 : Int) (v5 : Int) : zCt w 2 0 0 yX12_feed cX12_feed 6 (some .int) [.ref (w.2.1 + a), zi v1, zi v2, zi v3, zi v4, zi v5] (T, M, J, R) (zPi T R G (fun x M2 => (zMd a [1] [0, 2] [] M M2) ∧ (440 < M a 2 + 20 → ∀ j : Int, M2 (a + 1) j = M (a + 1) j) ∧ (M a 2 + 20 ≤ 440 → zFe M M2 (a + 1) (M a 2) v1 v2 v3 v4 v5) ∧ (440 < M a 2 + 20 ∧ x = -1 ∧ M2 a 2 = M a 2 ∨ M a 2 + 20 ≤ 440 ∧ x = M a 2 + 20 ∧ M2 a 2 = M a 2 + 20))) := by
  refine zCt.of rfl (Nat.le_of_ble_eq_true rfl) ?_
  intro p e s m args below meth c C
  obtain ⟨Po, hPo⟩ : ∃ Po, Po = zPi T R G (fun x M2 => (zMd a [1] [0, 2] [] M M2) ∧ (440 < M a 2 + 20 → ∀ j : Int, M2 (a + 1) j = M (a + 1) j) ∧ (M a 2 + 20 ≤ 440 → zFe M M2 (a + 1) (M a 2) v1 v2 v3 v4 v5) ∧ (440 < M a 2 + 20 ∧ x = -1 ∧ M2 a 2 = M a 2 ∨ M a 2 + 20 ≤ 440 ∧ x = M a 2 + 20 ∧ M2 a 2 = M a 2 + 20)) := ⟨_, rfl⟩
  rw [← hPo]
  have hK0 : zMd a [1] [0, 2] [] M M := zMd.rf
  show zK w p e 2 0 0 s m args below meth c 6 T Po 0 [.ref (w.2.1 + a), zi v1, zi v2, zi v3, zi v4, zi v5] [] (T, M, J, R)
  refine q_aload_n C dX12_feed_0 (n := 1) rfl rfl ?_
  refine q_iconst C dX12_feed_1 (n := 2) rfl ?_
  refine q_putI C dX12_feed_2 (n := 5) rfl f_X12_1 (zM0 h0) ⟨rfl, rfl⟩ (fun M1 (e2 : M1 = zup M a 0 0) => ?_)
  have hI3 : zI G M1 := hI.put e2 (zM1 h0) rfl (by omega)
  have hK4 := hK0.upS e2 rfl
  refine q_aload_n C dX12_feed_5 (n := 6) rfl rfl ?_
  have g5 := zI.at hI (zM5 h0)
  refine q_getI C dX12_feed_6 (n := 9) rfl f_X12_267 (zM0 h0) (v := M a 2) (zup_n e2 (by omega)) ?_
  refine q_bipush C dX12_feed_9 (n := 11) rfl (x := 20) (by decide) ?_
  refine q_iadd C dX12_feed_11 (n := 12) rfl (v := (M a 2) + 20) rfl ?_
  refine q_sipush C dX12_feed_12 (n := 15) rfl (x := 440) (by decide) ?_
  refine q_icmp_le C 20 dX12_feed_15 (n := 18) rfl rfl (by omega) (fun h6 => ?_) (fun h6 => ?_)
  · refine q_aload_n C dX12_feed_20 (n := 21) rfl rfl ?_
    refine q_iload_n C dX12_feed_21 (n := 22) rfl rfl ?_
    refine q_callVv C dX12_feed_22 (n := 25) rfl m_X12_270 v_yX12_four (zM0 h0) ⟨by decide, rfl⟩ (c_X12_four (w := w) (J := J) hI3 hF h0 v1 (by have hz7 : M1 a 2 = M a 2 := (zup_n e2 (by omega)); omega)) (Nat.le_of_ble_eq_true rfl) rfl rfl (Nat.le_of_ble_eq_true rfl) ⟨Nat.le_refl _, Nat.le_refl _⟩ (fun M10 J11  hI12 h13 => ?_)
    obtain ⟨hk14, h8, h9⟩ := h13
    have hK15 := hK4.tr hk14 rfl rfl rfl
    have hz16 : M1 a 2 = M a 2 := (zup_n e2 (by omega))
    refine q_aload_n C dX12_feed_25 (n := 26) rfl rfl ?_
    refine q_iload_n C dX12_feed_26 (n := 27) rfl rfl ?_
    refine q_callVv C dX12_feed_27 (n := 30) rfl m_X12_270 v_yX12_four (zM0 h0) ⟨by decide, rfl⟩ (c_X12_four (w := w) (J := J11) hI12 hF h0 v2 (by omega)) (Nat.le_of_ble_eq_true rfl) rfl rfl (Nat.le_of_ble_eq_true rfl) ⟨Nat.le_refl _, Nat.le_refl _⟩ (fun M19 J20  hI21 h22 => ?_)
    obtain ⟨hk23, h17, h18⟩ := h22
    have hK24 := hK15.tr hk23 rfl rfl rfl
    refine q_aload_n C dX12_feed_30 (n := 31) rfl rfl ?_
    refine q_iload_n C dX12_feed_31 (n := 32) rfl rfl ?_
    refine q_callVv C dX12_feed_32 (n := 35) rfl m_X12_270 v_yX12_four (zM0 h0) ⟨by decide, rfl⟩ (c_X12_four (w := w) (J := J20) hI21 hF h0 v3 (by omega)) (Nat.le_of_ble_eq_true rfl) rfl rfl (Nat.le_of_ble_eq_true rfl) ⟨Nat.le_refl _, Nat.le_refl _⟩ (fun M27 J28  hI29 h30 => ?_)
    obtain ⟨hk31, h25, h26⟩ := h30
    have hK32 := hK24.tr hk31 rfl rfl rfl
    refine q_aload_n C dX12_feed_35 (n := 36) rfl rfl ?_
    refine q_iload C dX12_feed_36 (n := 38) rfl rfl ?_
    refine q_callVv C dX12_feed_38 (n := 41) rfl m_X12_270 v_yX12_four (zM0 h0) ⟨by decide, rfl⟩ (c_X12_four (w := w) (J := J28) hI29 hF h0 v4 (by omega)) (Nat.le_of_ble_eq_true rfl) rfl rfl (Nat.le_of_ble_eq_true rfl) ⟨Nat.le_refl _, Nat.le_refl _⟩ (fun M35 J36  hI37 h38 => ?_)
    obtain ⟨hk39, h33, h34⟩ := h38
    have hK40 := hK32.tr hk39 rfl rfl rfl
    refine q_aload_n C dX12_feed_41 (n := 42) rfl rfl ?_
    refine q_iload C dX12_feed_42 (n := 44) rfl rfl ?_
    refine q_callVv C dX12_feed_44 (n := 47) rfl m_X12_270 v_yX12_four (zM0 h0) ⟨by decide, rfl⟩ (c_X12_four (w := w) (J := J36) hI37 hF h0 v5 (by omega)) (Nat.le_of_ble_eq_true rfl) rfl rfl (Nat.le_of_ble_eq_true rfl) ⟨Nat.le_refl _, Nat.le_refl _⟩ (fun M43 J44  hI45 h46 => ?_)
    obtain ⟨hk47, h41, h42⟩ := h46
    have hK48 := hK40.tr hk47 rfl rfl rfl
    refine q_aload_n C dX12_feed_47 (n := 48) rfl rfl ?_
    have g49 := zI.at hI45 (zM5 h0)
    refine q_getI C dX12_feed_48 (n := 51) rfl f_X12_267 (zM0 h0) (v := M43 a 2) rfl ?_
    exact q_iret C dX12_feed_51 ⟨rfl, rfl⟩ (by rw [hPo]; exact ⟨M43 a 2, M43, J44, rfl, rfl, hI45, hK48, (fun h => absurd h (by omega)), (fun _ => zFe.of (zFz.b0 h9 (fun j => zup_p e2 (by omega) j) (by have hz : M1 a 2 = M a 2 := (zup_n e2 (by omega)); omega)) h18 h26 h34 h42 (by omega) (by omega) (by omega) (by omega)), by omega⟩)
  · refine q_iconst C dX12_feed_18 (n := 19) rfl ?_
    exact q_iret C dX12_feed_19 ⟨rfl, rfl⟩ (by rw [hPo]; exact ⟨(-1), M1, J, rfl, rfl, hI3, hK4, (fun _ j => (zup_p e2 (by omega) _)), (fun h => absurd h (by have hz : M1 a 2 = M a 2 := (zup_n e2 (by omega)); omega)), by have hz50 : M1 a 2 = M a 2 := (zup_n e2 (by omega)); omega⟩)
theorem c_X12_end {w : zWp} {T : zTl} {M : zMm} {J : zJm} {R : zRm'} {G : zGt} {F : zRm'} {a : Nat} (hI : zI G M) (hF : zF F R) (h0 : zModel T F G a) (v1 : Int) (p1 : -2147483648 ≤ v1 ∧ v1 ≤ 2147483647) : zCt w 1 0 0 yX12_end cX12_end 2 (some .boolean) [.ref (w.2.1 + a), zi v1] (T, M, J, R) (zPi T R G (fun x M2 => (zMd a [] [0, 2] [] M M2) ∧ (x = 0 ∨ x = 1) ∧ ((v1 < 0 ∨ M a 2 < v1) ∧ x = 0 ∧ M2 a 2 = M a 2 ∨ 0 ≤ v1 ∧ v1 ≤ M a 2 ∧ x = 1 ∧ M2 a 2 = v1))) := by
  refine zCt.of rfl (Nat.le_of_ble_eq_true rfl) ?_
  intro p e s m args below meth c C
  obtain ⟨Po, hPo⟩ : ∃ Po, Po = zPi T R G (fun x M2 => (zMd a [] [0, 2] [] M M2) ∧ (x = 0 ∨ x = 1) ∧ ((v1 < 0 ∨ M a 2 < v1) ∧ x = 0 ∧ M2 a 2 = M a 2 ∨ 0 ≤ v1 ∧ v1 ≤ M a 2 ∧ x = 1 ∧ M2 a 2 = v1)) := ⟨_, rfl⟩
  rw [← hPo]
  have hK0 : zMd a [] [0, 2] [] M M := zMd.rf
  show zK w p e 1 0 0 s m args below meth c 2 T Po 0 [.ref (w.2.1 + a), zi v1] [] (T, M, J, R)
  refine q_aload_n C dX12_end_0 (n := 1) rfl rfl ?_
  refine q_iconst C dX12_end_1 (n := 2) rfl ?_
  refine q_putI C dX12_end_2 (n := 5) rfl f_X12_1 (zM0 h0) ⟨rfl, rfl⟩ (fun M1 (e2 : M1 = zup M a 0 0) => ?_)
  have hI3 : zI G M1 := hI.put e2 (zM1 h0) rfl (by omega)
  have hK4 := hK0.upS e2 rfl
  refine q_iload_n C dX12_end_5 (n := 6) rfl rfl ?_
  have J_6 : (v1 < 0 ∨ M a 2 < v1) → zK w p e 1 0 0 s m args below meth c 2 T Po 17 [.null, .null] [] (T, M1, J, R) := by
    intro h5
    refine q_iconst C dX12_end_17 (n := 18) rfl ?_
    exact q_zret C dX12_end_18 ⟨rfl, rfl⟩ (by omega) (by rw [hPo]; exact ⟨0, M1, J, rfl, rfl, hI3, hK4, by omega, by have hz7 : M1 a 2 = M a 2 := (zup_n e2 (by omega)); omega⟩)
  refine q_if_lt C 17 dX12_end_6 (n := 9) rfl rfl (by omega) (fun h8 => ?_) (fun h8 => ?_)
  · exact zK.weak (J_6 (by omega)) (zwk_n (zwk_n zwk_e))
  · refine q_iload_n C dX12_end_9 (n := 10) rfl rfl ?_
    refine q_aload_n C dX12_end_10 (n := 11) rfl rfl ?_
    have g9 := zI.at hI (zM5 h0)
    refine q_getI C dX12_end_11 (n := 14) rfl f_X12_267 (zM0 h0) (v := M a 2) (zup_n e2 (by omega)) ?_
    refine q_icmp_le C 19 dX12_end_14 (n := 17) rfl rfl (by omega) (fun h10 => ?_) (fun h10 => ?_)
    · refine q_aload_n C dX12_end_19 (n := 20) rfl rfl ?_
      refine q_iload_n C dX12_end_20 (n := 21) rfl rfl ?_
      refine q_putI C dX12_end_21 (n := 24) rfl f_X12_267 (zM0 h0) ⟨rfl, rfl⟩ (fun M11 (e12 : M11 = zup M1 a 2 v1) => ?_)
      have hI13 : zI G M11 := hI3.put e12 (zM5 h0) rfl (by omega)
      have hK14 := hK4.upS e12 rfl
      refine q_iconst C dX12_end_24 (n := 25) rfl ?_
      exact q_zret C dX12_end_25 ⟨rfl, rfl⟩ (by omega) (by rw [hPo]; exact ⟨1, M11, J, rfl, rfl, hI13, hK14, by omega, by have hz15 : M11 a 2 = v1 := (zup_s e12); omega⟩)
    · exact zK.weak (J_6 (by omega)) (zwk_n (zwk_n zwk_e))
theorem c_X12_taken {w : zWp} {T : zTl} {M : zMm} {J : zJm} {R : zRm'} {G : zGt} {F : zRm'} {a : Nat} (hI : zI G M) (hF : zF F R) (h0 : zModel T F G a) : zCt w 1 0 0 yX12_taken cX12_taken 1 none [.ref (w.2.1 + a)] (T, M, J, R) (zPv T R G (fun M2 => (zMd a [] [0, 2, 3] [] M M2) ∧ (M2 a 3 = M a 2) ∧ (M2 a 2 = 0))) := by
  refine zCt.of rfl (Nat.le_of_ble_eq_true rfl) ?_
  intro p e s m args below meth c C
  obtain ⟨Po, hPo⟩ : ∃ Po, Po = zPv T R G (fun M2 => (zMd a [] [0, 2, 3] [] M M2) ∧ (M2 a 3 = M a 2) ∧ (M2 a 2 = 0)) := ⟨_, rfl⟩
  rw [← hPo]
  have hK0 : zMd a [] [0, 2, 3] [] M M := zMd.rf
  show zK w p e 1 0 0 s m args below meth c 1 T Po 0 [.ref (w.2.1 + a)] [] (T, M, J, R)
  refine q_aload_n C dX12_taken_0 (n := 1) rfl rfl ?_
  refine q_iconst C dX12_taken_1 (n := 2) rfl ?_
  refine q_putI C dX12_taken_2 (n := 5) rfl f_X12_1 (zM0 h0) ⟨rfl, rfl⟩ (fun M1 (e2 : M1 = zup M a 0 0) => ?_)
  have hI3 : zI G M1 := hI.put e2 (zM1 h0) rfl (by omega)
  have hK4 := hK0.upS e2 rfl
  refine q_aload_n C dX12_taken_5 (n := 6) rfl rfl ?_
  refine q_aload_n C dX12_taken_6 (n := 7) rfl rfl ?_
  have g5 := zI.at hI (zM5 h0)
  refine q_getI C dX12_taken_7 (n := 10) rfl f_X12_267 (zM0 h0) (v := M a 2) (zup_n e2 (by omega)) ?_
  refine q_putI C dX12_taken_10 (n := 13) rfl f_X12_274 (zM0 h0) ⟨rfl, rfl⟩ (fun M6 (e7 : M6 = zup M1 a 3 (M a 2)) => ?_)
  have hI8 : zI G M6 := hI3.put e7 (zM6 h0) rfl (by omega)
  have hK9 := hK4.upS e7 rfl
  refine q_aload_n C dX12_taken_13 (n := 14) rfl rfl ?_
  refine q_iconst C dX12_taken_14 (n := 15) rfl ?_
  refine q_putI C dX12_taken_15 (n := 18) rfl f_X12_267 (zM0 h0) ⟨rfl, rfl⟩ (fun M10 (e11 : M10 = zup M6 a 2 0) => ?_)
  have hI12 : zI G M10 := hI8.put e11 (zM5 h0) rfl (by omega)
  have hK13 := hK9.upS e11 rfl
  exact q_vret C dX12_taken_18 ⟨rfl, rfl⟩ (by rw [hPo]; exact ⟨M10, J, rfl, rfl, hI12, hK13, by have hz14 : M10 a 3 = M a 2 := ((zup_n e11 (by omega)).trans (zup_s e7)); omega, by have hz15 : M10 a 2 = 0 := (zup_s e11); omega⟩)
theorem c_X12_isIn {w : zWp} {T : zTl} {M : zMm} {J : zJm} {R : zRm'} {G : zGt} {F : zRm'}  (hI : zI G M) (hF : zF F R) (v1 : Int) (v2 : Int) (v3 : Int) (p1 : -2147483648 ≤ v1 ∧ v1 ≤ 2147483647) (p2 : -2147483648 ≤ v2 ∧ v2 ≤ 2147483647) (p3 : -2147483648 ≤ v3 ∧ v3 ≤ 2147483647) : zCt w 1 0 0 yX12_isIn cX12_isIn 3 (some .boolean) [zi v1, zi v2, zi v3] (T, M, J, R) (zPp T M J R (fun x => (x = 0 ∨ x = 1) ∧ (x = 0 ∨ v2 ≤ v1 ∧ v1 ≤ v3) ∧ (x = 1 ∨ v1 < v2 ∨ v3 < v1))) := by
  refine zCt.of rfl (Nat.le_of_ble_eq_true rfl) ?_
  intro p e s m args below meth c C
  obtain ⟨Po, hPo⟩ : ∃ Po, Po = zPp T M J R (fun x => (x = 0 ∨ x = 1) ∧ (x = 0 ∨ v2 ≤ v1 ∧ v1 ≤ v3) ∧ (x = 1 ∨ v1 < v2 ∨ v3 < v1)) := ⟨_, rfl⟩
  rw [← hPo]
  show zK w p e 1 0 0 s m args below meth c 3 T Po 0 [zi v1, zi v2, zi v3] [] (T, M, J, R)
  refine q_iload_n C dX12_isIn_0 (n := 1) rfl rfl ?_
  refine q_iload_n C dX12_isIn_1 (n := 2) rfl rfl ?_
  refine q_icmp_lt C 14 dX12_isIn_2 (n := 5) rfl rfl (by omega) (fun h1 => ?_) (fun h1 => ?_)
  · refine q_iconst C dX12_isIn_14 (n := 15) rfl ?_
    exact q_zret C dX12_isIn_15 ⟨rfl, rfl⟩ (by omega) (by rw [hPo]; exact ⟨0, rfl, rfl, by omega, by omega, by omega⟩)
  · refine q_iload_n C dX12_isIn_5 (n := 6) rfl rfl ?_
    refine q_iload_n C dX12_isIn_6 (n := 7) rfl rfl ?_
    refine q_icmp_gt C 14 dX12_isIn_7 (n := 10) rfl rfl (by omega) (fun h2 => ?_) (fun h2 => ?_)
    · refine q_iconst C dX12_isIn_14 (n := 15) rfl ?_
      exact q_zret C dX12_isIn_15 ⟨rfl, rfl⟩ (by omega) (by rw [hPo]; exact ⟨0, rfl, rfl, by omega, by omega, by omega⟩)
    · refine q_iconst C dX12_isIn_10 (n := 11) rfl ?_
      refine q_goto C 15 dX12_isIn_11 rfl ?_
      exact q_zret C dX12_isIn_15 ⟨rfl, rfl⟩ (by omega) (by rw [hPo]; exact ⟨1, rfl, rfl, by omega, by omega, by omega⟩)
theorem c_X12_bitOf {w : zWp} {T : zTl} {M : zMm} {J : zJm} {R : zRm'} {G : zGt} {F : zRm'}  (hI : zI G M) (hF : zF F R) (v1 : Int) (v2 : Int) (p1 : -2147483648 ≤ v1 ∧ v1 ≤ 2147483647) (p2 : -2147483648 ≤ v2 ∧ v2 ≤ 2147483647) : zCt w 1 0 0 yX12_bitOf cX12_bitOf 2 (some .boolean) [zi v1, zi v2] (T, M, J, R) (zPp T M J R (fun x => (x = 0 ∨ x = 1))) := by
  refine zCt.of rfl (Nat.le_of_ble_eq_true rfl) ?_
  intro p e s m args below meth c C
  obtain ⟨Po, hPo⟩ : ∃ Po, Po = zPp T M J R (fun x => (x = 0 ∨ x = 1)) := ⟨_, rfl⟩
  rw [← hPo]
  show zK w p e 1 0 0 s m args below meth c 2 T Po 0 [zi v1, zi v2] [] (T, M, J, R)
  refine q_iload_n C dX12_bitOf_0 (n := 1) rfl rfl ?_
  refine q_iload_n C dX12_bitOf_1 (n := 2) rfl rfl ?_
  refine q_ishr C dX12_bitOf_2 (n := 3) rfl (v := zshr v1 v2) rfl ?_
  have g1 := zr_shr v1 v2
  refine q_iconst C dX12_bitOf_3 (n := 4) rfl ?_
  refine q_iand C dX12_bitOf_4 (n := 5) rfl (v := zand (zshr v1 v2) 1) rfl ?_
  have g2 := zand_r (x := zshr v1 v2) (k := 1) (by omega)
  refine q_iconst C dX12_bitOf_5 (n := 6) rfl ?_
  refine q_icmp_ne C 13 dX12_bitOf_6 (n := 9) rfl rfl (by omega) (fun h3 => ?_) (fun h3 => ?_)
  · refine q_iconst C dX12_bitOf_13 (n := 14) rfl ?_
    exact q_zret C dX12_bitOf_14 ⟨rfl, rfl⟩ (by omega) (by rw [hPo]; exact ⟨0, rfl, rfl, by omega⟩)
  · refine q_iconst C dX12_bitOf_9 (n := 10) rfl ?_
    refine q_goto C 14 dX12_bitOf_10 rfl ?_
    exact q_zret C dX12_bitOf_14 ⟨rfl, rfl⟩ (by omega) (by rw [hPo]; exact ⟨1, rfl, rfl, by omega⟩)
theorem c_X12_isDigit {w : zWp} {T : zTl} {M : zMm} {J : zJm} {R : zRm'} {G : zGt} {F : zRm'}  (hI : zI G M) (hF : zF F R) (v1 : Int) (p1 : -2147483648 ≤ v1 ∧ v1 ≤ 2147483647) : zCt w 1 0 0 yX12_isDigit cX12_isDigit 1 (some .boolean) [zi v1] (T, M, J, R) (zPp T M J R (fun x => (x = 0 ∨ x = 1) ∧ (x = 0 ∨ 48 ≤ v1 ∧ v1 ≤ 57))) := by
  refine zCt.of rfl (Nat.le_of_ble_eq_true rfl) ?_
  intro p e s m args below meth c C
  obtain ⟨Po, hPo⟩ : ∃ Po, Po = zPp T M J R (fun x => (x = 0 ∨ x = 1) ∧ (x = 0 ∨ 48 ≤ v1 ∧ v1 ≤ 57)) := ⟨_, rfl⟩
  rw [← hPo]
  show zK w p e 1 0 0 s m args below meth c 1 T Po 0 [zi v1] [] (T, M, J, R)
  refine q_iload_n C dX12_isDigit_0 (n := 1) rfl rfl ?_
  refine q_bipush C dX12_isDigit_1 (n := 3) rfl (x := 48) (by decide) ?_
  refine q_icmp_lt C 16 dX12_isDigit_3 (n := 6) rfl rfl (by omega) (fun h1 => ?_) (fun h1 => ?_)
  · refine q_iconst C dX12_isDigit_16 (n := 17) rfl ?_
    exact q_zret C dX12_isDigit_17 ⟨rfl, rfl⟩ (by omega) (by rw [hPo]; exact ⟨0, rfl, rfl, by omega, by omega⟩)
  · refine q_iload_n C dX12_isDigit_6 (n := 7) rfl rfl ?_
    refine q_bipush C dX12_isDigit_7 (n := 9) rfl (x := 57) (by decide) ?_
    refine q_icmp_gt C 16 dX12_isDigit_9 (n := 12) rfl rfl (by omega) (fun h2 => ?_) (fun h2 => ?_)
    · refine q_iconst C dX12_isDigit_16 (n := 17) rfl ?_
      exact q_zret C dX12_isDigit_17 ⟨rfl, rfl⟩ (by omega) (by rw [hPo]; exact ⟨0, rfl, rfl, by omega, by omega⟩)
    · refine q_iconst C dX12_isDigit_12 (n := 13) rfl ?_
      refine q_goto C 17 dX12_isDigit_13 rfl ?_
      exact q_zret C dX12_isDigit_17 ⟨rfl, rfl⟩ (by omega) (by rw [hPo]; exact ⟨1, rfl, rfl, by omega, by omega⟩)
theorem c_X12_isStart {w : zWp} {T : zTl} {M : zMm} {J : zJm} {R : zRm'} {G : zGt} {F : zRm'}  (hI : zI G M) (hF : zF F R) (v1 : Int) (p1 : -2147483648 ≤ v1 ∧ v1 ≤ 2147483647) : zCt w 1 0 0 yX12_isStart cX12_isStart 1 (some .boolean) [zi v1] (T, M, J, R) (zPp T M J R (fun x => (x = 0 ∨ x = 1))) := by
  refine zCt.of rfl (Nat.le_of_ble_eq_true rfl) ?_
  intro p e s m args below meth c C
  obtain ⟨Po, hPo⟩ : ∃ Po, Po = zPp T M J R (fun x => (x = 0 ∨ x = 1)) := ⟨_, rfl⟩
  rw [← hPo]
  show zK w p e 1 0 0 s m args below meth c 1 T Po 0 [zi v1] [] (T, M, J, R)
  refine q_iload_n C dX12_isStart_0 (n := 1) rfl rfl ?_
  refine q_bipush C dX12_isStart_1 (n := 3) rfl (x := 97) (by decide) ?_
  have J_1 : zK w p e 1 0 0 s m args below meth c 1 T Po 12 [zi v1] [] (T, M, J, R) := by
    refine q_iload_n C dX12_isStart_12 (n := 13) rfl rfl ?_
    refine q_bipush C dX12_isStart_13 (n := 15) rfl (x := 65) (by decide) ?_
    have J_2 : zK w p e 1 0 0 s m args below meth c 1 T Po 24 [zi v1] [] (T, M, J, R) := by
      refine q_iload_n C dX12_isStart_24 (n := 25) rfl rfl ?_
      refine q_bipush C dX12_isStart_25 (n := 27) rfl (x := 95) (by decide) ?_
      refine q_icmp_ne C 34 dX12_isStart_27 (n := 30) rfl rfl (by omega) (fun h3 => ?_) (fun h3 => ?_)
      · refine q_iconst C dX12_isStart_34 (n := 35) rfl ?_
        exact q_zret C dX12_isStart_35 ⟨rfl, rfl⟩ (by omega) (by rw [hPo]; exact ⟨0, rfl, rfl, by omega⟩)
      · refine q_iconst C dX12_isStart_30 (n := 31) rfl ?_
        refine q_goto C 35 dX12_isStart_31 rfl ?_
        exact q_zret C dX12_isStart_35 ⟨rfl, rfl⟩ (by omega) (by rw [hPo]; exact ⟨1, rfl, rfl, by omega⟩)
    refine q_icmp_lt C 24 dX12_isStart_15 (n := 18) rfl rfl (by omega) (fun h4 => ?_) (fun h4 => ?_)
    · exact zK.weak (J_2) (zwk_c zwk_e)
    · refine q_iload_n C dX12_isStart_18 (n := 19) rfl rfl ?_
      refine q_bipush C dX12_isStart_19 (n := 21) rfl (x := 90) (by decide) ?_
      refine q_icmp_le C 30 dX12_isStart_21 (n := 24) rfl rfl (by omega) (fun h5 => ?_) (fun h5 => ?_)
      · refine q_iconst C dX12_isStart_30 (n := 31) rfl ?_
        refine q_goto C 35 dX12_isStart_31 rfl ?_
        exact q_zret C dX12_isStart_35 ⟨rfl, rfl⟩ (by omega) (by rw [hPo]; exact ⟨1, rfl, rfl, by omega⟩)
      · exact zK.weak (J_2) (zwk_c zwk_e)
  refine q_icmp_lt C 12 dX12_isStart_3 (n := 6) rfl rfl (by omega) (fun h6 => ?_) (fun h6 => ?_)
  · exact zK.weak (J_1) (zwk_c zwk_e)
  · refine q_iload_n C dX12_isStart_6 (n := 7) rfl rfl ?_
    refine q_bipush C dX12_isStart_7 (n := 9) rfl (x := 122) (by decide) ?_
    refine q_icmp_le C 30 dX12_isStart_9 (n := 12) rfl rfl (by omega) (fun h7 => ?_) (fun h7 => ?_)
    · refine q_iconst C dX12_isStart_30 (n := 31) rfl ?_
      refine q_goto C 35 dX12_isStart_31 rfl ?_
      exact q_zret C dX12_isStart_35 ⟨rfl, rfl⟩ (by omega) (by rw [hPo]; exact ⟨1, rfl, rfl, by omega⟩)
    · exact zK.weak (J_1) (zwk_c zwk_e)
theorem c_X12_isFile {w : zWp} {T : zTl} {M : zMm} {J : zJm} {R : zRm'} {G : zGt} {F : zRm'} {a : Nat} (hI : zI G M) (hF : zF F R) (h0 : zModel T F G a) (v1 : Int) (p1 : -2147483648 ≤ v1 ∧ v1 ≤ 2147483647) : zCt w 2 0 0 yX12_isFile cX12_isFile 2 (some .boolean) [.ref (w.2.1 + a), zi v1] (T, M, J, R) (zPp T M J R (fun x => (x = 0 ∨ x = 1) ∧ (x = 0 ∨ 0 ≤ v1 ∧ v1 ≤ 3))) := by
  refine zCt.of rfl (Nat.le_of_ble_eq_true rfl) ?_
  intro p e s m args below meth c C
  obtain ⟨Po, hPo⟩ : ∃ Po, Po = zPp T M J R (fun x => (x = 0 ∨ x = 1) ∧ (x = 0 ∨ 0 ≤ v1 ∧ v1 ≤ 3)) := ⟨_, rfl⟩
  rw [← hPo]
  show zK w p e 2 0 0 s m args below meth c 2 T Po 0 [.ref (w.2.1 + a), zi v1] [] (T, M, J, R)
  refine q_iload_n C dX12_isFile_0 (n := 1) rfl rfl ?_
  refine q_iconst C dX12_isFile_1 (n := 2) rfl ?_
  refine q_iconst C dX12_isFile_2 (n := 3) rfl ?_
  refine q_callSp C dX12_isFile_3 (n := 6) rfl m_X12_277 s_yX12_isIn (c_X12_isIn (w := w) (J := J) hI hF v1 0 3 (by omega) (by omega) (by omega)) (Nat.le_of_ble_eq_true rfl) rfl rfl (Nat.le_of_ble_eq_true rfl) ⟨Nat.le_refl _, Nat.le_refl _⟩ (fun x4 h5 => ?_)
  obtain ⟨h1, h2, h3⟩ := h5
  refine q_if_eq C 25 dX12_isFile_6 (n := 9) rfl rfl (by omega) (fun h6 => ?_) (fun h6 => ?_)
  · refine q_iconst C dX12_isFile_25 (n := 26) rfl ?_
    exact q_zret C dX12_isFile_26 ⟨rfl, rfl⟩ (by omega) (by rw [hPo]; exact ⟨0, rfl, rfl, by omega, by omega⟩)
  · refine q_aload_n C dX12_isFile_9 (n := 10) rfl rfl ?_
    refine q_getR C dX12_isFile_10 (n := 13) rfl f_X12_17 (zM0 h0) (hF _ _ _ (zM7 h0)) ?_
    refine q_iconst C dX12_isFile_13 (n := 14) rfl ?_
    refine q_iload_n C dX12_isFile_14 (n := 15) rfl rfl ?_
    refine q_iadd C dX12_isFile_15 (n := 16) rfl (v := 0 + v1) rfl ?_
    have g7 := zI.at hI (((zM9 h0) (0 + v1)).trans (zfG_0 (by omega)))
    refine q_iald C dX12_isFile_16 (n := 17) rfl (zM8 h0) (by omega) (v := M (a + 2) (0 + v1)) rfl ?_
    refine q_iconst C dX12_isFile_17 (n := 18) rfl ?_
    refine q_icmp_ne C 25 dX12_isFile_18 (n := 21) rfl rfl (by omega) (fun h8 => ?_) (fun h8 => ?_)
    · refine q_iconst C dX12_isFile_25 (n := 26) rfl ?_
      exact q_zret C dX12_isFile_26 ⟨rfl, rfl⟩ (by omega) (by rw [hPo]; exact ⟨0, rfl, rfl, by omega, by omega⟩)
    · refine q_iconst C dX12_isFile_21 (n := 22) rfl ?_
      refine q_goto C 26 dX12_isFile_22 rfl ?_
      exact q_zret C dX12_isFile_26 ⟨rfl, rfl⟩ (by omega) (by rw [hPo]; exact ⟨1, rfl, rfl, by omega, by omega⟩)
theorem c_X12_linesOf {w : zWp} {T : zTl} {M : zMm} {J : zJm} {R : zRm'} {G : zGt} {F : zRm'} {a : Nat} (hI : zI G M) (hF : zF F R) (h0 : zModel T F G a) (v1 : Int) (p1 : 0 ≤ v1 ∧ v1 ≤ 3) : zCt w 1 0 0 yX12_linesOf cX12_linesOf 2 (some .int) [.ref (w.2.1 + a), zi v1] (T, M, J, R) (zPp T M J R (fun x => (x = M (a + 2) (4 + v1)) ∧ (0 ≤ x ∧ x ≤ 40))) := by
  refine zCt.of rfl (Nat.le_of_ble_eq_true rfl) ?_
  intro p e s m args below meth c C
  obtain ⟨Po, hPo⟩ : ∃ Po, Po = zPp T M J R (fun x => (x = M (a + 2) (4 + v1)) ∧ (0 ≤ x ∧ x ≤ 40)) := ⟨_, rfl⟩
  rw [← hPo]
  show zK w p e 1 0 0 s m args below meth c 2 T Po 0 [.ref (w.2.1 + a), zi v1] [] (T, M, J, R)
  refine q_aload_n C dX12_linesOf_0 (n := 1) rfl rfl ?_
  refine q_getR C dX12_linesOf_1 (n := 4) rfl f_X12_17 (zM0 h0) (hF _ _ _ (zM7 h0)) ?_
  refine q_iconst C dX12_linesOf_4 (n := 5) rfl ?_
  refine q_iload_n C dX12_linesOf_5 (n := 6) rfl rfl ?_
  refine q_iadd C dX12_linesOf_6 (n := 7) rfl (v := 4 + v1) rfl ?_
  have g1 := zI.at hI (((zM9 h0) (4 + v1)).trans (zfG_4 (by omega)))
  refine q_iald C dX12_linesOf_7 (n := 8) rfl (zM8 h0) (by omega) (v := M (a + 2) (4 + v1)) rfl ?_
  exact q_iret C dX12_linesOf_8 ⟨rfl, rfl⟩ (by rw [hPo]; exact ⟨M (a + 2) (4 + v1), rfl, rfl, by omega, by omega⟩)
theorem c_X12_isLine {w : zWp} {T : zTl} {M : zMm} {J : zJm} {R : zRm'} {G : zGt} {F : zRm'} {a : Nat} (hI : zI G M) (hF : zF F R) (h0 : zModel T F G a) (v1 : Int) (v2 : Int) (p1 : -2147483648 ≤ v1 ∧ v1 ≤ 2147483647) (p2 : -2147483648 ≤ v2 ∧ v2 ≤ 2147483647) : zCt w 3 0 0 yX12_isLine cX12_isLine 3 (some .boolean) [.ref (w.2.1 + a), zi v1, zi v2] (T, M, J, R) (zPp T M J R (fun x => (x = 0 ∨ x = 1) ∧ (x = 0 ∨ 0 ≤ v1 ∧ v1 ≤ 3 ∧ 0 ≤ v2 ∧ v2 ≤ 39 ∧ v2 < M (a + 2) (4 + v1)))) := by
  refine zCt.of rfl (Nat.le_of_ble_eq_true rfl) ?_
  intro p e s m args below meth c C
  obtain ⟨Po, hPo⟩ : ∃ Po, Po = zPp T M J R (fun x => (x = 0 ∨ x = 1) ∧ (x = 0 ∨ 0 ≤ v1 ∧ v1 ≤ 3 ∧ 0 ≤ v2 ∧ v2 ≤ 39 ∧ v2 < M (a + 2) (4 + v1))) := ⟨_, rfl⟩
  rw [← hPo]
  show zK w p e 3 0 0 s m args below meth c 3 T Po 0 [.ref (w.2.1 + a), zi v1, zi v2] [] (T, M, J, R)
  refine q_aload_n C dX12_isLine_0 (n := 1) rfl rfl ?_
  refine q_iload_n C dX12_isLine_1 (n := 2) rfl rfl ?_
  refine q_callVp C dX12_isLine_2 (n := 5) rfl m_X12_281 v_yX12_isFile (zM0 h0) ⟨by decide, rfl⟩ (c_X12_isFile (w := w) (J := J) hI hF h0 v1 (by omega)) (Nat.le_of_ble_eq_true rfl) rfl rfl (Nat.le_of_ble_eq_true rfl) ⟨Nat.le_refl _, Nat.le_refl _⟩ (fun x3 h4 => ?_)
  obtain ⟨h1, h2⟩ := h4
  refine q_if_eq C 27 dX12_isLine_5 (n := 8) rfl rfl (by omega) (fun h5 => ?_) (fun h5 => ?_)
  · refine q_iconst C dX12_isLine_27 (n := 28) rfl ?_
    exact q_zret C dX12_isLine_28 ⟨rfl, rfl⟩ (by omega) (by rw [hPo]; exact ⟨0, rfl, rfl, by omega, by omega⟩)
  · refine q_iload_n C dX12_isLine_8 (n := 9) rfl rfl ?_
    refine q_iconst C dX12_isLine_9 (n := 10) rfl ?_
    refine q_aload_n C dX12_isLine_10 (n := 11) rfl rfl ?_
    refine q_iload_n C dX12_isLine_11 (n := 12) rfl rfl ?_
    refine q_callVp C dX12_isLine_12 (n := 15) rfl m_X12_285 v_yX12_linesOf (zM0 h0) ⟨by decide, rfl⟩ (c_X12_linesOf (w := w) (J := J) hI hF h0 v1 (by omega)) (Nat.le_of_ble_eq_true rfl) rfl rfl (Nat.le_of_ble_eq_true rfl) ⟨Nat.le_refl _, Nat.le_refl _⟩ (fun x8 h9 => ?_)
    obtain ⟨h6, h7⟩ := h9
    refine q_iconst C dX12_isLine_15 (n := 16) rfl ?_
    refine q_isub C dX12_isLine_16 (n := 17) rfl (v := x8 - 1) rfl ?_
    refine q_callSp C dX12_isLine_17 (n := 20) rfl m_X12_277 s_yX12_isIn (c_X12_isIn (w := w) (J := J) hI hF v2 0 (x8 - 1) (by omega) (by omega) (by omega)) (Nat.le_of_ble_eq_true rfl) rfl rfl (Nat.le_of_ble_eq_true rfl) ⟨Nat.le_refl _, Nat.le_refl _⟩ (fun x13 h14 => ?_)
    obtain ⟨h10, h11, h12⟩ := h14
    refine q_if_eq C 27 dX12_isLine_20 (n := 23) rfl rfl (by omega) (fun h15 => ?_) (fun h15 => ?_)
    · refine q_iconst C dX12_isLine_27 (n := 28) rfl ?_
      exact q_zret C dX12_isLine_28 ⟨rfl, rfl⟩ (by omega) (by rw [hPo]; exact ⟨0, rfl, rfl, by omega, by omega⟩)
    · refine q_iconst C dX12_isLine_23 (n := 24) rfl ?_
      refine q_goto C 28 dX12_isLine_24 rfl ?_
      exact q_zret C dX12_isLine_28 ⟨rfl, rfl⟩ (by omega) (by rw [hPo]; exact ⟨1, rfl, rfl, by omega, by omega⟩)
theorem c_X12_lengthOf {w : zWp} {T : zTl} {M : zMm} {J : zJm} {R : zRm'} {G : zGt} {F : zRm'} {a : Nat} (hI : zI G M) (hF : zF F R) (h0 : zModel T F G a) (v1 : Int) (v2 : Int) (p1 : 0 ≤ v1 ∧ v1 ≤ 3) (p2 : 0 ≤ v2 ∧ v2 ≤ 39) : zCt w 1 0 0 yX12_lengthOf cX12_lengthOf 3 (some .int) [.ref (w.2.1 + a), zi v1, zi v2] (T, M, J, R) (zPp T M J R (fun x => (x = M (a + 2) (8 + 40 * v1 + v2)) ∧ (0 ≤ x ∧ x ≤ 440))) := by
  refine zCt.of rfl (Nat.le_of_ble_eq_true rfl) ?_
  intro p e s m args below meth c C
  obtain ⟨Po, hPo⟩ : ∃ Po, Po = zPp T M J R (fun x => (x = M (a + 2) (8 + 40 * v1 + v2)) ∧ (0 ≤ x ∧ x ≤ 440)) := ⟨_, rfl⟩
  rw [← hPo]
  show zK w p e 1 0 0 s m args below meth c 3 T Po 0 [.ref (w.2.1 + a), zi v1, zi v2] [] (T, M, J, R)
  refine q_aload_n C dX12_lengthOf_0 (n := 1) rfl rfl ?_
  refine q_getR C dX12_lengthOf_1 (n := 4) rfl f_X12_17 (zM0 h0) (hF _ _ _ (zM7 h0)) ?_
  refine q_bipush C dX12_lengthOf_4 (n := 6) rfl (x := 8) (by decide) ?_
  refine q_bipush C dX12_lengthOf_6 (n := 8) rfl (x := 40) (by decide) ?_
  refine q_iload_n C dX12_lengthOf_8 (n := 9) rfl rfl ?_
  refine q_imul C dX12_lengthOf_9 (n := 10) rfl (v := 40 * v1) rfl ?_
  refine q_iadd C dX12_lengthOf_10 (n := 11) rfl (v := 8 + (40 * v1)) rfl ?_
  refine q_iload_n C dX12_lengthOf_11 (n := 12) rfl rfl ?_
  refine q_iadd C dX12_lengthOf_12 (n := 13) rfl (v := (8 + (40 * v1)) + v2) rfl ?_
  have g1 := zI.at hI (((zM9 h0) ((8 + (40 * v1)) + v2)).trans (zfG_8 (by omega)))
  refine q_iald C dX12_lengthOf_13 (n := 14) rfl (zM8 h0) (by omega) (v := M (a + 2) ((8 + (40 * v1)) + v2)) rfl ?_
  exact q_iret C dX12_lengthOf_14 ⟨rfl, rfl⟩ (by rw [hPo]; exact ⟨M (a + 2) ((8 + (40 * v1)) + v2), rfl, rfl, by omega, by omega⟩)
theorem c_X12_beginOf {w : zWp} {T : zTl} {M : zMm} {J : zJm} {R : zRm'} {G : zGt} {F : zRm'} {a : Nat} (hI : zI G M) (hF : zF F R) (h0 : zModel T F G a) (v1 : Int) (v2 : Int) (p1 : zFi M a) (p2 : 0 ≤ v1 ∧ v1 ≤ 3) (p3 : 0 ≤ v2 ∧ v2 ≤ M (a + 2) (4 + v1) ∧ v2 ≤ 40) : zCt w 2 0 0 yX12_beginOf cX12_beginOf 5 (some .int) [.ref (w.2.1 + a), zi v1, zi v2] (T, M, J, R) (zPp T M J R (fun x => (400 * v1 ≤ x ∧ x ≤ 400 * v1 + 400) ∧ (M (a + 2) (4 + v1) ≤ v2 ∨ x + M (a + 2) (8 + 40 * v1 + v2) ≤ 400 * v1 + 400) ∧ (x = 400 * v1 + zSum (M (a + 2)) (8 + 40 * v1) v2.toNat))) := by
  refine zCt.of rfl (Nat.le_of_ble_eq_true rfl) ?_
  intro p e s m args below meth c C
  obtain ⟨Po, hPo⟩ : ∃ Po, Po = zPp T M J R (fun x => (400 * v1 ≤ x ∧ x ≤ 400 * v1 + 400) ∧ (M (a + 2) (4 + v1) ≤ v2 ∨ x + M (a + 2) (8 + 40 * v1 + v2) ≤ 400 * v1 + 400) ∧ (x = 400 * v1 + zSum (M (a + 2)) (8 + 40 * v1) v2.toNat)) := ⟨_, rfl⟩
  rw [← hPo]
  show zK w p e 2 0 0 s m args below meth c 5 T Po 0 [.ref (w.2.1 + a), zi v1, zi v2, .null, .null] [] (T, M, J, R)
  have gz0 := zSum_0 (g := M (a + 2)) (b := 8 + 40 * v1)
  refine q_sipush C dX12_beginOf_0 (n := 3) rfl (x := 400) (by decide) ?_
  refine q_iload_n C dX12_beginOf_3 (n := 4) rfl rfl ?_
  refine q_imul C dX12_beginOf_4 (n := 5) rfl (v := 400 * v1) rfl ?_
  refine q_istore_n C [.ref (w.2.1 + a), zi v1, zi v2, zi (400 * v1), .null] dX12_beginOf_5 (n := 6) rfl rfl rfl ?_
  refine q_iconst C dX12_beginOf_6 (n := 7) rfl ?_
  refine q_istore C [.ref (w.2.1 + a), zi v1, zi v2, zi (400 * v1), zi 0] dX12_beginOf_7 (n := 9) rfl rfl rfl ?_
  have L_8 : ∀ n9 : Nat, ∀ (u1 : Int) (u2 : Int), (-2147483648 ≤ u1 ∧ u1 ≤ 2147483647) → (-2147483648 ≤ u2 ∧ u2 ≤ 2147483647) → (0 ≤ u2 ∧ u2 ≤ v2) → (u1 = 400 * v1 + zSum (M (a + 2)) (8 + 40 * v1) (u2 : Int).toNat) → (0 ≤ u1 ∧ u1 ≤ 1200 + 440 * u2) → (v2 - u2 + 1 ≤ (n9 : Int)) → zK w p e 2 0 0 s m args below meth c 5 T Po 9 [.ref (w.2.1 + a), zi v1, zi v2, zi u1, zi u2] [] (T, M, J, R) := by
    intro n9
    induction n9 with
    | zero =>
      intro u1 u2 h3 h4 h5 h6 h7 hm11
      exfalso
      omega
    | succ n9 ih10 =>
      intro u1 u2 h3 h4 h5 h6 h7 hm11
      refine q_iload C dX12_beginOf_9 (n := 11) rfl rfl ?_
      refine q_iload_n C dX12_beginOf_11 (n := 12) rfl rfl ?_
      refine q_icmp_ge C 31 dX12_beginOf_12 (n := 15) rfl rfl (by omega) (fun h12 => ?_) (fun h12 => ?_)
      · refine q_iload_n C dX12_beginOf_31 (n := 32) rfl rfl ?_
        have gf := zFi.le p1 hI h0 (k := v1) (l := v2) (by omega) (by omega)
        have gq : zSum (M (a + 2)) (8 + 40 * v1) (u2 : Int).toNat = zSum (M (a + 2)) (8 + 40 * v1) v2.toNat := by rw [show (u2 : Int) = v2 by omega]
        exact q_iret C dX12_beginOf_32 ⟨rfl, rfl⟩ (by rw [hPo]; exact ⟨u1, rfl, rfl, by omega, by omega, by omega⟩)
      · refine q_iload_n C dX12_beginOf_15 (n := 16) rfl rfl ?_
        refine q_aload_n C dX12_beginOf_16 (n := 17) rfl rfl ?_
        refine q_iload_n C dX12_beginOf_17 (n := 18) rfl rfl ?_
        refine q_iload C dX12_beginOf_18 (n := 20) rfl rfl ?_
        refine q_callVp C dX12_beginOf_20 (n := 23) rfl m_X12_289 v_yX12_lengthOf (zM0 h0) ⟨by decide, rfl⟩ (c_X12_lengthOf (w := w) (J := J) hI hF h0 v1 u2 (by omega) (by omega)) (Nat.le_of_ble_eq_true rfl) rfl rfl (Nat.le_of_ble_eq_true rfl) ⟨Nat.le_refl _, Nat.le_refl _⟩ (fun x15 h16 => ?_)
        obtain ⟨h13, h14⟩ := h16
        refine q_iadd C dX12_beginOf_23 (n := 24) rfl (v := u1 + x15) rfl ?_
        refine q_istore_n C [.ref (w.2.1 + a), zi v1, zi v2, zi (u1 + x15), zi u2] dX12_beginOf_24 (n := 25) rfl rfl rfl ?_
        have gz1 := zSum_s (g := M (a + 2)) (b := 8 + 40 * v1) (i := u2) (by omega)
        refine q_iinc C [.ref (w.2.1 + a), zi v1, zi v2, zi (u1 + x15), zi (u2 + 1)] dX12_beginOf_25 (n := 28) rfl rfl rfl rfl ?_
        refine q_goto C 9 dX12_beginOf_28 rfl ?_
        exact zK.weak (ih10 (u1 + x15) (u2 + 1) (by omega) (by omega) (by omega) (by omega) (by omega) (by omega)) (zwk_c (zwk_c (zwk_c (zwk_c (zwk_c zwk_e)))))
  exact zK.weak (L_8 _ (400 * v1) 0 (by omega) (by omega) (by omega) (by omega) (by omega) (Int.self_le_toNat _)) (zwk_c (zwk_c (zwk_c (zwk_c (zwk_c zwk_e)))))
theorem c_X12_badByte {w : zWp} {T : zTl} {M : zMm} {J : zJm} {R : zRm'} {G : zGt} {F : zRm'} {a : Nat} (hI : zI G M) (hF : zF F R) (h0 : zModel T F G a) (v1 : Int) (p1 : v1 = 0 ∨ v1 = 1) : zCt w 2 0 0 yX12_badByte cX12_badByte 4 (some .int) [.ref (w.2.1 + a), zi v1] (T, M, J, R) (zPp T M J R (fun x => (-1 ≤ x ∧ x ≤ 439) ∧ (zWb (M (a + 1)) (M a 3) (32 - 22 * v1) x))) := by
  refine zCt.of rfl (Nat.le_of_ble_eq_true rfl) ?_
  intro p e s m args below meth c C
  obtain ⟨Po, hPo⟩ : ∃ Po, Po = zPp T M J R (fun x => (-1 ≤ x ∧ x ≤ 439) ∧ (zWb (M (a + 1)) (M a 3) (32 - 22 * v1) x)) := ⟨_, rfl⟩
  rw [← hPo]
  have gk_size := zI.at hI (zM6 h0)
  show zK w p e 2 0 0 s m args below meth c 4 T Po 0 [.ref (w.2.1 + a), zi v1, .null, .null] [] (T, M, J, R)
  refine q_iconst C dX12_badByte_0 (n := 1) rfl ?_
  refine q_istore_n C [.ref (w.2.1 + a), zi v1, zi 0, .null] dX12_badByte_1 (n := 2) rfl rfl rfl ?_
  have L_5 : ∀ n6 : Nat, ∀ (u1 : Int), (-2147483648 ≤ u1 ∧ u1 ≤ 2147483647) → (0 ≤ u1 ∧ u1 ≤ M a 3) → (zWa (M (a + 1)) u1 (32 - 22 * v1)) → (M a 3 - u1 + 1 ≤ (n6 : Int)) → zK w p e 2 0 0 s m args below meth c 4 T Po 2 [.ref (w.2.1 + a), zi v1, zi u1, .null] [] (T, M, J, R) := by
    intro n6
    induction n6 with
    | zero =>
      intro u1 h2 h3 h4 hm8
      exfalso
      omega
    | succ n6 ih7 =>
      intro u1 h2 h3 h4 hm8
      refine q_iload_n C dX12_badByte_2 (n := 3) rfl rfl ?_
      refine q_aload_n C dX12_badByte_3 (n := 4) rfl rfl ?_
      have g9 := zI.at hI (zM6 h0)
      refine q_getI C dX12_badByte_4 (n := 7) rfl f_X12_274 (zM0 h0) (v := M a 3) rfl ?_
      refine q_icmp_ge C 46 dX12_badByte_7 (n := 10) rfl rfl (by omega) (fun h10 => ?_) (fun h10 => ?_)
      · refine q_iconst C dX12_badByte_46 (n := 47) rfl ?_
        exact q_iret C dX12_badByte_47 ⟨rfl, rfl⟩ (by rw [hPo]; exact ⟨(-1), rfl, rfl, by omega, (Or.inl ⟨rfl, h4.le (by omega)⟩)⟩)
      · refine q_aload_n C dX12_badByte_10 (n := 11) rfl rfl ?_
        refine q_getR C dX12_badByte_11 (n := 14) rfl f_X12_13 (zM0 h0) (hF _ _ _ (zM2 h0)) ?_
        refine q_iload_n C dX12_badByte_14 (n := 15) rfl rfl ?_
        have g11 := zI.at hI ((zM4 h0) u1)
        refine q_bald C dX12_badByte_15 (n := 16) rfl (zM3 h0) (by omega) (v := M (a + 1) u1) rfl ?_
        refine q_istore_n C [.ref (w.2.1 + a), zi v1, zi u1, zi (M (a + 1) u1)] dX12_badByte_16 (n := 17) rfl rfl rfl ?_
        refine q_iload_n C dX12_badByte_17 (n := 18) rfl rfl ?_
        refine q_bipush C dX12_badByte_18 (n := 20) rfl (x := 32) (by decide) ?_
        refine q_bipush C dX12_badByte_20 (n := 22) rfl (x := 126) (by decide) ?_
        refine q_callSp C dX12_badByte_22 (n := 25) rfl m_X12_277 s_yX12_isIn (c_X12_isIn (w := w) (J := J) hI hF (M (a + 1) u1) 32 126 (by omega) (by omega) (by omega)) (Nat.le_of_ble_eq_true rfl) rfl rfl (Nat.le_of_ble_eq_true rfl) ⟨Nat.le_refl _, Nat.le_refl _⟩ (fun x15 h16 => ?_)
        obtain ⟨h12, h13, h14⟩ := h16
        have J_18 : (32 ≤ M (a + 1) u1 ∧ M (a + 1) u1 ≤ 126 ∨ v1 = 1 ∧ M (a + 1) u1 = 10) → zK w p e 2 0 0 s m args below meth c 4 T Po 40 [.ref (w.2.1 + a), zi v1, zi u1, .null] [] (T, M, J, R) := by
          intro h17
          refine q_iinc C [.ref (w.2.1 + a), zi v1, zi (u1 + 1), .null] dX12_badByte_40 (n := 43) rfl rfl rfl rfl ?_
          refine q_goto C 2 dX12_badByte_43 rfl ?_
          exact zK.weak (ih7 (u1 + 1) (by omega) (by omega) (h4.add (by unfold zGd; omega)) (by omega)) (zwk_c (zwk_c (zwk_c (zwk_n zwk_e))))
        refine q_if_ne C 40 dX12_badByte_25 (n := 28) rfl rfl (by omega) (fun h19 => ?_) (fun h19 => ?_)
        · exact zK.weak (J_18 (by omega)) (zwk_c (zwk_c (zwk_c (zwk_n zwk_e))))
        · refine q_iload_n C dX12_badByte_28 (n := 29) rfl rfl ?_
          have J_21 : ((M (a + 1) u1 < 32 ∨ 126 < M (a + 1) u1) ∧ (v1 = 0 ∨ M (a + 1) u1 ≠ 10)) → zK w p e 2 0 0 s m args below meth c 4 T Po 38 [.null, .null, zi u1, .null] [] (T, M, J, R) := by
            intro h20
            refine q_iload_n C dX12_badByte_38 (n := 39) rfl rfl ?_
            exact q_iret C dX12_badByte_39 ⟨rfl, rfl⟩ (by rw [hPo]; exact ⟨u1, rfl, rfl, by omega, (Or.inr ⟨by omega, by omega, (by unfold zGd; omega), h4⟩)⟩)
          refine q_if_eq C 38 dX12_badByte_29 (n := 32) rfl rfl (by omega) (fun h22 => ?_) (fun h22 => ?_)
          · exact zK.weak (J_21 (by omega)) (zwk_n (zwk_n (zwk_c (zwk_n zwk_e))))
          · refine q_iload_n C dX12_badByte_32 (n := 33) rfl rfl ?_
            refine q_bipush C dX12_badByte_33 (n := 35) rfl (x := 10) (by decide) ?_
            refine q_icmp_eq C 40 dX12_badByte_35 (n := 38) rfl rfl (by omega) (fun h23 => ?_) (fun h23 => ?_)
            · exact zK.weak (J_18 (by omega)) (zwk_c (zwk_c (zwk_c (zwk_n zwk_e))))
            · exact zK.weak (J_21 (by omega)) (zwk_n (zwk_n (zwk_c (zwk_n zwk_e))))
  exact zK.weak (L_5 _ 0 (by omega) (by omega) zWa.nil (Int.self_le_toNat _)) (zwk_c (zwk_c (zwk_c (zwk_n zwk_e))))
theorem c_X12_areTape {w : zWp} {T : zTl} {M : zMm} {J : zJm} {R : zRm'} {G : zGt} {F : zRm'} {a : Nat} (hI : zI G M) (hF : zF F R) (h0 : zModel T F G a) (v1 : Int) (v2 : Int) (v3 : Int) (v4 : Int) (p1 : 0 ≤ v1 ∧ 0 ≤ v2 ∧ v1 + v2 ≤ 440 ∧ 0 ≤ v3 ∧ 0 ≤ v4 ∧ v3 + v4 ≤ 440) : zCt w 1 0 0 yX12_areTape cX12_areTape 7 (some .boolean) [.ref (w.2.1 + a), zi v1, zi v2, zi v3, zi v4] (T, M, J, R) (zPp T M J R (fun x => (x = 0 ∨ x = 1))) := by
  refine zCt.of rfl (Nat.le_of_ble_eq_true rfl) ?_
  intro p e s m args below meth c C
  obtain ⟨Po, hPo⟩ : ∃ Po, Po = zPp T M J R (fun x => (x = 0 ∨ x = 1)) := ⟨_, rfl⟩
  rw [← hPo]
  show zK w p e 1 0 0 s m args below meth c 7 T Po 0 [.ref (w.2.1 + a), zi v1, zi v2, zi v3, zi v4, .null, .null] [] (T, M, J, R)
  refine q_iload_n C dX12_areTape_0 (n := 1) rfl rfl ?_
  refine q_iload C dX12_areTape_1 (n := 3) rfl rfl ?_
  have J_5 : ∀ (u1 : Int), (-2147483648 ≤ u1 ∧ u1 ≤ 2147483647) → (u1 = 0 ∨ u1 = 1) → (u1 = 0 ∨ v2 = v4) → zK w p e 1 0 0 s m args below meth c 7 T Po 11 [.ref (w.2.1 + a), zi v1, zi v2, zi v3, .null, .null, .null] [zi u1] (T, M, J, R) := by
    intro u1 h2 h3 h4
    refine q_istore C [.ref (w.2.1 + a), zi v1, zi v2, zi v3, .null, zi u1, .null] dX12_areTape_11 (n := 13) rfl rfl rfl ?_
    refine q_iconst C dX12_areTape_13 (n := 14) rfl ?_
    refine q_istore C [.ref (w.2.1 + a), zi v1, zi v2, zi v3, .null, zi u1, zi 0] dX12_areTape_14 (n := 16) rfl rfl rfl ?_
    have L_13 : ∀ n14 : Nat, ∀ (u6 : Int) (u7 : Int), (-2147483648 ≤ u6 ∧ u6 ≤ 2147483647) → (-2147483648 ≤ u7 ∧ u7 ≤ 2147483647) → (0 ≤ u7 ∧ u7 ≤ v2) → (u6 = 0 ∨ u6 = 1) → (u6 = 0 ∨ v2 = v4) → (v2 - u7 + 1 ≤ (n14 : Int)) → zK w p e 1 0 0 s m args below meth c 7 T Po 16 [.ref (w.2.1 + a), zi v1, zi v2, zi v3, .null, zi u6, zi u7] [] (T, M, J, R) := by
      intro n14
      induction n14 with
      | zero =>
        intro u6 u7 h8 h9 h10 h11 h12 hm16
        exfalso
        omega
      | succ n14 ih15 =>
        intro u6 u7 h8 h9 h10 h11 h12 hm16
        refine q_iload C dX12_areTape_16 (n := 18) rfl rfl ?_
        refine q_iload_n C dX12_areTape_18 (n := 19) rfl rfl ?_
        refine q_icmp_ge C 61 dX12_areTape_19 (n := 22) rfl rfl (by omega) (fun h17 => ?_) (fun h17 => ?_)
        · refine q_iload C dX12_areTape_61 (n := 63) rfl rfl ?_
          exact q_zret C dX12_areTape_63 ⟨rfl, rfl⟩ (by omega) (by rw [hPo]; exact ⟨u6, rfl, rfl, by omega⟩)
        · refine q_iload C dX12_areTape_22 (n := 24) rfl rfl ?_
          refine q_if_eq C 61 dX12_areTape_24 (n := 27) rfl rfl (by omega) (fun h18 => ?_) (fun h18 => ?_)
          · refine q_iload C dX12_areTape_61 (n := 63) rfl rfl ?_
            exact q_zret C dX12_areTape_63 ⟨rfl, rfl⟩ (by omega) (by rw [hPo]; exact ⟨u6, rfl, rfl, by omega⟩)
          · refine q_aload_n C dX12_areTape_27 (n := 28) rfl rfl ?_
            refine q_getR C dX12_areTape_28 (n := 31) rfl f_X12_13 (zM0 h0) (hF _ _ _ (zM2 h0)) ?_
            refine q_iload_n C dX12_areTape_31 (n := 32) rfl rfl ?_
            refine q_iload C dX12_areTape_32 (n := 34) rfl rfl ?_
            refine q_iadd C dX12_areTape_34 (n := 35) rfl (v := v1 + u7) rfl ?_
            have g19 := zI.at hI ((zM4 h0) (v1 + u7))
            refine q_bald C dX12_areTape_35 (n := 36) rfl (zM3 h0) (by omega) (v := M (a + 1) (v1 + u7)) rfl ?_
            refine q_aload_n C dX12_areTape_36 (n := 37) rfl rfl ?_
            refine q_getR C dX12_areTape_37 (n := 40) rfl f_X12_13 (zM0 h0) (hF _ _ _ (zM2 h0)) ?_
            refine q_iload_n C dX12_areTape_40 (n := 41) rfl rfl ?_
            refine q_iload C dX12_areTape_41 (n := 43) rfl rfl ?_
            refine q_iadd C dX12_areTape_43 (n := 44) rfl (v := v3 + u7) rfl ?_
            have g20 := zI.at hI ((zM4 h0) (v3 + u7))
            refine q_bald C dX12_areTape_44 (n := 45) rfl (zM3 h0) (by omega) (v := M (a + 1) (v3 + u7)) rfl ?_
            have J_25 : ∀ (u21 : Int), (-2147483648 ≤ u21 ∧ u21 ≤ 2147483647) → (u21 = 0 ∨ u21 = 1) → (u21 = 0 ∨ u21 = 1) → zK w p e 1 0 0 s m args below meth c 7 T Po 53 [.ref (w.2.1 + a), zi v1, zi v2, zi v3, .null, .null, zi u7] [zi u21] (T, M, J, R) := by
              intro u21 h22 h23 h24
              refine q_istore C [.ref (w.2.1 + a), zi v1, zi v2, zi v3, .null, zi u21, zi u7] dX12_areTape_53 (n := 55) rfl rfl rfl ?_
              refine q_iinc C [.ref (w.2.1 + a), zi v1, zi v2, zi v3, .null, zi u21, zi (u7 + 1)] dX12_areTape_55 (n := 58) rfl rfl rfl rfl ?_
              refine q_goto C 16 dX12_areTape_58 rfl ?_
              exact zK.weak (ih15 u21 (u7 + 1) (by omega) (by omega) (by omega) (by omega) (by omega) (by omega)) (zwk_c (zwk_c (zwk_c (zwk_c (zwk_n (zwk_c (zwk_c zwk_e)))))))
            refine q_icmp_ne C 52 dX12_areTape_45 (n := 48) rfl rfl (by omega) (fun h26 => ?_) (fun h26 => ?_)
            · refine q_iconst C dX12_areTape_52 (n := 53) rfl ?_
              exact zK.weak (J_25 0 (by omega) (by omega) (by omega)) (zwk_c (zwk_c (zwk_c (zwk_c (zwk_n (zwk_n (zwk_c zwk_e)))))))
            · refine q_iconst C dX12_areTape_48 (n := 49) rfl ?_
              refine q_goto C 53 dX12_areTape_49 rfl ?_
              exact zK.weak (J_25 1 (by omega) (by omega) (by omega)) (zwk_c (zwk_c (zwk_c (zwk_c (zwk_n (zwk_n (zwk_c zwk_e)))))))
    exact zK.weak (L_13 _ u1 0 (by omega) (by omega) (by omega) (by omega) (by omega) (Int.self_le_toNat _)) (zwk_c (zwk_c (zwk_c (zwk_c (zwk_n (zwk_c (zwk_c zwk_e)))))))
  refine q_icmp_ne C 10 dX12_areTape_3 (n := 6) rfl rfl (by omega) (fun h27 => ?_) (fun h27 => ?_)
  · refine q_iconst C dX12_areTape_10 (n := 11) rfl ?_
    exact zK.weak (J_5 0 (by omega) (by omega) (by omega)) (zwk_c (zwk_c (zwk_c (zwk_c (zwk_n (zwk_n (zwk_n zwk_e)))))))
  · refine q_iconst C dX12_areTape_6 (n := 7) rfl ?_
    refine q_goto C 11 dX12_areTape_7 rfl ?_
    exact zK.weak (J_5 1 (by omega) (by omega) (by omega)) (zwk_c (zwk_c (zwk_c (zwk_c (zwk_n (zwk_n (zwk_n zwk_e)))))))
theorem c_X12_isTapeDefined {w : zWp} {T : zTl} {M : zMm} {J : zJm} {R : zRm'} {G : zGt} {F : zRm'} {a : Nat} (hI : zI G M) (hF : zF F R) (h0 : zModel T F G a) (v1 : Int) (v2 : Int) (p1 : 0 ≤ v1 ∧ 0 ≤ v2 ∧ v1 + v2 ≤ 440) : zCt w 1 0 0 yX12_isTapeDefined cX12_isTapeDefined 5 (some .boolean) [.ref (w.2.1 + a), zi v1, zi v2] (T, M, J, R) (zPp T M J R (fun x => (x = 0 ∨ x = 1))) := by
  refine zCt.of rfl (Nat.le_of_ble_eq_true rfl) ?_
  intro p e s m args below meth c C
  obtain ⟨Po, hPo⟩ : ∃ Po, Po = zPp T M J R (fun x => (x = 0 ∨ x = 1)) := ⟨_, rfl⟩
  rw [← hPo]
  show zK w p e 1 0 0 s m args below meth c 5 T Po 0 [.ref (w.2.1 + a), zi v1, zi v2, .null, .null] [] (T, M, J, R)
  refine q_iload_n C dX12_isTapeDefined_0 (n := 1) rfl rfl ?_
  refine q_bipush C dX12_isTapeDefined_1 (n := 3) rfl (x := 7) (by decide) ?_
  have J_5 : ∀ (u1 : Int), (-2147483648 ≤ u1 ∧ u1 ≤ 2147483647) → (u1 = 0 ∨ u1 = 1) → (u1 = 0 ∨ v2 = 7) → zK w p e 1 0 0 s m args below meth c 5 T Po 11 [.ref (w.2.1 + a), zi v1, .null, .null, .null] [zi u1] (T, M, J, R) := by
    intro u1 h2 h3 h4
    refine q_istore_n C [.ref (w.2.1 + a), zi v1, .null, zi u1, .null] dX12_isTapeDefined_11 (n := 12) rfl rfl rfl ?_
    refine q_iconst C dX12_isTapeDefined_12 (n := 13) rfl ?_
    refine q_istore C [.ref (w.2.1 + a), zi v1, .null, zi u1, zi 0] dX12_isTapeDefined_13 (n := 15) rfl rfl rfl ?_
    have L_13 : ∀ n14 : Nat, ∀ (u6 : Int) (u7 : Int), (-2147483648 ≤ u6 ∧ u6 ≤ 2147483647) → (-2147483648 ≤ u7 ∧ u7 ≤ 2147483647) → (0 ≤ u7 ∧ u7 ≤ 7) → (u6 = 0 ∨ u6 = 1) → (u6 = 0 ∨ v2 = 7) → (7 - u7 + 1 ≤ (n14 : Int)) → zK w p e 1 0 0 s m args below meth c 5 T Po 15 [.ref (w.2.1 + a), zi v1, .null, zi u6, zi u7] [] (T, M, J, R) := by
      intro n14
      induction n14 with
      | zero =>
        intro u6 u7 h8 h9 h10 h11 h12 hm16
        exfalso
        omega
      | succ n14 ih15 =>
        intro u6 u7 h8 h9 h10 h11 h12 hm16
        refine q_iload C dX12_isTapeDefined_15 (n := 17) rfl rfl ?_
        refine q_bipush C dX12_isTapeDefined_17 (n := 19) rfl (x := 7) (by decide) ?_
        refine q_icmp_ge C 56 dX12_isTapeDefined_19 (n := 22) rfl rfl (by omega) (fun h17 => ?_) (fun h17 => ?_)
        · refine q_iload_n C dX12_isTapeDefined_56 (n := 57) rfl rfl ?_
          exact q_zret C dX12_isTapeDefined_57 ⟨rfl, rfl⟩ (by omega) (by rw [hPo]; exact ⟨u6, rfl, rfl, by omega⟩)
        · refine q_iload_n C dX12_isTapeDefined_22 (n := 23) rfl rfl ?_
          refine q_if_eq C 56 dX12_isTapeDefined_23 (n := 26) rfl rfl (by omega) (fun h18 => ?_) (fun h18 => ?_)
          · refine q_iload_n C dX12_isTapeDefined_56 (n := 57) rfl rfl ?_
            exact q_zret C dX12_isTapeDefined_57 ⟨rfl, rfl⟩ (by omega) (by rw [hPo]; exact ⟨u6, rfl, rfl, by omega⟩)
          · refine q_aload_n C dX12_isTapeDefined_26 (n := 27) rfl rfl ?_
            refine q_getR C dX12_isTapeDefined_27 (n := 30) rfl f_X12_13 (zM0 h0) (hF _ _ _ (zM2 h0)) ?_
            refine q_iload_n C dX12_isTapeDefined_30 (n := 31) rfl rfl ?_
            refine q_iload C dX12_isTapeDefined_31 (n := 33) rfl rfl ?_
            refine q_iadd C dX12_isTapeDefined_33 (n := 34) rfl (v := v1 + u7) rfl ?_
            have g19 := zI.at hI ((zM4 h0) (v1 + u7))
            refine q_bald C dX12_isTapeDefined_34 (n := 35) rfl (zM3 h0) (by omega) (v := M (a + 1) (v1 + u7)) rfl ?_
            refine q_gst C dX12_isTapeDefined_35 (n := 38) rfl (k := 200) (by decide) ?_
            refine q_iload C dX12_isTapeDefined_38 (n := 40) rfl rfl ?_
            refine q_baldT C dX12_isTapeDefined_40 (n := 41) rfl (k := 200) (N := 7) (by decide) (by omega) (fun u20 h21 => ?_)
            have J_25 : ∀ (u22 : Int), (-2147483648 ≤ u22 ∧ u22 ≤ 2147483647) → (u22 = 0 ∨ u22 = 1) → zK w p e 1 0 0 s m args below meth c 5 T Po 49 [.ref (w.2.1 + a), zi v1, .null, .null, zi u7] [zi u22] (T, M, J, R) := by
              intro u22 h23 h24
              refine q_istore_n C [.ref (w.2.1 + a), zi v1, .null, zi u22, zi u7] dX12_isTapeDefined_49 (n := 50) rfl rfl rfl ?_
              refine q_iinc C [.ref (w.2.1 + a), zi v1, .null, zi u22, zi (u7 + 1)] dX12_isTapeDefined_50 (n := 53) rfl rfl rfl rfl ?_
              refine q_goto C 15 dX12_isTapeDefined_53 rfl ?_
              exact zK.weak (ih15 u22 (u7 + 1) (by omega) (by omega) (by omega) (by omega) (by omega) (by omega)) (zwk_c (zwk_c (zwk_n (zwk_c (zwk_c zwk_e)))))
            refine q_icmp_ne C 48 dX12_isTapeDefined_41 (n := 44) rfl rfl (by omega) (fun h26 => ?_) (fun h26 => ?_)
            · refine q_iconst C dX12_isTapeDefined_48 (n := 49) rfl ?_
              exact zK.weak (J_25 0 (by omega) (by omega)) (zwk_c (zwk_c (zwk_n (zwk_n (zwk_c zwk_e)))))
            · refine q_iconst C dX12_isTapeDefined_44 (n := 45) rfl ?_
              refine q_goto C 49 dX12_isTapeDefined_45 rfl ?_
              exact zK.weak (J_25 1 (by omega) (by omega)) (zwk_c (zwk_c (zwk_n (zwk_n (zwk_c zwk_e)))))
    exact zK.weak (L_13 _ u1 0 (by omega) (by omega) (by omega) (by omega) (by omega) (Int.self_le_toNat _)) (zwk_c (zwk_c (zwk_n (zwk_c (zwk_c zwk_e)))))
  refine q_icmp_ne C 10 dX12_isTapeDefined_3 (n := 6) rfl rfl (by omega) (fun h27 => ?_) (fun h27 => ?_)
  · refine q_iconst C dX12_isTapeDefined_10 (n := 11) rfl ?_
    exact zK.weak (J_5 0 (by omega) (by omega) (by omega)) (zwk_c (zwk_c (zwk_n (zwk_n (zwk_n zwk_e)))))
  · refine q_iconst C dX12_isTapeDefined_6 (n := 7) rfl ?_
    refine q_goto C 11 dX12_isTapeDefined_7 rfl ?_
    exact zK.weak (J_5 1 (by omega) (by omega) (by omega)) (zwk_c (zwk_c (zwk_n (zwk_n (zwk_n zwk_e)))))
theorem c_X12_count {w : zWp} {T : zTl} {M : zMm} {J : zJm} {R : zRm'} {G : zGt} {F : zRm'} {a : Nat} (hI : zI G M) (hF : zF F R) (h0 : zModel T F G a) (v1 : Int) (p1 : -2147483648 ≤ v1 ∧ v1 ≤ 2147483647) : zCt w 1 0 0 yX12_count cX12_count 2 (some .int) [.ref (w.2.1 + a), zi v1] (T, M, J, R) (zPi T R G (fun x M2 => (zMd a [] [0] [] M M2))) := by
  refine zCt.of rfl (Nat.le_of_ble_eq_true rfl) ?_
  intro p e s m args below meth c C
  obtain ⟨Po, hPo⟩ : ∃ Po, Po = zPi T R G (fun x M2 => (zMd a [] [0] [] M M2)) := ⟨_, rfl⟩
  rw [← hPo]
  have hK0 : zMd a [] [0] [] M M := zMd.rf
  show zK w p e 1 0 0 s m args below meth c 2 T Po 0 [.ref (w.2.1 + a), zi v1] [] (T, M, J, R)
  refine q_aload_n C dX12_count_0 (n := 1) rfl rfl ?_
  refine q_iconst C dX12_count_1 (n := 2) rfl ?_
  refine q_putI C dX12_count_2 (n := 5) rfl f_X12_1 (zM0 h0) ⟨rfl, rfl⟩ (fun M1 (e2 : M1 = zup M a 0 0) => ?_)
  have hI3 : zI G M1 := hI.put e2 (zM1 h0) rfl (by omega)
  have hK4 := hK0.upS e2 rfl
  refine q_iload_n C dX12_count_5 (n := 6) rfl rfl ?_
  by_cases h5 : v1 = 0
  · refine q_tabIn C 36 dX12_count_6 h5 (by omega) rfl rfl ?_
    refine q_aload_n C dX12_count_36 (n := 37) rfl rfl ?_
    refine q_getR C dX12_count_37 (n := 40) rfl f_X12_17 (zM0 h0) (hF _ _ _ (zM7 h0)) ?_
    refine q_iconst C dX12_count_40 (n := 41) rfl ?_
    have g6 := zI.at hI (((zM9 h0) 0).trans (zfG_0 (by omega)))
    refine q_iald C dX12_count_41 (n := 42) rfl (zM8 h0) (by omega) (v := M (a + 2) 0) (zup_p e2 (by omega) _) ?_
    refine q_aload_n C dX12_count_42 (n := 43) rfl rfl ?_
    refine q_getR C dX12_count_43 (n := 46) rfl f_X12_17 (zM0 h0) (hF _ _ _ (zM7 h0)) ?_
    refine q_iconst C dX12_count_46 (n := 47) rfl ?_
    have g7 := zI.at hI (((zM9 h0) 1).trans (zfG_0 (by omega)))
    refine q_iald C dX12_count_47 (n := 48) rfl (zM8 h0) (by omega) (v := M (a + 2) 1) (zup_p e2 (by omega) _) ?_
    refine q_iadd C dX12_count_48 (n := 49) rfl (v := (M (a + 2) 0) + (M (a + 2) 1)) rfl ?_
    refine q_aload_n C dX12_count_49 (n := 50) rfl rfl ?_
    refine q_getR C dX12_count_50 (n := 53) rfl f_X12_17 (zM0 h0) (hF _ _ _ (zM7 h0)) ?_
    refine q_iconst C dX12_count_53 (n := 54) rfl ?_
    have g8 := zI.at hI (((zM9 h0) 2).trans (zfG_0 (by omega)))
    refine q_iald C dX12_count_54 (n := 55) rfl (zM8 h0) (by omega) (v := M (a + 2) 2) (zup_p e2 (by omega) _) ?_
    refine q_iadd C dX12_count_55 (n := 56) rfl (v := ((M (a + 2) 0) + (M (a + 2) 1)) + (M (a + 2) 2)) rfl ?_
    refine q_aload_n C dX12_count_56 (n := 57) rfl rfl ?_
    refine q_getR C dX12_count_57 (n := 60) rfl f_X12_17 (zM0 h0) (hF _ _ _ (zM7 h0)) ?_
    refine q_iconst C dX12_count_60 (n := 61) rfl ?_
    have g9 := zI.at hI (((zM9 h0) 3).trans (zfG_0 (by omega)))
    refine q_iald C dX12_count_61 (n := 62) rfl (zM8 h0) (by omega) (v := M (a + 2) 3) (zup_p e2 (by omega) _) ?_
    refine q_iadd C dX12_count_62 (n := 63) rfl (v := (((M (a + 2) 0) + (M (a + 2) 1)) + (M (a + 2) 2)) + (M (a + 2) 3)) rfl ?_
    exact q_iret C dX12_count_63 ⟨rfl, rfl⟩ (by rw [hPo]; exact ⟨(((M (a + 2) 0) + (M (a + 2) 1)) + (M (a + 2) 2)) + (M (a + 2) 3), M1, J, rfl, rfl, hI3, hK4⟩)
  by_cases h10 : v1 = 1
  · refine q_tabIn C 64 dX12_count_6 h10 (by omega) rfl rfl ?_
    refine q_aload_n C dX12_count_64 (n := 65) rfl rfl ?_
    refine q_getR C dX12_count_65 (n := 68) rfl f_X12_17 (zM0 h0) (hF _ _ _ (zM7 h0)) ?_
    refine q_sipush C dX12_count_68 (n := 71) rfl (x := 168) (by decide) ?_
    have g11 := zI.at hI (((zM9 h0) 168).trans (zfG_168 (by omega)))
    refine q_iald C dX12_count_71 (n := 72) rfl (zM8 h0) (by omega) (v := M (a + 2) 168) (zup_p e2 (by omega) _) ?_
    exact q_iret C dX12_count_72 ⟨rfl, rfl⟩ (by rw [hPo]; exact ⟨M (a + 2) 168, M1, J, rfl, rfl, hI3, hK4⟩)
  by_cases h12 : v1 = 2
  · refine q_tabIn C 73 dX12_count_6 h12 (by omega) rfl rfl ?_
    refine q_aload_n C dX12_count_73 (n := 74) rfl rfl ?_
    refine q_getR C dX12_count_74 (n := 77) rfl f_X12_17 (zM0 h0) (hF _ _ _ (zM7 h0)) ?_
    refine q_sipush C dX12_count_77 (n := 80) rfl (x := 172) (by decide) ?_
    have g13 := zI.at hI (((zM9 h0) 172).trans (zfG_172 (by omega)))
    refine q_iald C dX12_count_80 (n := 81) rfl (zM8 h0) (by omega) (v := M (a + 2) 172) (zup_p e2 (by omega) _) ?_
    exact q_iret C dX12_count_81 ⟨rfl, rfl⟩ (by rw [hPo]; exact ⟨M (a + 2) 172, M1, J, rfl, rfl, hI3, hK4⟩)
  by_cases h14 : v1 = 3
  · refine q_tabIn C 82 dX12_count_6 h14 (by omega) rfl rfl ?_
    refine q_aload_n C dX12_count_82 (n := 83) rfl rfl ?_
    have g15 := zI.at hI (zM5 h0)
    refine q_getI C dX12_count_83 (n := 86) rfl f_X12_267 (zM0 h0) (v := M a 2) (zup_n e2 (by omega)) ?_
    exact q_iret C dX12_count_86 ⟨rfl, rfl⟩ (by rw [hPo]; exact ⟨M a 2, M1, J, rfl, rfl, hI3, hK4⟩)
  refine q_tabOut C 87 dX12_count_6 (by omega) (by omega) rfl ?_
  refine q_iconst C dX12_count_87 (n := 88) rfl ?_
  exact q_iret C dX12_count_88 ⟨rfl, rfl⟩ (by rw [hPo]; exact ⟨(-1), M1, J, rfl, rfl, hI3, hK4⟩)
theorem c_X12_lines {w : zWp} {T : zTl} {M : zMm} {J : zJm} {R : zRm'} {G : zGt} {F : zRm'} {a : Nat} (hI : zI G M) (hF : zF F R) (h0 : zModel T F G a) (v1 : Int) (p1 : -2147483648 ≤ v1 ∧ v1 ≤ 2147483647) : zCt w 3 0 0 yX12_lines cX12_lines 2 (some .int) [.ref (w.2.1 + a), zi v1] (T, M, J, R) (zPi T R G (fun x M2 => (zMd a [] [0] [] M M2))) := by
  refine zCt.of rfl (Nat.le_of_ble_eq_true rfl) ?_
  intro p e s m args below meth c C
  obtain ⟨Po, hPo⟩ : ∃ Po, Po = zPi T R G (fun x M2 => (zMd a [] [0] [] M M2)) := ⟨_, rfl⟩
  rw [← hPo]
  have hK0 : zMd a [] [0] [] M M := zMd.rf
  show zK w p e 3 0 0 s m args below meth c 2 T Po 0 [.ref (w.2.1 + a), zi v1] [] (T, M, J, R)
  refine q_aload_n C dX12_lines_0 (n := 1) rfl rfl ?_
  refine q_iconst C dX12_lines_1 (n := 2) rfl ?_
  refine q_putI C dX12_lines_2 (n := 5) rfl f_X12_1 (zM0 h0) ⟨rfl, rfl⟩ (fun M1 (e2 : M1 = zup M a 0 0) => ?_)
  have hI3 : zI G M1 := hI.put e2 (zM1 h0) rfl (by omega)
  have hK4 := hK0.upS e2 rfl
  refine q_aload_n C dX12_lines_5 (n := 6) rfl rfl ?_
  refine q_iload_n C dX12_lines_6 (n := 7) rfl rfl ?_
  refine q_callVp C dX12_lines_7 (n := 10) rfl m_X12_281 v_yX12_isFile (zM0 h0) ⟨by decide, rfl⟩ (c_X12_isFile (w := w) (J := J) hI3 hF h0 v1 (by omega)) (Nat.le_of_ble_eq_true rfl) rfl rfl (Nat.le_of_ble_eq_true rfl) ⟨Nat.le_refl _, Nat.le_refl _⟩ (fun x7 h8 => ?_)
  obtain ⟨h5, h6⟩ := h8
  refine q_if_eq C 21 dX12_lines_10 (n := 13) rfl rfl (by omega) (fun h9 => ?_) (fun h9 => ?_)
  · refine q_iconst C dX12_lines_21 (n := 22) rfl ?_
    exact q_iret C dX12_lines_22 ⟨rfl, rfl⟩ (by rw [hPo]; exact ⟨(-1), M1, J, rfl, rfl, hI3, hK4⟩)
  · refine q_aload_n C dX12_lines_13 (n := 14) rfl rfl ?_
    refine q_iload_n C dX12_lines_14 (n := 15) rfl rfl ?_
    refine q_callVp C dX12_lines_15 (n := 18) rfl m_X12_285 v_yX12_linesOf (zM0 h0) ⟨by decide, rfl⟩ (c_X12_linesOf (w := w) (J := J) hI3 hF h0 v1 (by omega)) (Nat.le_of_ble_eq_true rfl) rfl rfl (Nat.le_of_ble_eq_true rfl) ⟨Nat.le_refl _, Nat.le_refl _⟩ (fun x12 h13 => ?_)
    obtain ⟨h10, h11⟩ := h13
    have hz14 : M1 (a + 2) (4 + v1) = M (a + 2) (4 + v1) := (zup_p e2 (by omega) _)
    refine q_goto C 22 dX12_lines_18 rfl ?_
    exact q_iret C dX12_lines_22 ⟨rfl, rfl⟩ (by rw [hPo]; exact ⟨x12, M1, J, rfl, rfl, hI3, hK4⟩)
/-! the bytes of a token, what a sign is, what is like a parameter: as functions of the rows -/
def zBy (M : zMm) (a : Nat) (t i : Int) : Int := if 0 ≤ M (a + 10) t then M (a + 17) (M (a + 10) t + i) else M (a + 20) (-1 - M (a + 10) t + i)
def zByp (M : zMm) (a : Nat) (t i x : Int) : Prop := x = zBy M a t i
theorem zBy.cg {M M2 : zMm} {a : Nat} {t i : Int} (h : 0 ≤ M (a + 10) t) (e10 : ∀ j, M2 (a + 10) j = M (a + 10) j) (e17 : ∀ j, M2 (a + 17) j = M (a + 17) j) : zBy M2 a t i = zBy M a t i := by
  unfold zBy
  rw [e10, e17, if_pos h, if_pos h]
def zHash (M : zMm) (a : Nat) (t c : Int) : Prop := M (a + 9) t = 3 ∧ M (a + 11) t = 1 ∧ zBy M a t 0 = c
def zSgn (M : zMm) (a : Nat) (t c x : Int) : Prop := ¬ x = 0 ↔ zHash M a t c
def zLk0 (M : zMm) (a : Nat) (p t k : Int) : Prop := M (a + 11) p = M (a + 11) t ∧ ∀ j, 0 ≤ j → j < k → zBy M a p j = zBy M a t j
def zLkq (M : zMm) (a : Nat) (p t k x : Int) : Prop := ¬ x = 0 ↔ zLk0 M a p t k
def zLk (M : zMm) (a : Nat) (p t : Int) : Prop := zLk0 M a p t (M (a + 11) p)
def zLkp (M : zMm) (a : Nat) (p t x : Int) : Prop := ¬ x = 0 ↔ zLk M a p t
theorem zLkq.one {M : zMm} {a : Nat} {p t : Int} (h : M (a + 11) p = M (a + 11) t) : zLkq M a p t 0 1 := ⟨fun _ => ⟨h, fun j j0 j1 => by omega⟩, fun _ => by decide⟩
theorem zLkq.zero {M : zMm} {a : Nat} {p t k : Int} (h : ¬ M (a + 11) p = M (a + 11) t) : zLkq M a p t k 0 := ⟨fun q => absurd rfl q, fun q => absurd q.1 h⟩
theorem zLkq.st1 {M : zMm} {a : Nat} {p t k x y1 y2 : Int} (h : zLkq M a p t k x) (hx : ¬ x = 0) (e1 : zByp M a p k y1) (e2 : zByp M a t k y2) (e : y1 = y2) : zLkq M a p t (k + 1) 1 := by
  have hh := h.mp hx
  refine ⟨fun _ => ⟨hh.1, fun j j0 j1 => ?_⟩, fun _ => by decide⟩
  by_cases q : j = k
  · subst q
    rw [← e1, ← e2]
    exact e
  · exact hh.2 j j0 (by omega)
theorem zLkq.st0 {M : zMm} {a : Nat} {p t k y1 y2 : Int} (k0 : 0 ≤ k) (e1 : zByp M a p k y1) (e2 : zByp M a t k y2) (e : ¬ y1 = y2) : zLkq M a p t (k + 1) 0 := by
  refine ⟨fun q => absurd rfl q, fun q => absurd ?_ e⟩
  rw [e1, e2]
  exact q.2 k k0 (by omega)
theorem zLkq.end {M : zMm} {a : Nat} {p t k x : Int} (h : zLkq M a p t k x) (hk : k ≤ M (a + 11) p) (hx : M (a + 11) p ≤ k ∨ x = 0) : zLkp M a p t x := by
  refine ⟨fun q => ?_, fun q => h.mpr ⟨q.1, fun j j0 j1 => q.2 j j0 (by omega)⟩⟩
  have hh := h.mp q
  refine ⟨hh.1, fun j j0 j1 => hh.2 j j0 ?_⟩
  rcases hx with z | z
  · omega
  · exact absurd z q
def zPqq (M : zMm) (a : Nat) (t : Int) : Prop := t < M a 23 ∧ M (a + 9) t = 0 ∧ ∃ k, 0 ≤ k ∧ k < M a 37 ∧ zLk M a (M (a + 23) k) t
def zPqp (M : zMm) (a : Nat) (t x : Int) : Prop := 0 ≤ x ↔ zPqq M a t
def zPqn (M : zMm) (a : Nat) (t i : Int) : Prop := ∀ k, 0 ≤ k → k < i → ¬ zLk M a (M (a + 23) k) t
theorem zPqp.no1 {M : zMm} {a : Nat} {t : Int} (h : M a 23 ≤ t) : zPqp M a t (-1) := ⟨fun q => by omega, fun q => by have := q.1; omega⟩
theorem zPqp.no2 {M : zMm} {a : Nat} {t : Int} (h : ¬ M (a + 9) t = 0) : zPqp M a t (-1) := ⟨fun q => by omega, fun q => absurd q.2.1 h⟩
theorem zPqp.no3 {M : zMm} {a : Nat} {t i : Int} (h : zPqn M a t i) (hi : M a 37 ≤ i) : zPqp M a t (-1) := ⟨fun q => by omega, fun q => by
  obtain ⟨_, _, k, k0, k1, hk⟩ := q
  exact absurd hk (h k k0 (by omega))⟩
theorem zPqp.yes {M : zMm} {a : Nat} {t k x : Int} (h1 : t < M a 23) (h2 : M (a + 9) t = 0) (k0 : 0 ≤ k) (k1 : k < M a 37) (hx : ¬ x = 0) (h : zLkp M a (M (a + 23) k) t x) : zPqp M a t k := ⟨fun _ => ⟨h1, h2, k, k0, k1, h.mp hx⟩, fun _ => k0⟩
theorem zPqn.zero {M : zMm} {a : Nat} {t : Int} : zPqn M a t 0 := fun k k0 k1 => by omega
theorem zPqn.st {M : zMm} {a : Nat} {t i x : Int} (h : zPqn M a t i) (hx : x = 0) (hl : zLkp M a (M (a + 23) i) t x) : zPqn M a t (i + 1) := fun k k0 k1 z => by
  by_cases q : k = i
  · subst q
    exact absurd hx (hl.mpr z)
  · exact h k k0 (by omega) z
def zPo (M : zMm) (a : Nat) : Prop := ∀ k, 0 ≤ k → k < M a 37 → 0 ≤ M (a + 10) (M (a + 23) k)
theorem zPo.cg {M M2 : zMm} {a : Nat} (h : zPo M a) (e10 : ∀ j, M2 (a + 10) j = M (a + 10) j) (e23 : ∀ j, M2 (a + 23) j = M (a + 23) j) (e37 : M2 a 37 = M a 37) : zPo M2 a := fun k k0 k1 => by
  rw [e10, e23]
  exact h k k0 (by omega)
theorem zPo.zero {M : zMm} {a : Nat} (h : M a 37 = 0) : zPo M a := fun k k0 k1 => by omega
theorem zPo.add {M M2 : zMm} {a : Nat} {n t : Int} (h : zPo M a) (hn : M a 37 = n) (e10 : ∀ j, M2 (a + 10) j = M (a + 10) j) (e23 : ∀ j, j ≠ n → M2 (a + 23) j = M (a + 23) j) (en : M2 (a + 23) n = t) (e37 : M2 a 37 = n + 1) (ht : 0 ≤ M (a + 10) t) : zPo M2 a := fun k k0 k1 => by
  rw [e10]
  by_cases q : k = n
  · subst q
    rw [en]
    exact ht
  · rw [e23 k q]
    exact h k k0 (by omega)
theorem zLk0.cg {M M2 : zMm} {a : Nat} {p t k : Int} (hp : 0 ≤ M (a + 10) p) (ht : 0 ≤ M (a + 10) t) (e10 : ∀ j, M2 (a + 10) j = M (a + 10) j) (e11 : ∀ j, M2 (a + 11) j = M (a + 11) j) (e17 : ∀ j, M2 (a + 17) j = M (a + 17) j) : zLk0 M2 a p t k ↔ zLk0 M a p t k := by
  unfold zLk0
  rw [e11, e11]
  constructor
  · exact fun q => ⟨q.1, fun j j0 j1 => by rw [← zBy.cg hp e10 e17, ← zBy.cg ht e10 e17]; exact q.2 j j0 j1⟩
  · exact fun q => ⟨q.1, fun j j0 j1 => by rw [zBy.cg hp e10 e17, zBy.cg ht e10 e17]; exact q.2 j j0 j1⟩
theorem zPqq.cg {M M2 : zMm} {a : Nat} {t : Int} (ho : zPo M a) (ht : t < M a 23 → 0 ≤ M (a + 10) t) (e9 : ∀ j, M2 (a + 9) j = M (a + 9) j) (e10 : ∀ j, M2 (a + 10) j = M (a + 10) j) (e11 : ∀ j, M2 (a + 11) j = M (a + 11) j) (e17 : ∀ j, M2 (a + 17) j = M (a + 17) j) (e23 : ∀ j, M2 (a + 23) j = M (a + 23) j) (s23 : M2 a 23 = M a 23) (s37 : M2 a 37 = M a 37) : zPqq M2 a t ↔ zPqq M a t := by
  unfold zPqq zLk
  rw [e9, s23, s37]
  constructor
  · rintro ⟨q1, q2, k, k0, k1, hk⟩
    refine ⟨q1, q2, k, k0, k1, ?_⟩
    rw [e23, e11] at hk
    exact (zLk0.cg (ho k k0 k1) (ht q1) e10 e11 e17).mp hk
  · rintro ⟨q1, q2, k, k0, k1, hk⟩
    refine ⟨q1, q2, k, k0, k1, ?_⟩
    rw [e23, e11]
    exact (zLk0.cg (ho k k0 k1) (ht q1) e10 e11 e17).mpr hk
/-- the line's tokens from fr on lie in the pool, the parameters too; behind each # below t (where w is not 0) a parameter stands -/
def zHs (M : zMm) (a : Nat) (fr w t : Int) : Prop := (∀ u, fr ≤ u → u < M a 23 → 0 ≤ M (a + 10) u ∧ 1 ≤ M (a + 11) u) ∧ zPo M a ∧ (¬ w = 0 → ∀ u, fr ≤ u → u < t → u < M a 23 → zHash M a u 35 → zPqq M a (u + 1))
theorem zHs.cg {M M2 : zMm} {a : Nat} {fr w t : Int} (h : zHs M a fr w t) (e9 : ∀ j, M2 (a + 9) j = M (a + 9) j) (e10 : ∀ j, M2 (a + 10) j = M (a + 10) j) (e11 : ∀ j, M2 (a + 11) j = M (a + 11) j) (e17 : ∀ j, M2 (a + 17) j = M (a + 17) j) (e23 : ∀ j, M2 (a + 23) j = M (a + 23) j) (s23 : M2 a 23 = M a 23) (s37 : M2 a 37 = M a 37) : zHs M2 a fr w t := by
  obtain ⟨h1, h2, h3⟩ := h
  refine ⟨fun u u0 u1 => ?_, h2.cg e10 e23 s37, fun hw u u0 u1 u2 hu => ?_⟩
  · rw [e10, e11]
    exact h1 u u0 (by omega)
  · rw [s23] at u2
    rw [zPqq.cg h2 (fun z => (h1 (u + 1) (by omega) z).1) e9 e10 e11 e17 e23 s23 s37]
    refine h3 hw u u0 u1 u2 ?_
    unfold zHash at hu ⊢
    rw [e9, e11, zBy.cg (h1 u u0 u2).1 e10 e17] at hu
    exact hu
theorem zHs.zero {M : zMm} {a : Nat} {fr w i : Int} (h : zLt M a (M a 23) i) (ho : zPo M a) (f0 : 0 ≤ fr) : zHs M a fr w fr := ⟨fun u u0 u1 => ⟨(h u (by omega) u1).1, (h u (by omega) u1).2.1⟩, ho, fun _ u u0 u1 => by omega⟩
theorem zHs.st {M : zMm} {a : Nat} {fr w t : Int} (h : zHs M a fr w t) (hq : w = 0 ∨ ¬ zHash M a t 35 ∨ zPqq M a (t + 1)) : zHs M a fr w (t + 1) := ⟨h.1, h.2.1, fun hw u u0 u1 u2 hu => by
  by_cases q : u = t
  · subst q
    rcases hq with z | z | z
    · exact absurd z hw
    · exact absurd hu z
    · exact z
  · exact h.2.2 hw u u0 (by omega) u2 hu⟩

theorem c_X12_byteIn {w : zWp} {T : zTl} {M : zMm} {J : zJm} {R : zRm'} {G : zGt} {F : zRm'} {a : Nat} (hI : zI G M) (hF : zF F R) (h0 : zModel T F G a) (v1 : Int) (v2 : Int) (p1 : 0 ≤ v1 ∧ v1 ≤ 18599) (p2 : 0 ≤ v2 ∧ v2 ≤ 29) : zCt w 1 0 0 yX12_byteIn cX12_byteIn 3 (some .int) [.ref (w.2.1 + a), zi v1, zi v2] (T, M, J, R) (zPp T M J R (fun x => (-128 ≤ x ∧ x ≤ 127) ∧ (zByp M a v1 v2 x))) := by
  refine zCt.of rfl (Nat.le_of_ble_eq_true rfl) ?_
  intro p e s m args below meth c C
  obtain ⟨Po, hPo⟩ : ∃ Po, Po = zPp T M J R (fun x => (-128 ≤ x ∧ x ≤ 127) ∧ (zByp M a v1 v2 x)) := ⟨_, rfl⟩
  rw [← hPo]
  show zK w p e 1 0 0 s m args below meth c 3 T Po 0 [.ref (w.2.1 + a), zi v1, zi v2] [] (T, M, J, R)
  refine q_aload_n C dX12_byteIn_0 (n := 1) rfl rfl ?_
  refine q_getR C dX12_byteIn_1 (n := 4) rfl f_X12_43 (zM0 h0) (hF _ _ _ (zM34 h0)) ?_
  refine q_iload_n C dX12_byteIn_4 (n := 5) rfl rfl ?_
  have g1 := zI.at hI ((zM36 h0) v1)
  refine q_iald C dX12_byteIn_5 (n := 6) rfl (zM35 h0) (by omega) (v := M (a + 10) v1) rfl ?_
  refine q_if_lt C 25 dX12_byteIn_6 (n := 9) rfl rfl (by omega) (fun h2 => ?_) (fun h2 => ?_)
  · refine q_aload_n C dX12_byteIn_25 (n := 26) rfl rfl ?_
    refine q_getR C dX12_byteIn_26 (n := 29) rfl f_X12_74 (zM0 h0) (hF _ _ _ (zM71 h0)) ?_
    refine q_iconst C dX12_byteIn_29 (n := 30) rfl ?_
    refine q_aload_n C dX12_byteIn_30 (n := 31) rfl rfl ?_
    refine q_getR C dX12_byteIn_31 (n := 34) rfl f_X12_43 (zM0 h0) (hF _ _ _ (zM34 h0)) ?_
    refine q_iload_n C dX12_byteIn_34 (n := 35) rfl rfl ?_
    refine q_iald C dX12_byteIn_35 (n := 36) rfl (zM35 h0) (by omega) (v := M (a + 10) v1) rfl ?_
    refine q_isub C dX12_byteIn_36 (n := 37) rfl (v := (-1) - (M (a + 10) v1)) rfl ?_
    refine q_iload_n C dX12_byteIn_37 (n := 38) rfl rfl ?_
    refine q_iadd C dX12_byteIn_38 (n := 39) rfl (v := ((-1) - (M (a + 10) v1)) + v2) rfl ?_
    have g3 := zI.at hI ((zM73 h0) (((-1) - (M (a + 10) v1)) + v2))
    refine q_bald C dX12_byteIn_39 (n := 40) rfl (zM72 h0) (by omega) (v := M (a + 20) (((-1) - (M (a + 10) v1)) + v2)) rfl ?_
    exact q_iret C dX12_byteIn_40 ⟨rfl, rfl⟩ (by rw [hPo]; exact ⟨M (a + 20) (((-1) - (M (a + 10) v1)) + v2), rfl, rfl, by omega, (by show _ = zBy M a v1 v2; unfold zBy; first | rw [if_pos (by omega)] | rw [if_neg (by omega)])⟩)
  · refine q_aload_n C dX12_byteIn_9 (n := 10) rfl rfl ?_
    refine q_getR C dX12_byteIn_10 (n := 13) rfl f_X12_65 (zM0 h0) (hF _ _ _ (zM55 h0)) ?_
    refine q_aload_n C dX12_byteIn_13 (n := 14) rfl rfl ?_
    refine q_getR C dX12_byteIn_14 (n := 17) rfl f_X12_43 (zM0 h0) (hF _ _ _ (zM34 h0)) ?_
    refine q_iload_n C dX12_byteIn_17 (n := 18) rfl rfl ?_
    refine q_iald C dX12_byteIn_18 (n := 19) rfl (zM35 h0) (by omega) (v := M (a + 10) v1) rfl ?_
    refine q_iload_n C dX12_byteIn_19 (n := 20) rfl rfl ?_
    refine q_iadd C dX12_byteIn_20 (n := 21) rfl (v := (M (a + 10) v1) + v2) rfl ?_
    have g4 := zI.at hI ((zM57 h0) ((M (a + 10) v1) + v2))
    refine q_bald C dX12_byteIn_21 (n := 22) rfl (zM56 h0) (by omega) (v := M (a + 17) ((M (a + 10) v1) + v2)) rfl ?_
    refine q_goto C 40 dX12_byteIn_22 rfl ?_
    exact q_iret C dX12_byteIn_40 ⟨rfl, rfl⟩ (by rw [hPo]; exact ⟨M (a + 17) ((M (a + 10) v1) + v2), rfl, rfl, by omega, (by show _ = zBy M a v1 v2; unfold zBy; first | rw [if_pos (by omega)] | rw [if_neg (by omega)])⟩)
theorem c_X12_bad {w : zWp} {T : zTl} {M : zMm} {J : zJm} {R : zRm'} {G : zGt} {F : zRm'} {a : Nat} (hI : zI G M) (hF : zF F R) (h0 : zModel T F G a) (v1 : Int) (v2 : Int) (v3 : Int) (v4 : Int) (p1 : -2147483648 ≤ v1 ∧ v1 ≤ 2147483647) (p2 : -2147483648 ≤ v2 ∧ v2 ≤ 2147483647) (p3 : -2147483648 ≤ v3 ∧ v3 ≤ 2147483647) (p4 : -2147483648 ≤ v4 ∧ v4 ≤ 2147483647) : zCt w 1 0 0 yX12_bad cX12_bad 5 (some .boolean) [.ref (w.2.1 + a), zi v1, zi v2, zi v3, zi v4] (T, M, J, R) (zPi T R G (fun x M2 => (zMd a [] [] [(18, 11), (18, 12), (18, 13), (18, 14)] M M2) ∧ (x = 0 ∨ x = 1) ∧ (x = 0))) := by
  refine zCt.of rfl (Nat.le_of_ble_eq_true rfl) ?_
  intro p e s m args below meth c C
  obtain ⟨Po, hPo⟩ : ∃ Po, Po = zPi T R G (fun x M2 => (zMd a [] [] [(18, 11), (18, 12), (18, 13), (18, 14)] M M2) ∧ (x = 0 ∨ x = 1) ∧ (x = 0)) := ⟨_, rfl⟩
  rw [← hPo]
  have hK0 : zMd a [] [] [(18, 11), (18, 12), (18, 13), (18, 14)] M M := zMd.rf
  show zK w p e 1 0 0 s m args below meth c 5 T Po 0 [.ref (w.2.1 + a), zi v1, zi v2, zi v3, zi v4] [] (T, M, J, R)
  refine q_aload_n C dX12_bad_0 (n := 1) rfl rfl ?_
  refine q_getR C dX12_bad_1 (n := 4) rfl f_X12_68 (zM0 h0) (hF _ _ _ (zM65 h0)) ?_
  refine q_bipush C dX12_bad_4 (n := 6) rfl (x := 11) (by decide) ?_
  refine q_iload_n C dX12_bad_6 (n := 7) rfl rfl ?_
  refine q_iast C dX12_bad_7 (n := 8) rfl (zM66 h0) (by omega)  (fun M1 e2 => ?_)
  have hI3 : zI G M1 := hI.put e2 (((zM67 h0) 11).trans (zwG_1 (by omega))) rfl (by omega)
  have hK4 := hK0.upP e2 rfl
  refine q_aload_n C dX12_bad_8 (n := 9) rfl rfl ?_
  refine q_getR C dX12_bad_9 (n := 12) rfl f_X12_68 (zM0 h0) (hF _ _ _ (zM65 h0)) ?_
  refine q_bipush C dX12_bad_12 (n := 14) rfl (x := 12) (by decide) ?_
  refine q_iload_n C dX12_bad_14 (n := 15) rfl rfl ?_
  refine q_iast C dX12_bad_15 (n := 16) rfl (zM66 h0) (by omega)  (fun M5 e6 => ?_)
  have hI7 : zI G M5 := hI3.put e6 (((zM67 h0) 12).trans (zwG_1 (by omega))) rfl (by omega)
  have hK8 := hK4.upP e6 rfl
  refine q_aload_n C dX12_bad_16 (n := 17) rfl rfl ?_
  refine q_getR C dX12_bad_17 (n := 20) rfl f_X12_68 (zM0 h0) (hF _ _ _ (zM65 h0)) ?_
  refine q_bipush C dX12_bad_20 (n := 22) rfl (x := 13) (by decide) ?_
  refine q_iload_n C dX12_bad_22 (n := 23) rfl rfl ?_
  refine q_iast C dX12_bad_23 (n := 24) rfl (zM66 h0) (by omega)  (fun M9 e10 => ?_)
  have hI11 : zI G M9 := hI7.put e10 (((zM67 h0) 13).trans (zwG_1 (by omega))) rfl (by omega)
  have hK12 := hK8.upP e10 rfl
  refine q_aload_n C dX12_bad_24 (n := 25) rfl rfl ?_
  refine q_getR C dX12_bad_25 (n := 28) rfl f_X12_68 (zM0 h0) (hF _ _ _ (zM65 h0)) ?_
  refine q_bipush C dX12_bad_28 (n := 30) rfl (x := 14) (by decide) ?_
  refine q_iload C dX12_bad_30 (n := 32) rfl rfl ?_
  refine q_iast C dX12_bad_32 (n := 33) rfl (zM66 h0) (by omega)  (fun M13 e14 => ?_)
  have hI15 : zI G M13 := hI11.put e14 (((zM67 h0) 14).trans (zwG_1 (by omega))) rfl (by omega)
  have hK16 := hK12.upP e14 rfl
  refine q_iconst C dX12_bad_33 (n := 34) rfl ?_
  exact q_zret C dX12_bad_34 ⟨rfl, rfl⟩ (by omega) (by rw [hPo]; exact ⟨0, M13, J, rfl, rfl, hI15, hK16, by omega, by omega⟩)
theorem c_X12_badAt {w : zWp} {T : zTl} {M : zMm} {J : zJm} {R : zRm'} {G : zGt} {F : zRm'} {a : Nat} (hI : zI G M) (hF : zF F R) (h0 : zModel T F G a) (v1 : Int) (v2 : Int) (p1 : -2147483648 ≤ v1 ∧ v1 ≤ 2147483647) (p2 : 0 ≤ v2 ∧ v2 ≤ 18599) : zCt w 2 0 0 yX12_badAt cX12_badAt 3 (some .boolean) [.ref (w.2.1 + a), zi v1, zi v2] (T, M, J, R) (zPi T R G (fun x M2 => (zMd a [] [] [(18, 11), (18, 12), (18, 13), (18, 14)] M M2) ∧ (x = 0 ∨ x = 1) ∧ (x = 0))) := by
  refine zCt.of rfl (Nat.le_of_ble_eq_true rfl) ?_
  intro p e s m args below meth c C
  obtain ⟨Po, hPo⟩ : ∃ Po, Po = zPi T R G (fun x M2 => (zMd a [] [] [(18, 11), (18, 12), (18, 13), (18, 14)] M M2) ∧ (x = 0 ∨ x = 1) ∧ (x = 0)) := ⟨_, rfl⟩
  rw [← hPo]
  have hK0 : zMd a [] [] [(18, 11), (18, 12), (18, 13), (18, 14)] M M := zMd.rf
  show zK w p e 2 0 0 s m args below meth c 3 T Po 0 [.ref (w.2.1 + a), zi v1, zi v2] [] (T, M, J, R)
  refine q_aload_n C dX12_badAt_0 (n := 1) rfl rfl ?_
  refine q_iload_n C dX12_badAt_1 (n := 2) rfl rfl ?_
  refine q_aload_n C dX12_badAt_2 (n := 3) rfl rfl ?_
  refine q_getR C dX12_badAt_3 (n := 6) rfl f_X12_49 (zM0 h0) (hF _ _ _ (zM40 h0)) ?_
  refine q_iload_n C dX12_badAt_6 (n := 7) rfl rfl ?_
  have g1 := zI.at hI ((zM42 h0) v2)
  refine q_iald C dX12_badAt_7 (n := 8) rfl (zM41 h0) (by omega) (v := M (a + 12) v2) rfl ?_
  refine q_aload_n C dX12_badAt_8 (n := 9) rfl rfl ?_
  refine q_getR C dX12_badAt_9 (n := 12) rfl f_X12_52 (zM0 h0) (hF _ _ _ (zM43 h0)) ?_
  refine q_iload_n C dX12_badAt_12 (n := 13) rfl rfl ?_
  have g2 := zI.at hI ((zM45 h0) v2)
  refine q_iald C dX12_badAt_13 (n := 14) rfl (zM44 h0) (by omega) (v := M (a + 13) v2) rfl ?_
  refine q_aload_n C dX12_badAt_14 (n := 15) rfl rfl ?_
  refine q_getR C dX12_badAt_15 (n := 18) rfl f_X12_55 (zM0 h0) (hF _ _ _ (zM46 h0)) ?_
  refine q_iload_n C dX12_badAt_18 (n := 19) rfl rfl ?_
  have g3 := zI.at hI ((zM48 h0) v2)
  refine q_iald C dX12_badAt_19 (n := 20) rfl (zM47 h0) (by omega) (v := M (a + 14) v2) rfl ?_
  refine q_callVi C dX12_badAt_20 (n := 23) rfl m_X12_373 v_yX12_bad (zM0 h0) ⟨by decide, rfl⟩ (c_X12_bad (w := w) (J := J) hI hF h0 v1 (M (a + 12) v2) (M (a + 13) v2) (M (a + 14) v2) (by omega) (by omega) (by omega) (by omega)) (Nat.le_of_ble_eq_true rfl) rfl rfl (Nat.le_of_ble_eq_true rfl) ⟨Nat.le_refl _, Nat.le_refl _⟩ (fun x10 M6 J7  hI8 h9 => ?_)
  obtain ⟨hk11, h4, h5⟩ := h9
  have hK12 := hK0.tr hk11 rfl rfl rfl
  exact q_zret C dX12_badAt_23 ⟨rfl, rfl⟩ (by omega) (by rw [hPo]; exact ⟨x10, M6, J7, rfl, rfl, hI8, hK12, by omega, by omega⟩)
theorem c_X12_badToken {w : zWp} {T : zTl} {M : zMm} {J : zJm} {R : zRm'} {G : zGt} {F : zRm'} {a : Nat} (hI : zI G M) (hF : zF F R) (h0 : zModel T F G a) (v1 : Int) (v2 : Int) (p1 : -2147483648 ≤ v1 ∧ v1 ≤ 2147483647) (p2 : 0 ≤ v2 ∧ v2 ≤ 1000) : zCt w 3 0 0 yX12_badToken cX12_badToken 3 (some .boolean) [.ref (w.2.1 + a), zi v1, zi v2] (T, M, J, R) (zPi T R G (fun x M2 => (zMd a [] [] [(18, 11), (18, 12), (18, 13), (18, 14)] M M2) ∧ (x = 0 ∨ x = 1) ∧ (x = 0))) := by
  refine zCt.of rfl (Nat.le_of_ble_eq_true rfl) ?_
  intro p e s m args below meth c C
  obtain ⟨Po, hPo⟩ : ∃ Po, Po = zPi T R G (fun x M2 => (zMd a [] [] [(18, 11), (18, 12), (18, 13), (18, 14)] M M2) ∧ (x = 0 ∨ x = 1) ∧ (x = 0)) := ⟨_, rfl⟩
  rw [← hPo]
  have hK0 : zMd a [] [] [(18, 11), (18, 12), (18, 13), (18, 14)] M M := zMd.rf
  show zK w p e 3 0 0 s m args below meth c 3 T Po 0 [.ref (w.2.1 + a), zi v1, zi v2] [] (T, M, J, R)
  refine q_iload_n C dX12_badToken_0 (n := 1) rfl rfl ?_
  refine q_aload_n C dX12_badToken_1 (n := 2) rfl rfl ?_
  have g1 := zI.at hI (zM58 h0)
  refine q_getI C dX12_badToken_2 (n := 5) rfl f_X12_355 (zM0 h0) (v := M a 23) rfl ?_
  refine q_icmp_ge C 17 dX12_badToken_5 (n := 8) rfl rfl (by omega) (fun h2 => ?_) (fun h2 => ?_)
  · refine q_aload_n C dX12_badToken_17 (n := 18) rfl rfl ?_
    refine q_iload_n C dX12_badToken_18 (n := 19) rfl rfl ?_
    refine q_aload_n C dX12_badToken_19 (n := 20) rfl rfl ?_
    have g3 := zI.at hI (zM63 h0)
    refine q_getI C dX12_badToken_20 (n := 23) rfl f_X12_379 (zM0 h0) (v := M a 28) rfl ?_
    refine q_aload_n C dX12_badToken_23 (n := 24) rfl rfl ?_
    have g4 := zI.at hI (zM64 h0)
    refine q_getI C dX12_badToken_24 (n := 27) rfl f_X12_382 (zM0 h0) (v := M a 29) rfl ?_
    refine q_aload_n C dX12_badToken_27 (n := 28) rfl rfl ?_
    have g5 := zI.at hI (zM62 h0)
    refine q_getI C dX12_badToken_28 (n := 31) rfl f_X12_385 (zM0 h0) (v := M a 27) rfl ?_
    refine q_callVi C dX12_badToken_31 (n := 34) rfl m_X12_373 v_yX12_bad (zM0 h0) ⟨by decide, rfl⟩ (c_X12_bad (w := w) (J := J) hI hF h0 v1 (M a 28) (M a 29) (M a 27) (by omega) (by omega) (by omega) (by omega)) (Nat.le_of_ble_eq_true rfl) rfl rfl (Nat.le_of_ble_eq_true rfl) ⟨Nat.le_refl _, Nat.le_refl _⟩ (fun x12 M8 J9  hI10 h11 => ?_)
    obtain ⟨hk13, h6, h7⟩ := h11
    have hK14 := hK0.tr hk13 rfl rfl rfl
    exact q_zret C dX12_badToken_34 ⟨rfl, rfl⟩ (by omega) (by rw [hPo]; exact ⟨x12, M8, J9, rfl, rfl, hI10, hK14, by omega, by omega⟩)
  · refine q_aload_n C dX12_badToken_8 (n := 9) rfl rfl ?_
    refine q_iload_n C dX12_badToken_9 (n := 10) rfl rfl ?_
    refine q_iload_n C dX12_badToken_10 (n := 11) rfl rfl ?_
    refine q_callVi C dX12_badToken_11 (n := 14) rfl m_X12_376 v_yX12_badAt (zM0 h0) ⟨by decide, rfl⟩ (c_X12_badAt (w := w) (J := J) hI hF h0 v1 v2 (by omega) (by omega)) (Nat.le_of_ble_eq_true rfl) rfl rfl (Nat.le_of_ble_eq_true rfl) ⟨Nat.le_refl _, Nat.le_refl _⟩ (fun x21 M17 J18  hI19 h20 => ?_)
    obtain ⟨hk22, h15, h16⟩ := h20
    have hK23 := hK0.tr hk22 rfl rfl rfl
    refine q_goto C 34 dX12_badToken_14 rfl ?_
    exact q_zret C dX12_badToken_34 ⟨rfl, rfl⟩ (by omega) (by rw [hPo]; exact ⟨x21, M17, J18, rfl, rfl, hI19, hK23, by omega, by omega⟩)
theorem c_X12_bodyAt {w : zWp} {T : zTl} {M : zMm} {J : zJm} {R : zRm'} {G : zGt} {F : zRm'}  (hI : zI G M) (hF : zF F R) (v1 : Int) (v2 : Int) : zCt w 1 0 0 yX12_bodyAt cX12_bodyAt 2 (some .int) [zi v1, zi v2] (T, M, J, R) (zPp T M J R (fun x => (x = 20 * v1 + v2))) := by
  refine zCt.of rfl (Nat.le_of_ble_eq_true rfl) ?_
  intro p e s m args below meth c C
  obtain ⟨Po, hPo⟩ : ∃ Po, Po = zPp T M J R (fun x => (x = 20 * v1 + v2)) := ⟨_, rfl⟩
  rw [← hPo]
  show zK w p e 1 0 0 s m args below meth c 2 T Po 0 [zi v1, zi v2] [] (T, M, J, R)
  refine q_bipush C dX12_bodyAt_0 (n := 2) rfl (x := 20) (by decide) ?_
  refine q_iload_n C dX12_bodyAt_2 (n := 3) rfl rfl ?_
  refine q_imul C dX12_bodyAt_3 (n := 4) rfl (v := 20 * v1) rfl ?_
  refine q_iload_n C dX12_bodyAt_4 (n := 5) rfl rfl ?_
  refine q_iadd C dX12_bodyAt_5 (n := 6) rfl (v := (20 * v1) + v2) rfl ?_
  exact q_iret C dX12_bodyAt_6 ⟨rfl, rfl⟩ (by rw [hPo]; exact ⟨(20 * v1) + v2, rfl, rfl, by omega⟩)
theorem c_X12_bodyByte {w : zWp} {T : zTl} {M : zMm} {J : zJm} {R : zRm'} {G : zGt} {F : zRm'}  (hI : zI G M) (hF : zF F R) (v1 : Int) (v2 : Int) : zCt w 2 0 0 yX12_bodyByte cX12_bodyByte 2 (some .int) [zi v1, zi v2] (T, M, J, R) (zPp T M J R (fun x => (x = 360 + 30 * (20 * v1 + v2)))) := by
  refine zCt.of rfl (Nat.le_of_ble_eq_true rfl) ?_
  intro p e s m args below meth c C
  obtain ⟨Po, hPo⟩ : ∃ Po, Po = zPp T M J R (fun x => (x = 360 + 30 * (20 * v1 + v2))) := ⟨_, rfl⟩
  rw [← hPo]
  show zK w p e 2 0 0 s m args below meth c 2 T Po 0 [zi v1, zi v2] [] (T, M, J, R)
  refine q_sipush C dX12_bodyByte_0 (n := 3) rfl (x := 360) (by decide) ?_
  refine q_bipush C dX12_bodyByte_3 (n := 5) rfl (x := 30) (by decide) ?_
  refine q_iload_n C dX12_bodyByte_5 (n := 6) rfl rfl ?_
  refine q_iload_n C dX12_bodyByte_6 (n := 7) rfl rfl ?_
  refine q_callSp C dX12_bodyByte_7 (n := 10) rfl m_X12_412 s_yX12_bodyAt (c_X12_bodyAt (w := w) (J := J) hI hF v1 v2) (Nat.le_of_ble_eq_true rfl) rfl rfl (Nat.le_of_ble_eq_true rfl) ⟨Nat.le_refl _, Nat.le_refl _⟩ (fun x2 h3 => ?_)
  obtain rfl : x2 = 20 * v1 + v2 := h3
  refine q_imul C dX12_bodyByte_10 (n := 11) rfl (v := 30 * (20 * v1 + v2)) rfl ?_
  refine q_iadd C dX12_bodyByte_11 (n := 12) rfl (v := 360 + (30 * (20 * v1 + v2))) rfl ?_
  exact q_iret C dX12_bodyByte_12 ⟨rfl, rfl⟩ (by rw [hPo]; exact ⟨360 + (30 * (20 * v1 + v2)), rfl, rfl, by omega⟩)
theorem c_X12_lexAt {w : zWp} {T : zTl} {M : zMm} {J : zJm} {R : zRm'} {G : zGt} {F : zRm'} {a : Nat} (hI : zI G M) (hF : zF F R) (h0 : zModel T F G a) (v1 : Int) (v2 : Int) (p1 : 0 ≤ v1 ∧ v1 ≤ v2 ∧ v2 ≤ 61999) : zCt w 2 0 0 yX12_lexAt cX12_lexAt 7 (some .int) [.ref (w.2.1 + a), zi v1, zi v2] (T, M, J, R) (zPi T R G (fun x M2 => (zMd a [] [34] [] M M2) ∧ (0 ≤ x ∧ (x ≤ v2 - v1 ∨ v1 = v2 ∧ x ≤ 2)))) := by
  refine zCt.of rfl (Nat.le_of_ble_eq_true rfl) ?_
  intro p e s m args below meth c C
  obtain ⟨Po, hPo⟩ : ∃ Po, Po = zPi T R G (fun x M2 => (zMd a [] [34] [] M M2) ∧ (0 ≤ x ∧ (x ≤ v2 - v1 ∨ v1 = v2 ∧ x ≤ 2))) := ⟨_, rfl⟩
  rw [← hPo]
  have hK0 : zMd a [] [34] [] M M := zMd.rf
  show zK w p e 2 0 0 s m args below meth c 7 T Po 0 [.ref (w.2.1 + a), zi v1, zi v2, .null, .null, .null, .null] [] (T, M, J, R)
  refine q_aload_n C dX12_lexAt_0 (n := 1) rfl rfl ?_
  refine q_getR C dX12_lexAt_1 (n := 4) rfl f_X12_65 (zM0 h0) (hF _ _ _ (zM55 h0)) ?_
  refine q_iload_n C dX12_lexAt_4 (n := 5) rfl rfl ?_
  have g1 := zI.at hI ((zM57 h0) v1)
  refine q_bald C dX12_lexAt_5 (n := 6) rfl (zM56 h0) (by omega) (v := M (a + 17) v1) rfl ?_
  refine q_istore_n C [.ref (w.2.1 + a), zi v1, zi v2, zi (M (a + 17) v1), .null, .null, .null] dX12_lexAt_6 (n := 7) rfl rfl rfl ?_
  refine q_iload_n C dX12_lexAt_7 (n := 8) rfl rfl ?_
  refine q_istore C [.ref (w.2.1 + a), zi v1, zi v2, zi (M (a + 17) v1), zi v1, .null, .null] dX12_lexAt_8 (n := 10) rfl rfl rfl ?_
  refine q_iload_n C dX12_lexAt_10 (n := 11) rfl rfl ?_
  refine q_callSp C dX12_lexAt_11 (n := 14) rfl m_X12_304 s_yX12_isStart (c_X12_isStart (w := w) (J := J) hI hF (M (a + 17) v1) (by omega)) (Nat.le_of_ble_eq_true rfl) rfl rfl (Nat.le_of_ble_eq_true rfl) ⟨Nat.le_refl _, Nat.le_refl _⟩ (fun x3 h4 => ?_)
  have J_5 : zK w p e 2 0 0 s m args below meth c 7 T Po 24 [.ref (w.2.1 + a), zi v1, zi v2, zi (M (a + 17) v1), zi v1, .null, .null] [] (T, M, J, R) := by
    refine q_aload_n C dX12_lexAt_24 (n := 25) rfl rfl ?_
    refine q_iload_n C dX12_lexAt_25 (n := 26) rfl rfl ?_
    refine q_callSp C dX12_lexAt_26 (n := 29) rfl m_X12_307 s_yX12_isDigit (c_X12_isDigit (w := w) (J := J) hI hF (M (a + 17) v1) (by omega)) (Nat.le_of_ble_eq_true rfl) rfl rfl (Nat.le_of_ble_eq_true rfl) ⟨Nat.le_refl _, Nat.le_refl _⟩ (fun x8 h9 => ?_)
    obtain ⟨h6, h7⟩ := h9
    have J_14 : ∀ (u10 : Int), (-2147483648 ≤ u10 ∧ u10 ≤ 2147483647) → (u10 = 0 ∨ u10 = 1) → (0 ≤ u10 ∧ u10 ≤ 3) → zK w p e 2 0 0 s m args below meth c 7 T Po 37 [.ref (w.2.1 + a), zi v1, zi v2, .null, zi v1, .null, .null] [zi u10, .ref (w.2.1 + a)] (T, M, J, R) := by
      intro u10 h11 h12 h13
      refine q_putI C dX12_lexAt_37 (n := 40) rfl f_X12_388 (zM0 h0) ⟨rfl, rfl⟩ (fun M15 (e16 : M15 = zup M a 34 u10) => ?_)
      have hI17 : zI G M15 := hI.put e16 (zM77 h0) rfl (by omega)
      have hK18 := hK0.upS e16 rfl
      have L_22 : ∀ n23 : Nat, ∀ (u19 : Int), (-2147483648 ≤ u19 ∧ u19 ≤ 2147483647) → (v1 ≤ u19 ∧ u19 ≤ v2) → (v2 - u19 + 1 ≤ (n23 : Int)) → zK w p e 2 0 0 s m args below meth c 7 T Po 40 [.ref (w.2.1 + a), zi v1, zi v2, .null, zi u19, .null, .null] [] (T, M15, J, R) := by
        intro n23
        induction n23 with
        | zero =>
          intro u19 h20 h21 hm25
          exfalso
          omega
        | succ n23 ih24 =>
          intro u19 h20 h21 hm25
          refine q_iload C dX12_lexAt_40 (n := 42) rfl rfl ?_
          refine q_iload_n C dX12_lexAt_42 (n := 43) rfl rfl ?_
          refine q_icmp_ge C 78 dX12_lexAt_43 (n := 46) rfl rfl (by omega) (fun h26 => ?_) (fun h26 => ?_)
          · refine q_iload C dX12_lexAt_78 (n := 80) rfl rfl ?_
            refine q_iload_n C dX12_lexAt_80 (n := 81) rfl rfl ?_
            refine q_isub C dX12_lexAt_81 (n := 82) rfl (v := u19 - v1) rfl ?_
            exact q_iret C dX12_lexAt_82 ⟨rfl, rfl⟩ (by rw [hPo]; exact ⟨u19 - v1, M15, J, rfl, rfl, hI17, hK18, by omega⟩)
          · refine q_aload_n C dX12_lexAt_46 (n := 47) rfl rfl ?_
            refine q_getR C dX12_lexAt_47 (n := 50) rfl f_X12_65 (zM0 h0) (hF _ _ _ (zM55 h0)) ?_
            refine q_iload C dX12_lexAt_50 (n := 52) rfl rfl ?_
            have g27 := zI.at hI ((zM57 h0) u19)
            refine q_bald C dX12_lexAt_52 (n := 53) rfl (zM56 h0) (by omega) (v := M (a + 17) u19) (zup_p e16 (by omega) _) ?_
            refine q_callSp C dX12_lexAt_53 (n := 56) rfl m_X12_304 s_yX12_isStart (c_X12_isStart (w := w) (J := J) hI17 hF (M (a + 17) u19) (by omega)) (Nat.le_of_ble_eq_true rfl) rfl rfl (Nat.le_of_ble_eq_true rfl) ⟨Nat.le_refl _, Nat.le_refl _⟩ (fun x29 h30 => ?_)
            have J_31 : zK w p e 2 0 0 s m args below meth c 7 T Po 72 [.ref (w.2.1 + a), zi v1, zi v2, .null, zi u19, .null, .null] [] (T, M15, J, R) := by
              refine q_iinc C [.ref (w.2.1 + a), zi v1, zi v2, .null, zi (u19 + 1), .null, .null] dX12_lexAt_72 (n := 75) rfl rfl rfl rfl ?_
              refine q_goto C 40 dX12_lexAt_75 rfl ?_
              exact zK.weak (ih24 (u19 + 1) (by omega) (by omega) (by omega)) (zwk_c (zwk_c (zwk_c (zwk_n (zwk_c (zwk_n (zwk_n zwk_e)))))))
            refine q_if_ne C 72 dX12_lexAt_56 (n := 59) rfl rfl (by omega) (fun h32 => ?_) (fun h32 => ?_)
            · exact zK.weak (J_31) (zwk_c (zwk_c (zwk_c (zwk_n (zwk_c (zwk_n (zwk_n zwk_e)))))))
            · refine q_aload_n C dX12_lexAt_59 (n := 60) rfl rfl ?_
              refine q_getR C dX12_lexAt_60 (n := 63) rfl f_X12_65 (zM0 h0) (hF _ _ _ (zM55 h0)) ?_
              refine q_iload C dX12_lexAt_63 (n := 65) rfl rfl ?_
              refine q_bald C dX12_lexAt_65 (n := 66) rfl (zM56 h0) (by omega) (v := M (a + 17) u19) (zup_p e16 (by omega) _) ?_
              refine q_callSp C dX12_lexAt_66 (n := 69) rfl m_X12_307 s_yX12_isDigit (c_X12_isDigit (w := w) (J := J) hI17 hF (M (a + 17) u19) (by omega)) (Nat.le_of_ble_eq_true rfl) rfl rfl (Nat.le_of_ble_eq_true rfl) ⟨Nat.le_refl _, Nat.le_refl _⟩ (fun x35 h36 => ?_)
              obtain ⟨h33, h34⟩ := h36
              refine q_if_eq C 78 dX12_lexAt_69 (n := 72) rfl rfl (by omega) (fun h37 => ?_) (fun h37 => ?_)
              · refine q_iload C dX12_lexAt_78 (n := 80) rfl rfl ?_
                refine q_iload_n C dX12_lexAt_80 (n := 81) rfl rfl ?_
                refine q_isub C dX12_lexAt_81 (n := 82) rfl (v := u19 - v1) rfl ?_
                exact q_iret C dX12_lexAt_82 ⟨rfl, rfl⟩ (by rw [hPo]; exact ⟨u19 - v1, M15, J, rfl, rfl, hI17, hK18, by omega⟩)
              · exact zK.weak (J_31) (zwk_c (zwk_c (zwk_c (zwk_n (zwk_c (zwk_n (zwk_n zwk_e)))))))
      exact zK.weak (L_22 _ v1 (by omega) (by omega) (Int.self_le_toNat _)) (zwk_c (zwk_c (zwk_c (zwk_n (zwk_c (zwk_n (zwk_n zwk_e)))))))
    refine q_if_eq C 36 dX12_lexAt_29 (n := 32) rfl rfl (by omega) (fun h38 => ?_) (fun h38 => ?_)
    · refine q_iconst C dX12_lexAt_36 (n := 37) rfl ?_
      exact zK.weak (J_14 0 (by omega) (by omega) (by omega)) (zwk_c (zwk_c (zwk_c (zwk_n (zwk_c (zwk_n (zwk_n zwk_e)))))))
    · refine q_iconst C dX12_lexAt_32 (n := 33) rfl ?_
      refine q_goto C 37 dX12_lexAt_33 rfl ?_
      exact zK.weak (J_14 1 (by omega) (by omega) (by omega)) (zwk_c (zwk_c (zwk_c (zwk_n (zwk_c (zwk_n (zwk_n zwk_e)))))))
  refine q_if_ne C 24 dX12_lexAt_14 (n := 17) rfl rfl (by omega) (fun h39 => ?_) (fun h39 => ?_)
  · exact zK.weak (J_5) (zwk_c (zwk_c (zwk_c (zwk_c (zwk_c (zwk_n (zwk_n zwk_e)))))))
  · refine q_iload_n C dX12_lexAt_17 (n := 18) rfl rfl ?_
    refine q_callSp C dX12_lexAt_18 (n := 21) rfl m_X12_307 s_yX12_isDigit (c_X12_isDigit (w := w) (J := J) hI hF (M (a + 17) v1) (by omega)) (Nat.le_of_ble_eq_true rfl) rfl rfl (Nat.le_of_ble_eq_true rfl) ⟨Nat.le_refl _, Nat.le_refl _⟩ (fun x42 h43 => ?_)
    obtain ⟨h40, h41⟩ := h43
    refine q_if_eq C 83 dX12_lexAt_21 (n := 24) rfl rfl (by omega) (fun h44 => ?_) (fun h44 => ?_)
    · refine q_iload_n C dX12_lexAt_83 (n := 84) rfl rfl ?_
      refine q_bipush C dX12_lexAt_84 (n := 86) rfl (x := 34) (by decide) ?_
      refine q_icmp_ne C 138 dX12_lexAt_86 (n := 89) rfl rfl (by omega) (fun h45 => ?_) (fun h45 => ?_)
      · refine q_aload_n C dX12_lexAt_138 (n := 139) rfl rfl ?_
        refine q_iconst C dX12_lexAt_139 (n := 140) rfl ?_
        refine q_putI C dX12_lexAt_140 (n := 143) rfl f_X12_388 (zM0 h0) ⟨rfl, rfl⟩ (fun M46 (e47 : M46 = zup M a 34 3) => ?_)
        have hI48 : zI G M46 := hI.put e47 (zM77 h0) rfl (by omega)
        have hK49 := hK0.upS e47 rfl
        refine q_iload C dX12_lexAt_143 (n := 145) rfl rfl ?_
        refine q_iconst C dX12_lexAt_145 (n := 146) rfl ?_
        refine q_iadd C dX12_lexAt_146 (n := 147) rfl (v := v1 + 1) rfl ?_
        refine q_iload_n C dX12_lexAt_147 (n := 148) rfl rfl ?_
        have J_53 : ∀ (u50 : Int), (-2147483648 ≤ u50 ∧ u50 ≤ 2147483647) → (u50 = 0 ∨ v1 + 1 < v2) → zK w p e 2 0 0 s m args below meth c 7 T Po 164 [.null, .null, .null, zi (M (a + 17) v1), .null, .null, .null] [zi u50] (T, M46, J, R) := by
          intro u50 h51 h52
          refine q_istore C [.null, .null, .null, zi (M (a + 17) v1), .null, zi u50, .null] dX12_lexAt_164 (n := 166) rfl rfl rfl ?_
          refine q_iload_n C dX12_lexAt_166 (n := 167) rfl rfl ?_
          refine q_bipush C dX12_lexAt_167 (n := 169) rfl (x := 35) (by decide) ?_
          have J_58 : ∀ (u54 : Int), (-2147483648 ≤ u54 ∧ u54 ≤ 2147483647) → (u54 = 0 ∨ u54 = 1) → (u54 = 0 ∨ v1 + 1 < v2) → zK w p e 2 0 0 s m args below meth c 7 T Po 245 [.null, .null, .null, .null, .null, .null, .null] [zi u54] (T, M46, J, R) := by
            intro u54 h55 h56 h57
            refine q_istore C [.null, .null, .null, .null, .null, .null, zi u54] dX12_lexAt_245 (n := 247) rfl rfl rfl ?_
            refine q_iload C dX12_lexAt_247 (n := 249) rfl rfl ?_
            refine q_if_eq C 256 dX12_lexAt_249 (n := 252) rfl rfl (by omega) (fun h59 => ?_) (fun h59 => ?_)
            · refine q_iconst C dX12_lexAt_256 (n := 257) rfl ?_
              exact q_iret C dX12_lexAt_257 ⟨rfl, rfl⟩ (by rw [hPo]; exact ⟨1, M46, J, rfl, rfl, hI48, hK49, by omega⟩)
            · refine q_iconst C dX12_lexAt_252 (n := 253) rfl ?_
              refine q_goto C 257 dX12_lexAt_253 rfl ?_
              exact q_iret C dX12_lexAt_257 ⟨rfl, rfl⟩ (by rw [hPo]; exact ⟨2, M46, J, rfl, rfl, hI48, hK49, by omega⟩)
          have J_61 : (v1 + 1 < v2) → zK w p e 2 0 0 s m args below meth c 7 T Po 240 [.null, .null, .null, .null, .null, .null, .null] [] (T, M46, J, R) := by
            intro h60
            refine q_iconst C dX12_lexAt_240 (n := 241) rfl ?_
            refine q_goto C 245 dX12_lexAt_241 rfl ?_
            exact zK.weak (J_58 1 (by omega) (by omega) (by omega)) (zwk_n (zwk_n (zwk_n (zwk_n (zwk_n (zwk_n (zwk_n zwk_e)))))))
          have J_62 : zK w p e 2 0 0 s m args below meth c 7 T Po 179 [.null, .null, .null, zi (M (a + 17) v1), .null, zi u50, .null] [] (T, M46, J, R) := by
            refine q_iload C dX12_lexAt_179 (n := 181) rfl rfl ?_
            refine q_bipush C dX12_lexAt_181 (n := 183) rfl (x := 61) (by decide) ?_
            have J_63 : zK w p e 2 0 0 s m args below meth c 7 T Po 210 [.null, .null, .null, zi (M (a + 17) v1), .null, zi u50, .null] [] (T, M46, J, R) := by
              refine q_iload_n C dX12_lexAt_210 (n := 211) rfl rfl ?_
              refine q_iload C dX12_lexAt_211 (n := 213) rfl rfl ?_
              have J_64 : zK w p e 2 0 0 s m args below meth c 7 T Po 244 [.null, .null, .null, .null, .null, .null, .null] [] (T, M46, J, R) := by
                refine q_iconst C dX12_lexAt_244 (n := 245) rfl ?_
                exact zK.weak (J_58 0 (by omega) (by omega) (by omega)) (zwk_n (zwk_n (zwk_n (zwk_n (zwk_n (zwk_n (zwk_n zwk_e)))))))
              refine q_icmp_ne C 244 dX12_lexAt_213 (n := 216) rfl rfl (by omega) (fun h65 => ?_) (fun h65 => ?_)
              · exact zK.weak (J_64) (zwk_n (zwk_n (zwk_n (zwk_n (zwk_n (zwk_n (zwk_n zwk_e)))))))
              · refine q_iload_n C dX12_lexAt_216 (n := 217) rfl rfl ?_
                refine q_bipush C dX12_lexAt_217 (n := 219) rfl (x := 38) (by decide) ?_
                refine q_icmp_eq C 240 dX12_lexAt_219 (n := 222) rfl rfl (by omega) (fun h66 => ?_) (fun h66 => ?_)
                · exact zK.weak (J_61 (by omega)) (zwk_n (zwk_n (zwk_n (zwk_n (zwk_n (zwk_n (zwk_n zwk_e)))))))
                · refine q_iload_n C dX12_lexAt_222 (n := 223) rfl rfl ?_
                  refine q_bipush C dX12_lexAt_223 (n := 225) rfl (x := 124) (by decide) ?_
                  refine q_icmp_eq C 240 dX12_lexAt_225 (n := 228) rfl rfl (by omega) (fun h67 => ?_) (fun h67 => ?_)
                  · exact zK.weak (J_61 (by omega)) (zwk_n (zwk_n (zwk_n (zwk_n (zwk_n (zwk_n (zwk_n zwk_e)))))))
                  · refine q_iload_n C dX12_lexAt_228 (n := 229) rfl rfl ?_
                    refine q_bipush C dX12_lexAt_229 (n := 231) rfl (x := 60) (by decide) ?_
                    refine q_icmp_eq C 240 dX12_lexAt_231 (n := 234) rfl rfl (by omega) (fun h68 => ?_) (fun h68 => ?_)
                    · exact zK.weak (J_61 (by omega)) (zwk_n (zwk_n (zwk_n (zwk_n (zwk_n (zwk_n (zwk_n zwk_e)))))))
                    · refine q_iload_n C dX12_lexAt_234 (n := 235) rfl rfl ?_
                      refine q_bipush C dX12_lexAt_235 (n := 237) rfl (x := 62) (by decide) ?_
                      refine q_icmp_ne C 244 dX12_lexAt_237 (n := 240) rfl rfl (by omega) (fun h69 => ?_) (fun h69 => ?_)
                      · exact zK.weak (J_64) (zwk_n (zwk_n (zwk_n (zwk_n (zwk_n (zwk_n (zwk_n zwk_e)))))))
                      · exact zK.weak (J_61 (by omega)) (zwk_n (zwk_n (zwk_n (zwk_n (zwk_n (zwk_n (zwk_n zwk_e)))))))
            refine q_icmp_ne C 210 dX12_lexAt_183 (n := 186) rfl rfl (by omega) (fun h70 => ?_) (fun h70 => ?_)
            · exact zK.weak (J_63) (zwk_n (zwk_n (zwk_n (zwk_c (zwk_n (zwk_c (zwk_n zwk_e)))))))
            · refine q_iload_n C dX12_lexAt_186 (n := 187) rfl rfl ?_
              refine q_bipush C dX12_lexAt_187 (n := 189) rfl (x := 61) (by decide) ?_
              refine q_icmp_eq C 240 dX12_lexAt_189 (n := 192) rfl rfl (by omega) (fun h71 => ?_) (fun h71 => ?_)
              · exact zK.weak (J_61 (by omega)) (zwk_n (zwk_n (zwk_n (zwk_n (zwk_n (zwk_n (zwk_n zwk_e)))))))
              · refine q_iload_n C dX12_lexAt_192 (n := 193) rfl rfl ?_
                refine q_bipush C dX12_lexAt_193 (n := 195) rfl (x := 33) (by decide) ?_
                refine q_icmp_eq C 240 dX12_lexAt_195 (n := 198) rfl rfl (by omega) (fun h72 => ?_) (fun h72 => ?_)
                · exact zK.weak (J_61 (by omega)) (zwk_n (zwk_n (zwk_n (zwk_n (zwk_n (zwk_n (zwk_n zwk_e)))))))
                · refine q_iload_n C dX12_lexAt_198 (n := 199) rfl rfl ?_
                  refine q_bipush C dX12_lexAt_199 (n := 201) rfl (x := 60) (by decide) ?_
                  refine q_icmp_eq C 240 dX12_lexAt_201 (n := 204) rfl rfl (by omega) (fun h73 => ?_) (fun h73 => ?_)
                  · exact zK.weak (J_61 (by omega)) (zwk_n (zwk_n (zwk_n (zwk_n (zwk_n (zwk_n (zwk_n zwk_e)))))))
                  · refine q_iload_n C dX12_lexAt_204 (n := 205) rfl rfl ?_
                    refine q_bipush C dX12_lexAt_205 (n := 207) rfl (x := 62) (by decide) ?_
                    refine q_icmp_eq C 240 dX12_lexAt_207 (n := 210) rfl rfl (by omega) (fun h74 => ?_) (fun h74 => ?_)
                    · exact zK.weak (J_61 (by omega)) (zwk_n (zwk_n (zwk_n (zwk_n (zwk_n (zwk_n (zwk_n zwk_e)))))))
                    · exact zK.weak (J_63) (zwk_n (zwk_n (zwk_n (zwk_c (zwk_n (zwk_c (zwk_n zwk_e)))))))
          refine q_icmp_ne C 179 dX12_lexAt_169 (n := 172) rfl rfl (by omega) (fun h75 => ?_) (fun h75 => ?_)
          · exact zK.weak (J_62) (zwk_n (zwk_n (zwk_n (zwk_c (zwk_n (zwk_c (zwk_n zwk_e)))))))
          · refine q_iload C dX12_lexAt_172 (n := 174) rfl rfl ?_
            refine q_bipush C dX12_lexAt_174 (n := 176) rfl (x := 35) (by decide) ?_
            refine q_icmp_eq C 240 dX12_lexAt_176 (n := 179) rfl rfl (by omega) (fun h76 => ?_) (fun h76 => ?_)
            · exact zK.weak (J_61 (by omega)) (zwk_n (zwk_n (zwk_n (zwk_n (zwk_n (zwk_n (zwk_n zwk_e)))))))
            · exact zK.weak (J_62) (zwk_n (zwk_n (zwk_n (zwk_c (zwk_n (zwk_c (zwk_n zwk_e)))))))
        refine q_icmp_ge C 163 dX12_lexAt_148 (n := 151) rfl rfl (by omega) (fun h77 => ?_) (fun h77 => ?_)
        · refine q_iconst C dX12_lexAt_163 (n := 164) rfl ?_
          exact zK.weak (J_53 0 (by omega) (by omega)) (zwk_n (zwk_n (zwk_n (zwk_c (zwk_n (zwk_n (zwk_n zwk_e)))))))
        · refine q_aload_n C dX12_lexAt_151 (n := 152) rfl rfl ?_
          refine q_getR C dX12_lexAt_152 (n := 155) rfl f_X12_65 (zM0 h0) (hF _ _ _ (zM55 h0)) ?_
          refine q_iload C dX12_lexAt_155 (n := 157) rfl rfl ?_
          refine q_iconst C dX12_lexAt_157 (n := 158) rfl ?_
          refine q_iadd C dX12_lexAt_158 (n := 159) rfl (v := v1 + 1) rfl ?_
          have g78 := zI.at hI ((zM57 h0) (v1 + 1))
          refine q_bald C dX12_lexAt_159 (n := 160) rfl (zM56 h0) (by omega) (v := M (a + 17) (v1 + 1)) (zup_p e47 (by omega) _) ?_
          refine q_goto C 164 dX12_lexAt_160 rfl ?_
          exact zK.weak (J_53 (M (a + 17) (v1 + 1)) (by omega) (by omega)) (zwk_n (zwk_n (zwk_n (zwk_c (zwk_n (zwk_n (zwk_n zwk_e)))))))
      · refine q_aload_n C dX12_lexAt_89 (n := 90) rfl rfl ?_
        refine q_iconst C dX12_lexAt_90 (n := 91) rfl ?_
        refine q_putI C dX12_lexAt_91 (n := 94) rfl f_X12_388 (zM0 h0) ⟨rfl, rfl⟩ (fun M79 (e80 : M79 = zup M a 34 2) => ?_)
        have hI81 : zI G M79 := hI.put e80 (zM77 h0) rfl (by omega)
        have hK82 := hK0.upS e80 rfl
        refine q_iinc C [.ref (w.2.1 + a), zi v1, zi v2, zi (M (a + 17) v1), zi (v1 + 1), .null, .null] dX12_lexAt_94 (n := 97) rfl rfl rfl rfl ?_
        have L_86 : ∀ n87 : Nat, ∀ (u83 : Int), (-2147483648 ≤ u83 ∧ u83 ≤ 2147483647) → (v1 + 1 ≤ u83 ∧ (u83 ≤ v2 ∨ u83 = v1 + 1)) → (v2 - u83 + 2 ≤ (n87 : Int)) → zK w p e 2 0 0 s m args below meth c 7 T Po 97 [.ref (w.2.1 + a), zi v1, zi v2, .null, zi u83, .null, .null] [] (T, M79, J, R) := by
          intro n87
          induction n87 with
          | zero =>
            intro u83 h84 h85 hm89
            exfalso
            omega
          | succ n87 ih88 =>
            intro u83 h84 h85 hm89
            refine q_iload C dX12_lexAt_97 (n := 99) rfl rfl ?_
            refine q_iload_n C dX12_lexAt_99 (n := 100) rfl rfl ?_
            have J_90 : zK w p e 2 0 0 s m args below meth c 7 T Po 121 [.null, zi v1, zi v2, .null, zi u83, .null, .null] [] (T, M79, J, R) := by
              refine q_iload C dX12_lexAt_121 (n := 123) rfl rfl ?_
              refine q_iload_n C dX12_lexAt_123 (n := 124) rfl rfl ?_
              refine q_icmp_ge C 136 dX12_lexAt_124 (n := 127) rfl rfl (by omega) (fun h91 => ?_) (fun h91 => ?_)
              · refine q_iconst C dX12_lexAt_136 (n := 137) rfl ?_
                exact q_iret C dX12_lexAt_137 ⟨rfl, rfl⟩ (by rw [hPo]; exact ⟨0, M79, J, rfl, rfl, hI81, hK82, by omega⟩)
              · refine q_iload C dX12_lexAt_127 (n := 129) rfl rfl ?_
                refine q_iconst C dX12_lexAt_129 (n := 130) rfl ?_
                refine q_iadd C dX12_lexAt_130 (n := 131) rfl (v := u83 + 1) rfl ?_
                refine q_iload_n C dX12_lexAt_131 (n := 132) rfl rfl ?_
                refine q_isub C dX12_lexAt_132 (n := 133) rfl (v := (u83 + 1) - v1) rfl ?_
                refine q_goto C 137 dX12_lexAt_133 rfl ?_
                exact q_iret C dX12_lexAt_137 ⟨rfl, rfl⟩ (by rw [hPo]; exact ⟨(u83 + 1) - v1, M79, J, rfl, rfl, hI81, hK82, by omega⟩)
            refine q_icmp_ge C 121 dX12_lexAt_100 (n := 103) rfl rfl (by omega) (fun h92 => ?_) (fun h92 => ?_)
            · exact zK.weak (J_90) (zwk_n (zwk_c (zwk_c (zwk_n (zwk_c (zwk_n (zwk_n zwk_e)))))))
            · refine q_aload_n C dX12_lexAt_103 (n := 104) rfl rfl ?_
              refine q_getR C dX12_lexAt_104 (n := 107) rfl f_X12_65 (zM0 h0) (hF _ _ _ (zM55 h0)) ?_
              refine q_iload C dX12_lexAt_107 (n := 109) rfl rfl ?_
              have g93 := zI.at hI ((zM57 h0) u83)
              refine q_bald C dX12_lexAt_109 (n := 110) rfl (zM56 h0) (by omega) (v := M (a + 17) u83) (zup_p e80 (by omega) _) ?_
              refine q_bipush C dX12_lexAt_110 (n := 112) rfl (x := 34) (by decide) ?_
              refine q_icmp_eq C 121 dX12_lexAt_112 (n := 115) rfl rfl (by omega) (fun h94 => ?_) (fun h94 => ?_)
              · exact zK.weak (J_90) (zwk_n (zwk_c (zwk_c (zwk_n (zwk_c (zwk_n (zwk_n zwk_e)))))))
              · refine q_iinc C [.ref (w.2.1 + a), zi v1, zi v2, .null, zi (u83 + 1), .null, .null] dX12_lexAt_115 (n := 118) rfl rfl rfl rfl ?_
                refine q_goto C 97 dX12_lexAt_118 rfl ?_
                exact zK.weak (ih88 (u83 + 1) (by omega) (by omega) (by omega)) (zwk_c (zwk_c (zwk_c (zwk_n (zwk_c (zwk_n (zwk_n zwk_e)))))))
        exact zK.weak (L_86 _ (v1 + 1) (by omega) (by omega) (Int.self_le_toNat _)) (zwk_c (zwk_c (zwk_c (zwk_n (zwk_c (zwk_n (zwk_n zwk_e)))))))
    · exact zK.weak (J_5) (zwk_c (zwk_c (zwk_c (zwk_c (zwk_c (zwk_n (zwk_n zwk_e)))))))
