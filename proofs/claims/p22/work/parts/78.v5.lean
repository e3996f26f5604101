theorem c_X12_expandsLineV {w : zWp} {T : zTl} {M : zMm} {J : zJm} {R : zRm'} {G : zGt} {F : zRm'} {a : Nat} {mb mp og lg : Int → Int} {wt : Int → Int} (hI : zI G M) (hF : zF F R) (h0 : zModel T F G a) (p1 : zOg M a og lg) (p2 : zMa M a mb mp) (p3 : M a 26 = 3500 ∧ 440 ≤ M a 25 ∧ M a 25 ≤ 495 ∧ M a 24 ≤ 495) (p4 : zWr wt) (p5 : zwS wt 0 (M a 23) ≤ 440) : zCt w 7 0 0 yX12_expandsLine cX12_expandsLine 1 (some .boolean) [.ref (w.2.1 + a)] (T, M, J, R) (zPi T R G (fun x M2 => (zMd a [9, 10, 11, 12, 13, 14, 15, 16, 17, 18, 24, 25, 26, 27, 28, 29, 30, 31, 32, 33, 34, 35, 36, 37, 38, 39, 40, 41, 42] [24, 25, 26, 34, 57, 58, 59, 60, 61, 62, 63, 64, 65] [] M M2) ∧ (x = 0 ∨ x = 1) ∧ (zOg M2 a og lg) ∧ (zMa M2 a mb mp) ∧ (x = 0 ∨ M2 a 61 ≤ 3440) ∧ (M2 (a + 18) 3 = M (a + 18) 3) ∧ (x = 0 ∨ zwL wt (M2 (a + 41)) (M2 a 61) ≤ 90440))) := by
  refine zCt.of rfl (Nat.le_of_ble_eq_true rfl) ?_
  intro p e s m args below meth c C
  obtain ⟨Po, hPo⟩ : ∃ Po, Po = zPi T R G (fun x M2 => (zMd a [9, 10, 11, 12, 13, 14, 15, 16, 17, 18, 24, 25, 26, 27, 28, 29, 30, 31, 32, 33, 34, 35, 36, 37, 38, 39, 40, 41, 42] [24, 25, 26, 34, 57, 58, 59, 60, 61, 62, 63, 64, 65] [] M M2) ∧ (x = 0 ∨ x = 1) ∧ (zOg M2 a og lg) ∧ (zMa M2 a mb mp) ∧ (x = 0 ∨ M2 a 61 ≤ 3440) ∧ (M2 (a + 18) 3 = M (a + 18) 3) ∧ (x = 0 ∨ zwL wt (M2 (a + 41)) (M2 a 61) ≤ 90440)) := ⟨_, rfl⟩
  rw [← hPo]
  have hK0 : zMd a [9, 10, 11, 12, 13, 14, 15, 16, 17, 18, 24, 25, 26, 27, 28, 29, 30, 31, 32, 33, 34, 35, 36, 37, 38, 39, 40, 41, 42] [24, 25, 26, 34, 57, 58, 59, 60, 61, 62, 63, 64, 65] [] M M := zMd.rf
  have gk_tokens := zI.at hI (zM58 h0)
  have gk_pooled := zI.at hI (zM59 h0)
  show zK w p e 7 0 0 s m args below meth c 1 T Po 0 [.ref (w.2.1 + a)] [] (T, M, J, R)
  refine q_aload_n C dX12_expandsLine_0 (n := 1) rfl rfl ?_
  refine q_iconst C dX12_expandsLine_1 (n := 2) rfl ?_
  refine q_putI C dX12_expandsLine_2 (n := 5) rfl f_X12_448 (zM0 h0) ⟨rfl, rfl⟩ (fun M1 (e2 : M1 = zup M a 57 0) => ?_)
  have hI3 : zI G M1 := hI.put e2 (zM142 h0) rfl (by omega)
  have hK4 := hK0.upS e2 rfl
  refine q_aload_n C dX12_expandsLine_5 (n := 6) rfl rfl ?_
  refine q_iconst C dX12_expandsLine_6 (n := 7) rfl ?_
  refine q_putI C dX12_expandsLine_7 (n := 10) rfl f_X12_445 (zM0 h0) ⟨rfl, rfl⟩ (fun M5 (e6 : M5 = zup M1 a 58 0) => ?_)
  have hI7 : zI G M5 := hI3.put e6 (zM143 h0) rfl (by omega)
  have hK8 := hK4.upS e6 rfl
  refine q_aload_n C dX12_expandsLine_10 (n := 11) rfl rfl ?_
  refine q_iconst C dX12_expandsLine_11 (n := 12) rfl ?_
  refine q_putI C dX12_expandsLine_12 (n := 15) rfl f_X12_500 (zM0 h0) ⟨rfl, rfl⟩ (fun M9 (e10 : M9 = zup M5 a 59 0) => ?_)
  have hI11 : zI G M9 := hI7.put e10 (zM144 h0) rfl (by omega)
  have hK12 := hK8.upS e10 rfl
  refine q_aload_n C dX12_expandsLine_15 (n := 16) rfl rfl ?_
  refine q_iconst C dX12_expandsLine_16 (n := 17) rfl ?_
  refine q_putI C dX12_expandsLine_17 (n := 20) rfl f_X12_458 (zM0 h0) ⟨rfl, rfl⟩ (fun M13 (e14 : M13 = zup M9 a 60 0) => ?_)
  have hI15 : zI G M13 := hI11.put e14 (zM145 h0) rfl (by omega)
  have hK16 := hK12.upS e14 rfl
  refine q_aload_n C dX12_expandsLine_20 (n := 21) rfl rfl ?_
  refine q_getR C dX12_expandsLine_21 (n := 24) rfl f_X12_95 (zM0 h0) (hF _ _ _ (zM94 h0)) ?_
  refine q_iconst C dX12_expandsLine_24 (n := 25) rfl ?_
  refine q_iconst C dX12_expandsLine_25 (n := 26) rfl ?_
  refine q_iast C dX12_expandsLine_26 (n := 27) rfl (zM95 h0) (by omega)  (fun M17 e18 => ?_)
  have hI19 : zI G M17 := hI15.put e18 ((zM96 h0) 0) rfl (by omega)
  have hK20 := hK16.upA e18 rfl
  refine q_aload_n C dX12_expandsLine_27 (n := 28) rfl rfl ?_
  refine q_iconst C dX12_expandsLine_28 (n := 29) rfl ?_
  refine q_aload_n C dX12_expandsLine_29 (n := 30) rfl rfl ?_
  have g21 := zI.at hI (zM58 h0)
  refine q_getI C dX12_expandsLine_30 (n := 33) rfl f_X12_355 (zM0 h0) (v := M a 23) ((zup_p e18 (by omega) _).trans ((zup_n e14 (by omega)).trans ((zup_n e10 (by omega)).trans ((zup_n e6 (by omega)).trans (zup_n e2 (by omega)))))) ?_
  refine q_iconst C dX12_expandsLine_33 (n := 34) rfl ?_
  refine q_callVv C dX12_expandsLine_34 (n := 37) rfl m_X12_550 v_yX12_opensLine (zM0 h0) ⟨by decide, rfl⟩ (c_X12_opensLine (w := w) (J := J) hI19 hF h0 0 (M a 23) 0 (by omega) (by omega) (by omega)) (Nat.le_of_ble_eq_true rfl) rfl rfl (Nat.le_of_ble_eq_true rfl) ⟨Nat.le_refl _, Nat.le_refl _⟩ (fun M23 J24  hI25 h26 => ?_)
  obtain ⟨hk27, h22⟩ := h26
  have hK28 := hK20.tr hk27 rfl rfl rfl
  obtain ⟨M30, e29⟩ : ∃ q, q = zup M17 a 63 0 := ⟨_, rfl⟩
  obtain ⟨M32, e31⟩ : ∃ q, q = zup M30 a 64 (M a 23) := ⟨_, rfl⟩
  have e33 : M23 = zup M32 a 65 0 := by rw [e31]; rw [e29]; exact h22
  refine q_aload_n C dX12_expandsLine_37 (n := 38) rfl rfl ?_
  have hp34 : zOg M23 a og lg := p1.cg (fun j => ((zup_p e33 (by omega) _).trans ((zup_p e31 (by omega) _).trans ((zup_p e29 (by omega) _).trans ((zup_p e18 (by omega) _).trans ((zup_p e14 (by omega) _).trans ((zup_p e10 (by omega) _).trans ((zup_p e6 (by omega) _).trans (zup_p e2 (by omega) _))))))))) (fun j => ((zup_p e33 (by omega) _).trans ((zup_p e31 (by omega) _).trans ((zup_p e29 (by omega) _).trans ((zup_p e18 (by omega) _).trans ((zup_p e14 (by omega) _).trans ((zup_p e10 (by omega) _).trans ((zup_p e6 (by omega) _).trans (zup_p e2 (by omega) _)))))))))
  have hp35 : zMa M23 a mb mp := p2.cg (fun j j0 j1 => ((zup_p e33 (by omega) _).trans ((zup_p e31 (by omega) _).trans ((zup_p e29 (by omega) _).trans ((zup_p e18 (by omega) _).trans ((zup_p e14 (by omega) _).trans ((zup_p e10 (by omega) _).trans ((zup_p e6 (by omega) _).trans (zup_p e2 (by omega) _))))))))) (fun j => ((zup_p e33 (by omega) _).trans ((zup_p e31 (by omega) _).trans ((zup_p e29 (by omega) _).trans ((zup_p e18 (by omega) _).trans ((zup_p e14 (by omega) _).trans ((zup_p e10 (by omega) _).trans ((zup_p e6 (by omega) _).trans (zup_p e2 (by omega) _)))))))))
  refine q_callVi C dX12_expandsLine_38 (n := 41) rfl m_X12_553 v_yX12_expands (zM0 h0) ⟨by decide, rfl⟩ (c_X12_expandsV (w := w) (J := J24) hI25 hF h0 hp34 hp35 (by have hz36 : M23 a 57 = 0 := ((zup_n e33 (by omega)).trans ((zup_n e31 (by omega)).trans ((zup_n e29 (by omega)).trans ((zup_p e18 (by omega) _).trans ((zup_n e14 (by omega)).trans ((zup_n e10 (by omega)).trans ((zup_n e6 (by omega)).trans (zup_s e2)))))))); have hz37 : M23 a 58 = 0 := ((zup_n e33 (by omega)).trans ((zup_n e31 (by omega)).trans ((zup_n e29 (by omega)).trans ((zup_p e18 (by omega) _).trans ((zup_n e14 (by omega)).trans ((zup_n e10 (by omega)).trans (zup_s e6))))))); have hz38 : M23 a 60 = 0 := ((zup_n e33 (by omega)).trans ((zup_n e31 (by omega)).trans ((zup_n e29 (by omega)).trans ((zup_p e18 (by omega) _).trans (zup_s e14))))); have hz39 : M23 a 26 = M a 26 := ((zup_n e33 (by omega)).trans ((zup_n e31 (by omega)).trans ((zup_n e29 (by omega)).trans ((zup_p e18 (by omega) _).trans ((zup_n e14 (by omega)).trans ((zup_n e10 (by omega)).trans ((zup_n e6 (by omega)).trans (zup_n e2 (by omega))))))))); omega) (by have hz40 : M23 a 25 = M a 25 := ((zup_n e33 (by omega)).trans ((zup_n e31 (by omega)).trans ((zup_n e29 (by omega)).trans ((zup_p e18 (by omega) _).trans ((zup_n e14 (by omega)).trans ((zup_n e10 (by omega)).trans ((zup_n e6 (by omega)).trans (zup_n e2 (by omega))))))))); have hz41 : M23 a 24 = M a 24 := ((zup_n e33 (by omega)).trans ((zup_n e31 (by omega)).trans ((zup_n e29 (by omega)).trans ((zup_p e18 (by omega) _).trans ((zup_n e14 (by omega)).trans ((zup_n e10 (by omega)).trans ((zup_n e6 (by omega)).trans (zup_n e2 (by omega))))))))); have hz42 : M23 a 59 = 0 := ((zup_n e33 (by omega)).trans ((zup_n e31 (by omega)).trans ((zup_n e29 (by omega)).trans ((zup_p e18 (by omega) _).trans ((zup_n e14 (by omega)).trans (zup_s e10)))))); omega) (by have hz43 : M23 a 63 = 0 := ((zup_n e33 (by omega)).trans ((zup_n e31 (by omega)).trans (zup_s e29))); have hz44 : M23 a 64 = M a 23 := ((zup_n e33 (by omega)).trans (zup_s e31)); have hz45 : M23 a 65 = 0 := (zup_s e33); omega) p4 (Or.inr (by rw [show M23 a 63 = 0 from ((zup_n e33 (by omega)).trans ((zup_n e31 (by omega)).trans (zup_s e29))), show M23 a 64 = M a 23 from ((zup_n e33 (by omega)).trans (zup_s e31))]; exact p5))) (Nat.le_of_ble_eq_true rfl) rfl rfl (Nat.le_of_ble_eq_true rfl) ⟨Nat.le_refl _, Nat.le_refl _⟩ (fun x56 M52 J53  hI54 h55 => ?_)
  obtain ⟨hk57, h46, h47, h48, h49, h50, h51⟩ := h55
  have hK58 := hK28.tr hk57 rfl rfl rfl
  have hz59 : M23 (a + 18) 3 = M (a + 18) 3 := ((zup_p e33 (by omega) _).trans ((zup_p e31 (by omega) _).trans ((zup_p e29 (by omega) _).trans ((zup_p e18 (by omega) _).trans ((zup_p e14 (by omega) _).trans ((zup_p e10 (by omega) _).trans ((zup_p e6 (by omega) _).trans (zup_p e2 (by omega) _))))))))
  exact q_zret C dX12_expandsLine_41 ⟨rfl, rfl⟩ (by omega) (by rw [hPo]; exact ⟨x56, M52, J53, rfl, rfl, hI54, hK58, by omega, h47, h48, by omega, by have hz60 : M52 (a + 18) 3 = M (a + 18) 3 := ((h50).trans ((zup_p e33 (by omega) _).trans ((zup_p e31 (by omega) _).trans ((zup_p e29 (by omega) _).trans ((zup_p e18 (by omega) _).trans ((zup_p e14 (by omega) _).trans ((zup_p e10 (by omega) _).trans ((zup_p e6 (by omega) _).trans (zup_p e2 (by omega) _))))))))); omega, (h51.imp id (fun q => q.resolve_left (fun z => z ((hk57.getS rfl rfl).trans (zup_s e33)))))⟩)
def zwt (lg : Int → Int) (t : Int) : Int := if 0 ≤ t ∧ t < 440 ∧ 0 ≤ lg t ∧ lg t ≤ 30 then lg t else 30
theorem zwt_r (lg : Int → Int) : zWr (zwt lg) := fun t => by
  unfold zwt
  split <;> omega
theorem zwt_ge {lg : Int → Int} {t x : Int} (hx : x ≤ 30) (h : t < 440 → x = lg t) : x ≤ zwt lg t := by
  unfold zwt
  split
  · rw [h (by omega)]
    exact Int.le_refl _
  · exact hx
theorem zSum_le {g h : Int → Int} {b : Int} : ∀ (n : Nat), (∀ i : Nat, i < n → g (b + i) ≤ h (b + i)) → zSum g b n ≤ zSum h b n
  | 0, _ => Int.le_refl _
  | n + 1, q => by
    have h1 := zSum_le n (fun i hi => q i (by omega))
    have h2 := q n (by omega)
    show zSum g b n + g (b + n) ≤ zSum h b n + h (b + n)
    omega
theorem zLt.sum {M : zMm} {a : Nat} {n i : Int} (h : zLt M a n i) (hi : 0 ≤ i) : ∀ (k : Nat), (k : Int) ≤ n → zSum (M (a + 11)) 0 k ≤ i ∧ ((k : Int) < n → zSum (M (a + 11)) 0 k ≤ M (a + 10) k)
  | 0, hk => ⟨hi, fun q => (h 0 (by omega) (by omega)).1⟩
  | k + 1, hk => by
    obtain ⟨_, h2⟩ := zLt.sum h hi k (by omega)
    have h2 := h2 (by omega)
    obtain ⟨q1, q2, q3, q4⟩ := h k (by omega) (by omega)
    have e : zSum (M (a + 11)) 0 (k + 1) = zSum (M (a + 11)) 0 k + M (a + 11) k := by
      show zSum (M (a + 11)) 0 k + M (a + 11) (0 + (k : Int)) = _
      rw [Int.zero_add]
    rw [e]
    refine ⟨by omega, fun q => ?_⟩
    have := q4 (by omega)
    rw [show ((k + 1 : Nat) : Int) = (k : Int) + 1 by omega]
    omega
theorem zLy.wt {M : zMm} {a : Nat} (h : zLy M a 440) (hn : 0 ≤ M a 23 ∧ M a 23 ≤ 440) (hl : ∀ t, 0 ≤ M (a + 11) t ∧ M (a + 11) t ≤ 30) : zwS (zwt (M (a + 11))) 0 (M a 23) ≤ 440 := by
  have h1 := (zLt.sum h (by omega) (M a 23).toNat (by omega)).1
  have h2 : zSum (zwt (M (a + 11))) 0 (M a 23 - 0).toNat ≤ zSum (M (a + 11)) 0 (M a 23).toNat := by
    rw [show M a 23 - 0 = M a 23 by omega]
    refine zSum_le _ (fun i hi => ?_)
    unfold zwt
    rw [if_pos ⟨by omega, by omega, hl _⟩]
    exact Int.le_refl _
  unfold zwS
  omega
/-- k of the listed tokens have come out -/
def zEy (M : zMm) (a : Nat) (k : Int) : Prop := 0 ≤ k ∧ 0 ≤ M a 61 ∧ M a 61 ≤ 3440 ∧ M a 99 = k ∧ ∃ wt : Int → Int, zWr wt ∧ zwL wt (M (a + 41)) (M a 61) ≤ 90440 ∧ (∀ i, 0 ≤ i → i < M a 61 → M (a + 11) (M (a + 41) i) ≤ wt (M (a + 41) i)) ∧ M a 100 ≤ zwL wt (M (a + 41)) k
theorem zEy.cg {M M2 : zMm} {a : Nat} {k : Int} (h : zEy M a k) (e1 : M2 a 61 = M a 61) (e2 : M2 a 99 = M a 99) (e3 : M2 a 100 = M a 100) (e4 : ∀ j, M2 (a + 41) j = M (a + 41) j) (e5 : ∀ j, M2 (a + 11) j = M (a + 11) j) : zEy M2 a k := by
  obtain ⟨h0, h1, h2, h3, wt, h4, h5, h6, h7⟩ := h
  have f4 : M2 (a + 41) = M (a + 41) := funext e4
  refine ⟨h0, by omega, by omega, by omega, wt, h4, by rw [f4, e1]; exact h5, fun i i0 i1 => ?_, by rw [f4, e3]; exact h7⟩
  rw [f4, e5]
  exact h6 i i0 (by omega)
theorem zEy.num {M : zMm} {a : Nat} {k : Int} (h : zEy M a k) : 0 ≤ k ∧ 0 ≤ M a 61 ∧ M a 61 ≤ 3440 ∧ M a 99 = k ∧ (M a 61 < k ∨ M a 100 ≤ 90440) := by
  obtain ⟨h0, h1, h2, h3, wt, h4, h5, h6, h7⟩ := h
  refine ⟨h0, h1, h2, h3, ?_⟩
  by_cases q : M a 61 < k
  · exact Or.inl q
  · have hm := zSum_mo (g := fun i => wt (M (a + 41) i)) (b := 0) k.toNat ((M a 61).toNat - k.toNat) (fun j _ => (h4 _).1)
    rw [show k.toNat + ((M a 61).toNat - k.toNat) = (M a 61).toNat by omega] at hm
    unfold zwL at h5 h7
    exact Or.inr (by omega)
theorem zEy.st {M M2 : zMm} {a : Nat} {k x : Int} (h : zEy M a k) (hk : k < M a 61) (hx : M (a + 11) (M (a + 41) k) = x) (e1 : M2 a 61 = M a 61) (e2 : M2 a 99 = k + 1) (e3 : M2 a 100 = M a 100 + x) (e4 : ∀ j, M2 (a + 41) j = M (a + 41) j) (e5 : ∀ j, M2 (a + 11) j = M (a + 11) j) : zEy M2 a (k + 1) := by
  obtain ⟨h0, h1, h2, h3, wt, h4, h5, h6, h7⟩ := h
  have f4 : M2 (a + 41) = M (a + 41) := funext e4
  refine ⟨by omega, by omega, by omega, e2, wt, h4, by rw [f4, e1]; exact h5, fun i i0 i1 => ?_, ?_⟩
  · rw [f4, e5]
    exact h6 i i0 (by omega)
  · rw [f4, e3]
    have hs : zwL wt (M (a + 41)) (k + 1) = zwL wt (M (a + 41)) k + wt (M (a + 41) k) := by
      unfold zwL
      rw [zSum_s h0, Int.zero_add]
    have := h6 k h0 hk
    rw [hx] at this
    omega
theorem zEy.zero {M : zMm} {a : Nat} {lg og : Int → Int} (ho : zOg M a og lg) (hl : ∀ t, M (a + 11) t ≤ 30) (h1 : 0 ≤ M a 61 ∧ M a 61 ≤ 3440) (h99 : M a 99 = 0) (h100 : M a 100 = 0) (hw : zwL (zwt lg) (M (a + 41)) (M a 61) ≤ 90440) : zEy M a 0 := by
  refine ⟨Int.le_refl _, h1.1, h1.2, h99, zwt lg, zwt_r lg, hw, fun i i0 i1 => zwt_ge (hl _) (fun q => (ho _ q).2), ?_⟩
  rw [h100]
  exact Int.le_refl _
