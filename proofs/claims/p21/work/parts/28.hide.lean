/-! the tape's bytes -/
def zby (v t : Int) : Int := zi2b (zshr v (24 - 8 * t))
/-- row r of M: below n as in M0; from n on m bytes of v -/
def zFz (M0 M : zMm) (r : Nat) (n v m : Int) : Prop := (∀ j, j < n → M r j = M0 r j) ∧ ∀ t, 0 ≤ t → t < m → M r (n + t) = zby v t
theorem zFz.nil {M : zMm} {r : Nat} {n v m : Int} (hm : m = 0) : zFz M M r n v m := ⟨fun _ _ => rfl, fun t h1 h2 => absurd h2 (by omega)⟩
theorem zFz.cg {M0 M M2 : zMm} {r : Nat} {n v m m2 : Int} (h : zFz M0 M r n v m) (e : ∀ j, M2 r j = M r j) (hm : m2 = m) : zFz M0 M2 r n v m2 := by
  subst hm
  exact ⟨fun j q => (e j).trans (h.1 j q), fun t q1 q2 => (e _).trans (h.2 t q1 q2)⟩
theorem zFz.b0 {M0 M1 M : zMm} {r : Nat} {n n0 v m : Int} (h : zFz M1 M r n v m) (e : ∀ j, M1 r j = M0 r j) (hn : n0 = n) : zFz M0 M r n0 v m := by
  subst hn
  exact ⟨fun j q => (h.1 j q).trans (e j), h.2⟩
theorem zFz.put {M0 M M2 : zMm} {r : Nat} {n v m i x : Int} (h : zFz M0 M r n v m) (e : M2 = zup M r i x) (hi : i = n + m) (hx : x = zby v m) (hm : 0 ≤ m) : zFz M0 M2 r n v (m + 1) := by
  refine ⟨fun j q => (zup_n e (by omega)).trans (h.1 j q), fun t q1 q2 => ?_⟩
  by_cases z : t = m
  · subst z
    rw [← hx, ← hi]
    exact zup_s e
  · exact (zup_n e (by omega)).trans (h.2 t q1 (by omega))
/-- a byte that may be: printable, or al -/
def zGd (c al : Int) : Prop := 32 ≤ c ∧ c ≤ 126 ∨ c = al
def zWa (g : Int → Int) (i al : Int) : Prop := ∀ j, 0 ≤ j → j < i → zGd (g j) al
theorem zWa.nil {g : Int → Int} {al : Int} : zWa g 0 al := fun j h1 h2 => absurd h2 (by omega)
theorem zWa.add {g : Int → Int} {i al : Int} (h : zWa g i al) (hi : zGd (g i) al) : zWa g (i + 1) al := fun j h1 h2 => by
  by_cases z : j = i
  · rw [z]
    exact hi
  · exact h j h1 (by omega)
theorem zWa.le {g : Int → Int} {i n al : Int} (h : zWa g i al) (hn : n ≤ i) : zWa g n al := fun j h1 h2 => h j h1 (by omega)
/-- x is the first byte below n that can't be; -1: none -/
def zWb (g : Int → Int) (n al x : Int) : Prop := x = -1 ∧ zWa g n al ∨ 0 ≤ x ∧ x < n ∧ ¬ zGd (g x) al ∧ zWa g x al
theorem zWb.eq {g h : Int → Int} {n al x y : Int} (p : zWb g n al x) (q : zWb h n al y) (e : ∀ j, 0 ≤ j → j < n → g j = h j) : x = y := by
  rcases p with ⟨rfl, p⟩ | ⟨p1, p2, p3, p4⟩
  · rcases q with ⟨rfl, q⟩ | ⟨q1, q2, q3, q4⟩
    · rfl
    · exact absurd (by rw [← e y q1 q2]; exact p y q1 q2) q3
  · rcases q with ⟨rfl, q⟩ | ⟨q1, q2, q3, q4⟩
    · exact absurd (by rw [e x p1 p2]; exact q x p1 p2) p3
    · by_cases z : x < y
      · exact absurd (by rw [e x p1 p2]; exact q4 x p1 z) p3
      · by_cases z2 : y < x
        · exact absurd (by rw [← e y q1 q2]; exact p4 y q1 z2) q3
        · omega
theorem zWb.cg {g g2 : Int → Int} {n n2 al al2 x : Int} (h : zWb g n al x) (e : ∀ j, g j = g2 j) (hn : n = n2) (ha : al = al2) : zWb g2 n2 al2 x := by
  obtain rfl : g = g2 := funext e
  subst hn ha
  exact h
/-- l: how many lines n bytes are -/
def zLi (g : Int → Int) (n l : Int) : Prop := n = 0 ∧ l = 0 ∨ 1 ≤ n ∧ l = zTen g (n - 1).toNat + 1
theorem zLi.cg {g g2 : Int → Int} {n n2 l : Int} (h : zLi g n l) (e : ∀ j, g j = g2 j) (hn : n = n2) : zLi g2 n2 l := by
  obtain rfl : g = g2 := funext e
  subst hn
  exact h
theorem zLi.ex {g : Int → Int} {n : Int} (h : 0 ≤ n) : ∃ l, zLi g n l := by
  by_cases z : n = 0
  · exact ⟨0, Or.inl ⟨z, rfl⟩⟩
  · exact ⟨_, Or.inr ⟨by omega, rfl⟩⟩
theorem zLi.eq {g h : Int → Int} {n l m : Int} (p : zLi g n l) (q : zLi h n m) (e : ∀ j, 0 ≤ j → j < n → g j = h j) : l = m := by
  rcases p with ⟨p1, p2⟩ | ⟨p1, p2⟩ <;> rcases q with ⟨q1, q2⟩ | ⟨q1, q2⟩
  · omega
  · omega
  · omega
  · rw [p2, q2, zTen_cg (g := g) (h := h) (n - 1).toNat (fun j a b => e j a (by omega))]
/-- what file k answers of n bytes -/
def zFA (g : Int → Int) (n k x : Int) : Prop := (k < 0 ∨ 3 < k) ∧ x = -2 ∨ (0 ≤ k ∧ k ≤ 3) ∧ (400 < n ∧ x = -3 ∨ n ≤ 400 ∧ ∃ b l, zWb g n 10 b ∧ zLi g n l ∧ (0 ≤ b ∧ x = -1000 - b ∨ b = -1 ∧ (40 < l ∧ x = -3 ∨ l ≤ 40 ∧ x = l)))
theorem zFA.c {g : Int → Int} {n k x b : Int} (hk : 0 ≤ k ∧ k ≤ 3) (hn : 0 ≤ n ∧ n ≤ 400) (hb : zWb g n 10 b) (h : 0 ≤ b ∧ x = -1000 - b) : zFA g n k x := by
  obtain ⟨l, hl⟩ := zLi.ex (g := g) hn.1
  exact Or.inr ⟨hk, Or.inr ⟨hn.2, b, l, hb, hl, Or.inl h⟩⟩
theorem zFA.d {g : Int → Int} {n k x b l : Int} (hk : 0 ≤ k ∧ k ≤ 3) (hn : n ≤ 400) (hb : zWb g n 10 b) (hb2 : b = -1) (hl : zLi g n l) (h : 40 < l ∧ x = -3 ∨ l ≤ 40 ∧ x = l) : zFA g n k x := Or.inr ⟨hk, Or.inr ⟨hn, b, l, hb, hl, Or.inr ⟨hb2, h⟩⟩⟩
theorem zFA.eq {g h : Int → Int} {n k x y : Int} (p : zFA g n k x) (q : zFA h n k y) (e : ∀ j, 0 ≤ j → j < n → g j = h j) : x = y := by
  rcases p with ⟨p1, p2⟩ | ⟨p1, ⟨p2, p3⟩ | ⟨p2, b, l, p3, p4, p5⟩⟩ <;> rcases q with ⟨q1, q2⟩ | ⟨q1, ⟨q2, q3⟩ | ⟨q2, b2, l2, q3, q4, q5⟩⟩
  · omega
  · omega
  · omega
  · omega
  · omega
  · omega
  · omega
  · omega
  · have e1 := zWb.eq p3 q3 e
    have e2 := zLi.eq p4 q4 e
    omega
/-- five numbers of four bytes each, from n on -/
def zFe (M0 M : zMm) (r : Nat) (n v1 v2 v3 v4 v5 : Int) : Prop := (∀ j, j < n → M r j = M0 r j) ∧ ∀ t, 0 ≤ t → t < 4 → M r (n + t) = zby v1 t ∧ M r (n + 4 + t) = zby v2 t ∧ M r (n + 8 + t) = zby v3 t ∧ M r (n + 12 + t) = zby v4 t ∧ M r (n + 16 + t) = zby v5 t
theorem zFe.of {M0 M1 M2 M3 M4 M5 : zMm} {r : Nat} {n n2 n3 n4 n5 v1 v2 v3 v4 v5 : Int} (h1 : zFz M0 M1 r n v1 4) (h2 : zFz M1 M2 r n2 v2 4) (h3 : zFz M2 M3 r n3 v3 4) (h4 : zFz M3 M4 r n4 v4 4) (h5 : zFz M4 M5 r n5 v5 4) (e2 : n2 = n + 4) (e3 : n3 = n + 8) (e4 : n4 = n + 12) (e5 : n5 = n + 16) : zFe M0 M5 r n v1 v2 v3 v4 v5 := by
  subst e2 e3 e4 e5
  refine ⟨fun j q => ?_, fun t q1 q2 => ⟨?_, ?_, ?_, ?_, h5.2 t q1 q2⟩⟩
  · rw [h5.1 j (by omega), h4.1 j (by omega), h3.1 j (by omega), h2.1 j (by omega), h1.1 j q]
  · rw [h5.1 _ (by omega), h4.1 _ (by omega), h3.1 _ (by omega), h2.1 _ (by omega), h1.2 t q1 q2]
  · rw [h5.1 _ (by omega), h4.1 _ (by omega), h3.1 _ (by omega), h2.2 t q1 q2]
  · rw [h5.1 _ (by omega), h4.1 _ (by omega), h3.2 t q1 q2]
  · rw [h5.1 _ (by omega), h4.2 t q1 q2]
theorem zFe.eq {M0 M N0 N : zMm} {r q : Nat} {n v1 v2 v3 v4 v5 : Int} (h : zFe M0 M r n v1 v2 v3 v4 v5) (g : zFe N0 N q n v1 v2 v3 v4 v5) (e : ∀ j, 0 ≤ j → j < n → M0 r j = N0 q j) : ∀ j, 0 ≤ j → j < n + 20 → M r j = N q j := fun j j0 j1 => by
  by_cases z0 : j < n
  · rw [h.1 j z0, g.1 j z0]
    exact e j j0 z0
  · by_cases z1 : j < n + 4
    · have a1 := (h.2 (j - n) (by omega) (by omega)).1
      have a2 := (g.2 (j - n) (by omega) (by omega)).1
      rw [show n + (j - n) = j by omega] at a1 a2
      rw [a1, a2]
    · by_cases z2 : j < n + 8
      · have a1 := (h.2 (j - n - 4) (by omega) (by omega)).2.1
        have a2 := (g.2 (j - n - 4) (by omega) (by omega)).2.1
        rw [show n + 4 + (j - n - 4) = j by omega] at a1 a2
        rw [a1, a2]
      · by_cases z3 : j < n + 12
        · have a1 := (h.2 (j - n - 8) (by omega) (by omega)).2.2.1
          have a2 := (g.2 (j - n - 8) (by omega) (by omega)).2.2.1
          rw [show n + 8 + (j - n - 8) = j by omega] at a1 a2
          rw [a1, a2]
        · by_cases z4 : j < n + 16
          · have a1 := (h.2 (j - n - 12) (by omega) (by omega)).2.2.2.1
            have a2 := (g.2 (j - n - 12) (by omega) (by omega)).2.2.2.1
            rw [show n + 12 + (j - n - 12) = j by omega] at a1 a2
            rw [a1, a2]
          · have a1 := (h.2 (j - n - 16) (by omega) (by omega)).2.2.2.2
            have a2 := (g.2 (j - n - 16) (by omega) (by omega)).2.2.2.2
            rw [show n + 16 + (j - n - 16) = j by omega] at a1 a2
            rw [a1, a2]

theorem c_X11_putNumber {w : zWp} {T : zTl} {M : zMm} {J : zJm} {R : zRm'} {G : zGt} {F : zRm'} {a : Nat} (hI : zI G M) (hF : zF F R) (h0 : zHideSets T F G a) (v1 : Int) (p1 : M a 1 ≤ 436) : zCt w 1 0 0 yX11_putNumber cX11_putNumber 3 none [.ref (w.2.1 + a), zi v1] (T, M, J, R) (zPv T R G (fun M2 => (zKp G 19 M M2) ∧ (M2 a 1 = M a 1 + 4) ∧ (zFz M M2 (a + 1) (M a 1) v1 4))) := by
  refine zCt.of rfl (Nat.le_of_ble_eq_true rfl) ?_
  intro p e s m args below meth c C
  obtain ⟨Po, hPo⟩ : ∃ Po, Po = zPv T R G (fun M2 => (zKp G 19 M M2) ∧ (M2 a 1 = M a 1 + 4) ∧ (zFz M M2 (a + 1) (M a 1) v1 4)) := ⟨_, rfl⟩
  rw [← hPo]
  have hK0 : zKp G 19 M M := zKp.rf
  show zK w p e 1 0 0 s m args below meth c 3 T Po 0 [.ref (w.2.1 + a), zi v1, .null] [] (T, M, J, R)
  refine q_bipush C dX11_putNumber_0 (n := 2) rfl (x := 24) (by decide) ?_
  refine q_istore_n C [.ref (w.2.1 + a), zi v1, zi 24] dX11_putNumber_2 (n := 3) rfl rfl rfl ?_
  have L_10 : ∀ n11 : Nat, ∀ (u1 : Int) (M2 : zMm) (J3 : zJm), zI G M2 → zKp G 19 M M2 → (-2147483648 ≤ u1 ∧ u1 ≤ 2147483647) → (-8 ≤ u1 ∧ u1 ≤ 24) → (8 * (M2 a 1) + u1 = 8 * (M a 1) + 24) → (zFz M M2 (a + 1) (M a 1) v1 (M2 a 1 - M a 1)) → (u1 + 9 ≤ (n11 : Int)) → zK w p e 1 0 0 s m args below meth c 3 T Po 3 [.ref (w.2.1 + a), zi v1, zi u1] [] (T, M2, J3, R) := by
    intro n11
    induction n11 with
    | zero =>
      intro u1 M2 J3 hI4 hK5 h6 h7 h8 h9 hm13
      exfalso
      omega
    | succ n11 ih12 =>
      intro u1 M2 J3 hI4 hK5 h6 h7 h8 h9 hm13
      refine q_iload_n C dX11_putNumber_3 (n := 4) rfl rfl ?_
      have J_16 : (8 * (M2 a 1) = 8 * (M a 1) + 32) → (zFz M M2 (a + 1) (M a 1) v1 4) → zK w p e 1 0 0 s m args below meth c 3 T Po 46 [.null, .null, .null] [] (T, M2, J3, R) := by
        intro h14 h15
        exact q_vret C dX11_putNumber_46 ⟨rfl, rfl⟩ (by rw [hPo]; exact ⟨M2, J3, rfl, rfl, hI4, hK5, (by have hz : M2 a 1 = M2 a 1 := rfl; omega), h15⟩)
      refine q_if_lt C 46 dX11_putNumber_4 (n := 7) rfl rfl (by omega) (fun h17 => ?_) (fun h17 => ?_)
      · exact zK.weak (J_16 (by have hz : M2 a 1 = M2 a 1 := rfl; omega) (zFz.cg h9 (fun _ => rfl) (by omega))) (zwk_n (zwk_n (zwk_n zwk_e)))
      · refine q_aload_n C dX11_putNumber_7 (n := 8) rfl rfl ?_
        have g18 := zI.at hI4 h0.2.2.2.2.1
        refine q_getI C dX11_putNumber_8 (n := 11) rfl f_X11_13 h0.1 (v := M2 a 1) rfl ?_
        refine q_sipush C dX11_putNumber_11 (n := 14) rfl (x := 440) (by decide) ?_
        refine q_icmp_ge C 46 dX11_putNumber_14 (n := 17) rfl rfl (by omega) (fun h19 => ?_) (fun h19 => ?_)
        · exact zK.weak (J_16 (by have hz : M2 a 1 = M2 a 1 := rfl; omega) (zFz.cg h9 (fun _ => rfl) (by omega))) (zwk_n (zwk_n (zwk_n zwk_e)))
        · refine q_aload_n C dX11_putNumber_17 (n := 18) rfl rfl ?_
          refine q_getR C dX11_putNumber_18 (n := 21) rfl f_X11_9 h0.1 (hF _ _ _ h0.2.1) ?_
          refine q_aload_n C dX11_putNumber_21 (n := 22) rfl rfl ?_
          refine q_getI C dX11_putNumber_22 (n := 25) rfl f_X11_13 h0.1 (v := M2 a 1) rfl ?_
          refine q_iload_n C dX11_putNumber_25 (n := 26) rfl rfl ?_
          refine q_iload_n C dX11_putNumber_26 (n := 27) rfl rfl ?_
          refine q_ishr C dX11_putNumber_27 (n := 28) rfl (v := zshr v1 u1) rfl ?_
          have g20 := zr_shr v1 u1
          refine q_i2b C dX11_putNumber_28 (n := 29) rfl (v := zi2b (zshr v1 u1)) rfl ?_
          have g21 := z8_r (zshr v1 u1)
          refine q_bast C dX11_putNumber_29 (n := 30) rfl h0.2.2.1 (by omega) (by omega) (fun M22 e23 => ?_)
          have hI24 : zI G M22 := hI4.put e23 (h0.2.2.2.1 (M2 a 1)) rfl (by omega)
          have hK25 := hK5.put e23 (h0.2.2.2.1 (M2 a 1)) (by decide)
          refine q_aload_n C dX11_putNumber_30 (n := 31) rfl rfl ?_
          refine q_dup C dX11_putNumber_31 (n := 32) rfl rfl ?_
          refine q_getI C dX11_putNumber_32 (n := 35) rfl f_X11_13 h0.1 (v := M2 a 1) (zup_p e23 (by omega) _) ?_
          refine q_iconst C dX11_putNumber_35 (n := 36) rfl ?_
          refine q_iadd C dX11_putNumber_36 (n := 37) rfl (v := (M2 a 1) + 1) rfl ?_
          refine q_putI C dX11_putNumber_37 (n := 40) rfl f_X11_13 h0.1 ⟨rfl, rfl⟩ (fun M26 (e27 : M26 = zup M22 a 1 ((M2 a 1) + 1)) => ?_)
          have hI28 : zI G M26 := hI24.put e27 h0.2.2.2.2.1 rfl (by omega)
          have hK29 := hK25.put e27 h0.2.2.2.2.1 (by decide)
          refine q_iinc C [.ref (w.2.1 + a), zi v1, zi (u1 + (-8))] dX11_putNumber_40 (n := 43) rfl rfl rfl rfl ?_
          refine q_goto C 3 dX11_putNumber_43 rfl ?_
          exact zK.weak (ih12 (u1 + (-8)) M26 J3 hI28 hK29 (by omega) (by omega) (by have hz : M26 a 1 = (M2 a 1) + 1 := (zup_s e27); omega) (zFz.cg (zFz.put h9 e23 (by omega) (by unfold zby; congr 2; omega) (by omega)) (fun j => zup_p e27 (by omega) j) (by have hz : M26 a 1 = (M2 a 1) + 1 := (zup_s e27); omega)) (by omega)) (zwk_c (zwk_c (zwk_c zwk_e)))
  exact zK.weak (L_10 _ 24 M J hI hK0 (by omega) (by omega) (by have hz : M a 1 = M a 1 := rfl; omega) (zFz.nil (by omega)) (Int.self_le_toNat _)) (zwk_c (zwk_c (zwk_c zwk_e)))
theorem c_X11_feed {w : zWp} {T : zTl} {M : zMm} {J : zJm} {R : zRm'} {G : zGt} {F : zRm'} {a : Nat} (hI : zI G M) (hF : zF F R) (h0 : zHideSets T F G a) (v1 : Int) (v2 : Int) (v3 : Int) (v4 : Int) (v5 : Int) : zCt w 2 0 0 yX11_feed cX11_feed 6 (some .int) [.ref (w.2.1 + a), zi v1, zi v2, zi v3, zi v4, zi v5] (T, M, J, R) (zPi T R G (fun x M2 => (zKp G 19 M M2) ∧ (440 < M a 1 + 20 → ∀ j : Int, M2 (a + 1) j = M (a + 1) j) ∧ (M a 1 + 20 ≤ 440 → zFe M M2 (a + 1) (M a 1) v1 v2 v3 v4 v5) ∧ (440 < M a 1 + 20 ∧ x = -1 ∧ M2 a 1 = M a 1 ∨ M a 1 + 20 ≤ 440 ∧ x = M a 1 + 20 ∧ M2 a 1 = M a 1 + 20))) := by
  refine zCt.of rfl (Nat.le_of_ble_eq_true rfl) ?_
  intro p e s m args below meth c C
  obtain ⟨Po, hPo⟩ : ∃ Po, Po = zPi T R G (fun x M2 => (zKp G 19 M M2) ∧ (440 < M a 1 + 20 → ∀ j : Int, M2 (a + 1) j = M (a + 1) j) ∧ (M a 1 + 20 ≤ 440 → zFe M M2 (a + 1) (M a 1) v1 v2 v3 v4 v5) ∧ (440 < M a 1 + 20 ∧ x = -1 ∧ M2 a 1 = M a 1 ∨ M a 1 + 20 ≤ 440 ∧ x = M a 1 + 20 ∧ M2 a 1 = M a 1 + 20)) := ⟨_, rfl⟩
  rw [← hPo]
  have hK0 : zKp G 19 M M := zKp.rf
  show zK w p e 2 0 0 s m args below meth c 6 T Po 0 [.ref (w.2.1 + a), zi v1, zi v2, zi v3, zi v4, zi v5] [] (T, M, J, R)
  refine q_aload_n C dX11_feed_0 (n := 1) rfl rfl ?_
  have g1 := zI.at hI h0.2.2.2.2.1
  refine q_getI C dX11_feed_1 (n := 4) rfl f_X11_13 h0.1 (v := M a 1) rfl ?_
  refine q_bipush C dX11_feed_4 (n := 6) rfl (x := 20) (by decide) ?_
  refine q_iadd C dX11_feed_6 (n := 7) rfl (v := (M a 1) + 20) rfl ?_
  refine q_sipush C dX11_feed_7 (n := 10) rfl (x := 440) (by decide) ?_
  refine q_icmp_le C 15 dX11_feed_10 (n := 13) rfl rfl (by omega) (fun h2 => ?_) (fun h2 => ?_)
  · refine q_aload_n C dX11_feed_15 (n := 16) rfl rfl ?_
    refine q_iload_n C dX11_feed_16 (n := 17) rfl rfl ?_
    refine q_callVv C dX11_feed_17 (n := 20) rfl m_X11_51 v_yX11_putNumber h0.1 ⟨by decide, rfl⟩ (c_X11_putNumber (w := w) (J := J) hI hF h0 v1 (by omega)) (Nat.le_of_ble_eq_true rfl) rfl rfl (Nat.le_of_ble_eq_true rfl) ⟨Nat.le_refl _, Nat.le_refl _⟩ (fun M5 J6  hI7 h8 => ?_)
    obtain ⟨hk9, h3, h4⟩ := h8
    have hK10 := hK0.tr hk9 (by decide)
    refine q_aload_n C dX11_feed_20 (n := 21) rfl rfl ?_
    refine q_iload_n C dX11_feed_21 (n := 22) rfl rfl ?_
    refine q_callVv C dX11_feed_22 (n := 25) rfl m_X11_51 v_yX11_putNumber h0.1 ⟨by decide, rfl⟩ (c_X11_putNumber (w := w) (J := J6) hI7 hF h0 v2 (by omega)) (Nat.le_of_ble_eq_true rfl) rfl rfl (Nat.le_of_ble_eq_true rfl) ⟨Nat.le_refl _, Nat.le_refl _⟩ (fun M13 J14  hI15 h16 => ?_)
    obtain ⟨hk17, h11, h12⟩ := h16
    have hK18 := hK10.tr hk17 (by decide)
    refine q_aload_n C dX11_feed_25 (n := 26) rfl rfl ?_
    refine q_iload_n C dX11_feed_26 (n := 27) rfl rfl ?_
    refine q_callVv C dX11_feed_27 (n := 30) rfl m_X11_51 v_yX11_putNumber h0.1 ⟨by decide, rfl⟩ (c_X11_putNumber (w := w) (J := J14) hI15 hF h0 v3 (by omega)) (Nat.le_of_ble_eq_true rfl) rfl rfl (Nat.le_of_ble_eq_true rfl) ⟨Nat.le_refl _, Nat.le_refl _⟩ (fun M21 J22  hI23 h24 => ?_)
    obtain ⟨hk25, h19, h20⟩ := h24
    have hK26 := hK18.tr hk25 (by decide)
    refine q_aload_n C dX11_feed_30 (n := 31) rfl rfl ?_
    refine q_iload C dX11_feed_31 (n := 33) rfl rfl ?_
    refine q_callVv C dX11_feed_33 (n := 36) rfl m_X11_51 v_yX11_putNumber h0.1 ⟨by decide, rfl⟩ (c_X11_putNumber (w := w) (J := J22) hI23 hF h0 v4 (by omega)) (Nat.le_of_ble_eq_true rfl) rfl rfl (Nat.le_of_ble_eq_true rfl) ⟨Nat.le_refl _, Nat.le_refl _⟩ (fun M29 J30  hI31 h32 => ?_)
    obtain ⟨hk33, h27, h28⟩ := h32
    have hK34 := hK26.tr hk33 (by decide)
    refine q_aload_n C dX11_feed_36 (n := 37) rfl rfl ?_
    refine q_iload C dX11_feed_37 (n := 39) rfl rfl ?_
    refine q_callVv C dX11_feed_39 (n := 42) rfl m_X11_51 v_yX11_putNumber h0.1 ⟨by decide, rfl⟩ (c_X11_putNumber (w := w) (J := J30) hI31 hF h0 v5 (by omega)) (Nat.le_of_ble_eq_true rfl) rfl rfl (Nat.le_of_ble_eq_true rfl) ⟨Nat.le_refl _, Nat.le_refl _⟩ (fun M37 J38  hI39 h40 => ?_)
    obtain ⟨hk41, h35, h36⟩ := h40
    have hK42 := hK34.tr hk41 (by decide)
    refine q_aload_n C dX11_feed_42 (n := 43) rfl rfl ?_
    have g43 := zI.at hI39 h0.2.2.2.2.1
    refine q_getI C dX11_feed_43 (n := 46) rfl f_X11_13 h0.1 (v := M37 a 1) rfl ?_
    exact q_iret C dX11_feed_46 ⟨rfl, rfl⟩ (by rw [hPo]; exact ⟨M37 a 1, M37, J38, rfl, rfl, hI39, hK42, (fun h => absurd h (by omega)), (fun _ => zFe.of h4 h12 h20 h28 h36 (by omega) (by omega) (by omega) (by omega)), (by have hz : M37 a 1 = M37 a 1 := rfl; omega)⟩)
  · refine q_iconst C dX11_feed_13 (n := 14) rfl ?_
    exact q_iret C dX11_feed_14 ⟨rfl, rfl⟩ (by rw [hPo]; exact ⟨(-1), M, J, rfl, rfl, hI, hK0, (fun _ _ => rfl), (fun h => absurd h (by omega)), (by have hz : M a 1 = M a 1 := rfl; omega)⟩)
theorem c_X11_end {w : zWp} {T : zTl} {M : zMm} {J : zJm} {R : zRm'} {G : zGt} {F : zRm'} {a : Nat} (hI : zI G M) (hF : zF F R) (h0 : zHideSets T F G a) (v1 : Int) (p1 : -2147483648 ≤ v1 ∧ v1 ≤ 2147483647) : zCt w 1 0 0 yX11_end cX11_end 2 (some .boolean) [.ref (w.2.1 + a), zi v1] (T, M, J, R) (zPi T R G (fun x M2 => (zKp G 19 M M2) ∧ (x = 0 ∨ x = 1) ∧ ((v1 < 0 ∨ M a 1 < v1) ∧ x = 0 ∧ M2 a 1 = M a 1 ∨ 0 ≤ v1 ∧ v1 ≤ M a 1 ∧ x = 1 ∧ M2 a 1 = v1) ∧ (∀ j : Int, M2 (a + 1) j = M (a + 1) j))) := by
  refine zCt.of rfl (Nat.le_of_ble_eq_true rfl) ?_
  intro p e s m args below meth c C
  obtain ⟨Po, hPo⟩ : ∃ Po, Po = zPi T R G (fun x M2 => (zKp G 19 M M2) ∧ (x = 0 ∨ x = 1) ∧ ((v1 < 0 ∨ M a 1 < v1) ∧ x = 0 ∧ M2 a 1 = M a 1 ∨ 0 ≤ v1 ∧ v1 ≤ M a 1 ∧ x = 1 ∧ M2 a 1 = v1) ∧ (∀ j : Int, M2 (a + 1) j = M (a + 1) j)) := ⟨_, rfl⟩
  rw [← hPo]
  have hK0 : zKp G 19 M M := zKp.rf
  show zK w p e 1 0 0 s m args below meth c 2 T Po 0 [.ref (w.2.1 + a), zi v1] [] (T, M, J, R)
  refine q_iload_n C dX11_end_0 (n := 1) rfl rfl ?_
  have J_2 : (v1 < 0 ∨ M a 1 < v1) → zK w p e 1 0 0 s m args below meth c 2 T Po 12 [.null, .null] [] (T, M, J, R) := by
    intro h1
    refine q_iconst C dX11_end_12 (n := 13) rfl ?_
    exact q_zret C dX11_end_13 ⟨rfl, rfl⟩ (by omega) (by rw [hPo]; exact ⟨0, M, J, rfl, rfl, hI, hK0, by omega, (by have hz : M a 1 = M a 1 := rfl; omega), (fun j => rfl)⟩)
  refine q_if_lt C 12 dX11_end_1 (n := 4) rfl rfl (by omega) (fun h3 => ?_) (fun h3 => ?_)
  · exact zK.weak (J_2 (by omega)) (zwk_n (zwk_n zwk_e))
  · refine q_iload_n C dX11_end_4 (n := 5) rfl rfl ?_
    refine q_aload_n C dX11_end_5 (n := 6) rfl rfl ?_
    have g4 := zI.at hI h0.2.2.2.2.1
    refine q_getI C dX11_end_6 (n := 9) rfl f_X11_13 h0.1 (v := M a 1) rfl ?_
    refine q_icmp_le C 14 dX11_end_9 (n := 12) rfl rfl (by omega) (fun h5 => ?_) (fun h5 => ?_)
    · refine q_aload_n C dX11_end_14 (n := 15) rfl rfl ?_
      refine q_iload_n C dX11_end_15 (n := 16) rfl rfl ?_
      refine q_putI C dX11_end_16 (n := 19) rfl f_X11_13 h0.1 ⟨rfl, rfl⟩ (fun M6 (e7 : M6 = zup M a 1 v1) => ?_)
      have hI8 : zI G M6 := hI.put e7 h0.2.2.2.2.1 rfl (by omega)
      have hK9 := hK0.put e7 h0.2.2.2.2.1 (by decide)
      refine q_iconst C dX11_end_19 (n := 20) rfl ?_
      exact q_zret C dX11_end_20 ⟨rfl, rfl⟩ (by omega) (by rw [hPo]; exact ⟨1, M6, J, rfl, rfl, hI8, hK9, by omega, (by have hz : M6 a 1 = v1 := (zup_s e7); omega), (fun j => (zup_p e7 (by omega) _))⟩)
    · exact zK.weak (J_2 (by omega)) (zwk_n (zwk_n zwk_e))
theorem c_X11_takeTape {w : zWp} {T : zTl} {M : zMm} {J : zJm} {R : zRm'} {G : zGt} {F : zRm'} {a : Nat} (hI : zI G M) (hF : zF F R) (h0 : zHideSets T F G a) : zCt w 1 0 0 yX11_takeTape cX11_takeTape 2 (some .int) [.ref (w.2.1 + a)] (T, M, J, R) (zPi T R G (fun x M2 => (zKp G 19 M M2) ∧ (0 ≤ x ∧ x ≤ 440) ∧ (M2 a 1 = 0) ∧ (x = M a 1) ∧ (∀ i, M2 (a + 1) i = M (a + 1) i))) := by
  refine zCt.of rfl (Nat.le_of_ble_eq_true rfl) ?_
  intro p e s m args below meth c C
  obtain ⟨Po, hPo⟩ : ∃ Po, Po = zPi T R G (fun x M2 => (zKp G 19 M M2) ∧ (0 ≤ x ∧ x ≤ 440) ∧ (M2 a 1 = 0) ∧ (x = M a 1) ∧ (∀ i, M2 (a + 1) i = M (a + 1) i)) := ⟨_, rfl⟩
  rw [← hPo]
  have hK0 : zKp G 19 M M := zKp.rf
  show zK w p e 1 0 0 s m args below meth c 2 T Po 0 [.ref (w.2.1 + a), .null] [] (T, M, J, R)
  refine q_aload_n C dX11_takeTape_0 (n := 1) rfl rfl ?_
  have g1 := zI.at hI h0.2.2.2.2.1
  refine q_getI C dX11_takeTape_1 (n := 4) rfl f_X11_13 h0.1 (v := M a 1) rfl ?_
  refine q_istore_n C [.ref (w.2.1 + a), zi (M a 1)] dX11_takeTape_4 (n := 5) rfl rfl rfl ?_
  refine q_aload_n C dX11_takeTape_5 (n := 6) rfl rfl ?_
  refine q_iconst C dX11_takeTape_6 (n := 7) rfl ?_
  refine q_putI C dX11_takeTape_7 (n := 10) rfl f_X11_13 h0.1 ⟨rfl, rfl⟩ (fun M2 (e3 : M2 = zup M a 1 0) => ?_)
  have hI4 : zI G M2 := hI.put e3 h0.2.2.2.2.1 rfl (by omega)
  have hK5 := hK0.put e3 h0.2.2.2.2.1 (by decide)
  refine q_iload_n C dX11_takeTape_10 (n := 11) rfl rfl ?_
  exact q_iret C dX11_takeTape_11 ⟨rfl, rfl⟩ (by rw [hPo]; exact ⟨M a 1, M2, J, rfl, rfl, hI4, hK5, by omega, (by have hz : M2 a 1 = 0 := (zup_s e3); omega), by omega, (fun i => (zup_p e3 (by omega) _))⟩)
theorem c_X11_wrongByte {w : zWp} {T : zTl} {M : zMm} {J : zJm} {R : zRm'} {G : zGt} {F : zRm'} {a : Nat} (hI : zI G M) (hF : zF F R) (h0 : zHideSets T F G a) (v1 : Int) (v2 : Int) (p1 : 0 ≤ v1 ∧ v1 ≤ 440) (p2 : -2147483648 ≤ v2 ∧ v2 ≤ 2147483647) : zCt w 1 0 0 yX11_wrongByte cX11_wrongByte 4 (some .int) [.ref (w.2.1 + a), zi v1, zi v2] (T, M, J, R) (zPp T M J R (fun x => (-1 ≤ x ∧ x ≤ 440) ∧ (zWb (M (a + 1)) v1 v2 x))) := by
  refine zCt.of rfl (Nat.le_of_ble_eq_true rfl) ?_
  intro p e s m args below meth c C
  obtain ⟨Po, hPo⟩ : ∃ Po, Po = zPp T M J R (fun x => (-1 ≤ x ∧ x ≤ 440) ∧ (zWb (M (a + 1)) v1 v2 x)) := ⟨_, rfl⟩
  rw [← hPo]
  show zK w p e 1 0 0 s m args below meth c 4 T Po 0 [.ref (w.2.1 + a), zi v1, zi v2, .null] [] (T, M, J, R)
  refine q_iconst C dX11_wrongByte_0 (n := 1) rfl ?_
  refine q_istore_n C [.ref (w.2.1 + a), zi v1, zi v2, zi 0] dX11_wrongByte_1 (n := 2) rfl rfl rfl ?_
  have L_5 : ∀ n6 : Nat, ∀ (u1 : Int), (-2147483648 ≤ u1 ∧ u1 ≤ 2147483647) → (0 ≤ u1 ∧ u1 ≤ 440) → (zWa (M (a + 1)) u1 v2) → (440 - u1 + 1 ≤ (n6 : Int)) → zK w p e 1 0 0 s m args below meth c 4 T Po 2 [.ref (w.2.1 + a), zi v1, zi v2, zi u1] [] (T, M, J, R) := by
    intro n6
    induction n6 with
    | zero =>
      intro u1 h2 h3 h4 hm8
      exfalso
      omega
    | succ n6 ih7 =>
      intro u1 h2 h3 h4 hm8
      refine q_iload_n C dX11_wrongByte_2 (n := 3) rfl rfl ?_
      refine q_iload_n C dX11_wrongByte_3 (n := 4) rfl rfl ?_
      have J_10 : (v1 ≤ u1) → zK w p e 1 0 0 s m args below meth c 4 T Po 54 [.null, .null, .null, .null] [] (T, M, J, R) := by
        intro h9
        refine q_iconst C dX11_wrongByte_54 (n := 55) rfl ?_
        exact q_iret C dX11_wrongByte_55 ⟨rfl, rfl⟩ (by rw [hPo]; exact ⟨(-1), rfl, rfl, by omega, (Or.inl ⟨rfl, h4.le (by omega)⟩)⟩)
      refine q_icmp_ge C 54 dX11_wrongByte_4 (n := 7) rfl rfl (by omega) (fun h11 => ?_) (fun h11 => ?_)
      · exact zK.weak (J_10 (by omega)) (zwk_n (zwk_n (zwk_n (zwk_n zwk_e))))
      · refine q_iload_n C dX11_wrongByte_7 (n := 8) rfl rfl ?_
        refine q_sipush C dX11_wrongByte_8 (n := 11) rfl (x := 440) (by decide) ?_
        refine q_icmp_ge C 54 dX11_wrongByte_11 (n := 14) rfl rfl (by omega) (fun h12 => ?_) (fun h12 => ?_)
        · exact zK.weak (J_10 (by omega)) (zwk_n (zwk_n (zwk_n (zwk_n zwk_e))))
        · refine q_aload_n C dX11_wrongByte_14 (n := 15) rfl rfl ?_
          refine q_getR C dX11_wrongByte_15 (n := 18) rfl f_X11_9 h0.1 (hF _ _ _ h0.2.1) ?_
          refine q_iload_n C dX11_wrongByte_18 (n := 19) rfl rfl ?_
          have g13 := zI.at hI (h0.2.2.2.1 u1)
          refine q_bald C dX11_wrongByte_19 (n := 20) rfl h0.2.2.1 (by omega) (v := M (a + 1) u1) rfl ?_
          refine q_bipush C dX11_wrongByte_20 (n := 22) rfl (x := 32) (by decide) ?_
          have J_15 : (32 ≤ M (a + 1) u1 ∧ M (a + 1) u1 ≤ 126 ∨ M (a + 1) u1 = v2) → zK w p e 1 0 0 s m args below meth c 4 T Po 48 [.ref (w.2.1 + a), zi v1, zi v2, zi u1] [] (T, M, J, R) := by
            intro h14
            refine q_iinc C [.ref (w.2.1 + a), zi v1, zi v2, zi (u1 + 1)] dX11_wrongByte_48 (n := 51) rfl rfl rfl rfl ?_
            refine q_goto C 2 dX11_wrongByte_51 rfl ?_
            exact zK.weak (ih7 (u1 + 1) (by omega) (by omega) (h4.add (by unfold zGd; omega)) (by omega)) (zwk_c (zwk_c (zwk_c (zwk_c zwk_e))))
          have J_17 : (M (a + 1) u1 < 32 ∨ 126 < M (a + 1) u1) → zK w p e 1 0 0 s m args below meth c 4 T Po 36 [.ref (w.2.1 + a), zi v1, zi v2, zi u1] [] (T, M, J, R) := by
            intro h16
            refine q_aload_n C dX11_wrongByte_36 (n := 37) rfl rfl ?_
            refine q_getR C dX11_wrongByte_37 (n := 40) rfl f_X11_9 h0.1 (hF _ _ _ h0.2.1) ?_
            refine q_iload_n C dX11_wrongByte_40 (n := 41) rfl rfl ?_
            refine q_bald C dX11_wrongByte_41 (n := 42) rfl h0.2.2.1 (by omega) (v := M (a + 1) u1) rfl ?_
            refine q_iload_n C dX11_wrongByte_42 (n := 43) rfl rfl ?_
            refine q_icmp_eq C 48 dX11_wrongByte_43 (n := 46) rfl rfl (by omega) (fun h18 => ?_) (fun h18 => ?_)
            · exact zK.weak (J_15 (by omega)) (zwk_c (zwk_c (zwk_c (zwk_c zwk_e))))
            · refine q_iload_n C dX11_wrongByte_46 (n := 47) rfl rfl ?_
              exact q_iret C dX11_wrongByte_47 ⟨rfl, rfl⟩ (by rw [hPo]; exact ⟨u1, rfl, rfl, by omega, (Or.inr ⟨by omega, by omega, (by unfold zGd; omega), h4⟩)⟩)
          refine q_icmp_lt C 36 dX11_wrongByte_22 (n := 25) rfl rfl (by omega) (fun h19 => ?_) (fun h19 => ?_)
          · exact zK.weak (J_17 (by omega)) (zwk_c (zwk_c (zwk_c (zwk_c zwk_e))))
          · refine q_aload_n C dX11_wrongByte_25 (n := 26) rfl rfl ?_
            refine q_getR C dX11_wrongByte_26 (n := 29) rfl f_X11_9 h0.1 (hF _ _ _ h0.2.1) ?_
            refine q_iload_n C dX11_wrongByte_29 (n := 30) rfl rfl ?_
            refine q_bald C dX11_wrongByte_30 (n := 31) rfl h0.2.2.1 (by omega) (v := M (a + 1) u1) rfl ?_
            refine q_bipush C dX11_wrongByte_31 (n := 33) rfl (x := 126) (by decide) ?_
            refine q_icmp_le C 48 dX11_wrongByte_33 (n := 36) rfl rfl (by omega) (fun h20 => ?_) (fun h20 => ?_)
            · exact zK.weak (J_15 (by omega)) (zwk_c (zwk_c (zwk_c (zwk_c zwk_e))))
            · exact zK.weak (J_17 (by omega)) (zwk_c (zwk_c (zwk_c (zwk_c zwk_e))))
  exact zK.weak (L_5 _ 0 (by omega) (by omega) zWa.nil (Int.self_le_toNat _)) (zwk_c (zwk_c (zwk_c (zwk_c zwk_e))))
theorem c_X11_linesOnTape {w : zWp} {T : zTl} {M : zMm} {J : zJm} {R : zRm'} {G : zGt} {F : zRm'} {a : Nat} (hI : zI G M) (hF : zF F R) (h0 : zHideSets T F G a) (v1 : Int) (p1 : 0 ≤ v1 ∧ v1 ≤ 440) : zCt w 1 0 0 yX11_linesOnTape cX11_linesOnTape 4 (some .int) [.ref (w.2.1 + a), zi v1] (T, M, J, R) (zPp T M J R (fun x => (0 ≤ x ∧ x ≤ 440) ∧ (v1 = 0 ∧ x = 0 ∨ 1 ≤ v1 ∧ x = zTen (M (a + 1)) (v1 - 1).toNat + 1))) := by
  refine zCt.of rfl (Nat.le_of_ble_eq_true rfl) ?_
  intro p e s m args below meth c C
  obtain ⟨Po, hPo⟩ : ∃ Po, Po = zPp T M J R (fun x => (0 ≤ x ∧ x ≤ 440) ∧ (v1 = 0 ∧ x = 0 ∨ 1 ≤ v1 ∧ x = zTen (M (a + 1)) (v1 - 1).toNat + 1)) := ⟨_, rfl⟩
  rw [← hPo]
  show zK w p e 1 0 0 s m args below meth c 4 T Po 0 [.ref (w.2.1 + a), zi v1, .null, .null] [] (T, M, J, R)
  refine q_iconst C dX11_linesOnTape_0 (n := 1) rfl ?_
  refine q_istore_n C [.ref (w.2.1 + a), zi v1, zi 0, .null] dX11_linesOnTape_1 (n := 2) rfl rfl rfl ?_
  have gz0 := zTen_0 (g := M (a + 1))
  refine q_iconst C dX11_linesOnTape_2 (n := 3) rfl ?_
  refine q_istore_n C [.ref (w.2.1 + a), zi v1, zi 0, zi 0] dX11_linesOnTape_3 (n := 4) rfl rfl rfl ?_
  have L_8 : ∀ n9 : Nat, ∀ (u1 : Int) (u2 : Int), (-2147483648 ≤ u1 ∧ u1 ≤ 2147483647) → (-2147483648 ≤ u2 ∧ u2 ≤ 2147483647) → (0 ≤ u2 ∧ u2 ≤ v1) → (0 ≤ u1 ∧ u1 ≤ u2) → (u2 < v1 ∧ u1 = zTen (M (a + 1)) (u2 : Int).toNat ∨ u2 = v1 ∧ (u2 = 0 ∧ u1 = 0 ∨ 1 ≤ u2 ∧ u1 = zTen (M (a + 1)) (v1 - 1).toNat + 1)) → (440 - u2 + 1 ≤ (n9 : Int)) → zK w p e 1 0 0 s m args below meth c 4 T Po 4 [.ref (w.2.1 + a), zi v1, zi u1, zi u2] [] (T, M, J, R) := by
    intro n9
    induction n9 with
    | zero =>
      intro u1 u2 h3 h4 h5 h6 h7 hm11
      exfalso
      omega
    | succ n9 ih10 =>
      intro u1 u2 h3 h4 h5 h6 h7 hm11
      refine q_iload_n C dX11_linesOnTape_4 (n := 5) rfl rfl ?_
      refine q_iload_n C dX11_linesOnTape_5 (n := 6) rfl rfl ?_
      have J_13 : (u2 = v1) → zK w p e 1 0 0 s m args below meth c 4 T Po 43 [.null, .null, zi u1, .null] [] (T, M, J, R) := by
        intro h12
        refine q_iload_n C dX11_linesOnTape_43 (n := 44) rfl rfl ?_
        exact q_iret C dX11_linesOnTape_44 ⟨rfl, rfl⟩ (by rw [hPo]; exact ⟨u1, rfl, rfl, by omega, by omega⟩)
      refine q_icmp_ge C 43 dX11_linesOnTape_6 (n := 9) rfl rfl (by omega) (fun h14 => ?_) (fun h14 => ?_)
      · exact zK.weak (J_13 (by omega)) (zwk_n (zwk_n (zwk_c (zwk_n zwk_e))))
      · refine q_iload_n C dX11_linesOnTape_9 (n := 10) rfl rfl ?_
        refine q_sipush C dX11_linesOnTape_10 (n := 13) rfl (x := 440) (by decide) ?_
        refine q_icmp_ge C 43 dX11_linesOnTape_13 (n := 16) rfl rfl (by omega) (fun h15 => ?_) (fun h15 => ?_)
        · exact zK.weak (J_13 (by omega)) (zwk_n (zwk_n (zwk_c (zwk_n zwk_e))))
        · have gs := zTen_s (g := M (a + 1)) (i := u2) (by omega)
          have gq : ¬ (u2 : Int) = v1 - 1 ∨ zTen (M (a + 1)) (u2 : Int).toNat = zTen (M (a + 1)) (v1 - 1).toNat := (Decidable.em ((u2 : Int) = v1 - 1)).symm.imp id (fun h => by rw [h])
          refine q_aload_n C dX11_linesOnTape_16 (n := 17) rfl rfl ?_
          refine q_getR C dX11_linesOnTape_17 (n := 20) rfl f_X11_9 h0.1 (hF _ _ _ h0.2.1) ?_
          refine q_iload_n C dX11_linesOnTape_20 (n := 21) rfl rfl ?_
          have g16 := zI.at hI (h0.2.2.2.1 u2)
          refine q_bald C dX11_linesOnTape_21 (n := 22) rfl h0.2.2.1 (by omega) (v := M (a + 1) u2) rfl ?_
          refine q_bipush C dX11_linesOnTape_22 (n := 24) rfl (x := 10) (by decide) ?_
          have J_20 : ∀ (u17 : Int), (-2147483648 ≤ u17 ∧ u17 ≤ 2147483647) → (u17 = u1 + 1 ∧ (M (a + 1) u2 = 10 ∨ u2 = v1 - 1) ∨ u17 = u1 ∧ M (a + 1) u2 ≠ 10 ∧ u2 ≠ v1 - 1) → zK w p e 1 0 0 s m args below meth c 4 T Po 37 [.ref (w.2.1 + a), zi v1, zi u17, zi u2] [] (T, M, J, R) := by
            intro u17 h18 h19
            refine q_iinc C [.ref (w.2.1 + a), zi v1, zi u17, zi (u2 + 1)] dX11_linesOnTape_37 (n := 40) rfl rfl rfl rfl ?_
            refine q_goto C 4 dX11_linesOnTape_40 rfl ?_
            exact zK.weak (ih10 u17 (u2 + 1) (by omega) (by omega) (by omega) (by omega) (by omega) (by omega)) (zwk_c (zwk_c (zwk_c (zwk_c zwk_e))))
          have J_22 : (M (a + 1) u2 = 10 ∨ u2 = v1 - 1) → zK w p e 1 0 0 s m args below meth c 4 T Po 34 [.ref (w.2.1 + a), zi v1, zi u1, zi u2] [] (T, M, J, R) := by
            intro h21
            refine q_iinc C [.ref (w.2.1 + a), zi v1, zi (u1 + 1), zi u2] dX11_linesOnTape_34 (n := 37) rfl rfl rfl rfl ?_
            exact zK.weak (J_20 (u1 + 1) (by omega) (by omega)) (zwk_c (zwk_c (zwk_c (zwk_c zwk_e))))
          refine q_icmp_eq C 34 dX11_linesOnTape_24 (n := 27) rfl rfl (by omega) (fun h23 => ?_) (fun h23 => ?_)
          · exact zK.weak (J_22 (by omega)) (zwk_c (zwk_c (zwk_c (zwk_c zwk_e))))
          · refine q_iload_n C dX11_linesOnTape_27 (n := 28) rfl rfl ?_
            refine q_iload_n C dX11_linesOnTape_28 (n := 29) rfl rfl ?_
            refine q_iconst C dX11_linesOnTape_29 (n := 30) rfl ?_
            refine q_isub C dX11_linesOnTape_30 (n := 31) rfl (v := v1 - 1) rfl ?_
            refine q_icmp_ne C 37 dX11_linesOnTape_31 (n := 34) rfl rfl (by omega) (fun h24 => ?_) (fun h24 => ?_)
            · exact zK.weak (J_20 u1 (by omega) (by omega)) (zwk_c (zwk_c (zwk_c (zwk_c zwk_e))))
            · exact zK.weak (J_22 (by omega)) (zwk_c (zwk_c (zwk_c (zwk_c zwk_e))))
  exact zK.weak (L_8 _ 0 0 (by omega) (by omega) (by omega) (by omega) (by omega) (Int.self_le_toNat _)) (zwk_c (zwk_c (zwk_c (zwk_c zwk_e))))
theorem c_X11_set {w : zWp} {T : zTl} {M : zMm} {J : zJm} {R : zRm'} {G : zGt} {F : zRm'} {a : Nat} (hI : zI G M) (hF : zF F R) (h0 : zHideSets T F G a) (v1 : Int) (p1 : -2147483648 ≤ v1 ∧ v1 ≤ 2147483647) : zCt w 2 0 0 yX11_set cX11_set 2 (some .int) [.ref (w.2.1 + a), zi v1] (T, M, J, R) (zPi T R G (fun x M2 => (zKp G 20 M M2) ∧ (M2 a 1 = M a 1) ∧ (∀ j : Int, M2 (a + 1) j = M (a + 1) j))) := by
  refine zCt.of rfl (Nat.le_of_ble_eq_true rfl) ?_
  intro p e s m args below meth c C
  obtain ⟨Po, hPo⟩ : ∃ Po, Po = zPi T R G (fun x M2 => (zKp G 20 M M2) ∧ (M2 a 1 = M a 1) ∧ (∀ j : Int, M2 (a + 1) j = M (a + 1) j)) := ⟨_, rfl⟩
  rw [← hPo]
  have hK0 : zKp G 20 M M := zKp.rf
  show zK w p e 2 0 0 s m args below meth c 2 T Po 0 [.ref (w.2.1 + a), zi v1] [] (T, M, J, R)
  refine q_aload_n C dX11_set_0 (n := 1) rfl rfl ?_
  refine q_getR C dX11_set_1 (n := 4) rfl f_X11_20 h0.1 (hF _ _ _ h0.2.2.2.2.2.1) ?_
  refine q_iload_n C dX11_set_4 (n := 5) rfl rfl ?_
  refine q_callVp C dX11_set_5 (n := 8) rfl m_X11_92 v_yX7_hasSetting h0.2.2.2.2.2.2.1.1 ⟨by decide, rfl⟩ (c_X7_hasSetting (w := w) (J := J) hI hF h0.2.2.2.2.2.2.1 v1 (by omega)) (Nat.le_of_ble_eq_true rfl) rfl rfl (Nat.le_of_ble_eq_true rfl) ⟨Nat.le_refl _, Nat.le_refl _⟩ (fun x3 h4 => ?_)
  obtain ⟨h1, h2⟩ := h4
  refine q_if_ne C 13 dX11_set_8 (n := 11) rfl rfl (by omega) (fun h5 => ?_) (fun h5 => ?_)
  · refine q_aload_n C dX11_set_13 (n := 14) rfl rfl ?_
    refine q_getR C dX11_set_14 (n := 17) rfl f_X11_20 h0.1 (hF _ _ _ h0.2.2.2.2.2.1) ?_
    refine q_iload_n C dX11_set_17 (n := 18) rfl rfl ?_
    refine q_putI C dX11_set_18 (n := 21) rfl f_X11_96 h0.2.2.2.2.2.2.1.1 ⟨rfl, rfl⟩ (fun M6 (e7 : M6 = zup M (a + 2) 4 v1) => ?_)
    have hI8 : zI G M6 := hI.put e7 h0.2.2.2.2.2.2.1.2.2.2.2.2.2.2.2.2.2.2.1 rfl (by omega)
    have hK9 := hK0.put e7 h0.2.2.2.2.2.2.1.2.2.2.2.2.2.2.2.2.2.2.1 (by decide)
    refine q_iconst C dX11_set_21 (n := 22) rfl ?_
    exact q_iret C dX11_set_22 ⟨rfl, rfl⟩ (by rw [hPo]; exact ⟨0, M6, J, rfl, rfl, hI8, hK9, (by have hz : M6 a 1 = M a 1 := (zup_p e7 (by omega) _); omega), (fun j => (zup_p e7 (by omega) _))⟩)
  · refine q_iconst C dX11_set_11 (n := 12) rfl ?_
    exact q_iret C dX11_set_12 ⟨rfl, rfl⟩ (by rw [hPo]; exact ⟨(-1), M, J, rfl, rfl, hI, hK0, (by have hz : M a 1 = M a 1 := rfl; omega), (fun j => rfl)⟩)
theorem c_X11_fault {w : zWp} {T : zTl} {M : zMm} {J : zJm} {R : zRm'} {G : zGt} {F : zRm'} {a : Nat} (hI : zI G M) (hF : zF F R) (h0 : zHideSets T F G a) (v1 : Int) (p1 : -2147483648 ≤ v1 ∧ v1 ≤ 2147483647) : zCt w 2 0 0 yX11_fault cX11_fault 4 (some .int) [.ref (w.2.1 + a), zi v1] (T, M, J, R) (zPp T M J R (fun x => True)) := by
  refine zCt.of rfl (Nat.le_of_ble_eq_true rfl) ?_
  intro p e s m args below meth c C
  obtain ⟨Po, hPo⟩ : ∃ Po, Po = zPp T M J R (fun x => True) := ⟨_, rfl⟩
  rw [← hPo]
  show zK w p e 2 0 0 s m args below meth c 4 T Po 0 [.ref (w.2.1 + a), zi v1, .null, .null] [] (T, M, J, R)
  refine q_aload_n C dX11_fault_0 (n := 1) rfl rfl ?_
  refine q_getR C dX11_fault_1 (n := 4) rfl f_X11_43 h0.1 (hF _ _ _ h0.2.2.2.2.2.2.2.2.2.2.2.2.2.2.2.2.2.1) ?_
  refine q_getR C dX11_fault_4 (n := 7) rfl f_X11_111 h0.2.2.2.2.2.2.2.2.2.2.2.2.2.2.2.2.2.2.1.1 (hF _ _ _ h0.2.2.2.2.2.2.2.2.2.2.2.2.2.2.2.2.2.2.1.2.2.2.1) ?_
  have g1 := zI.at hI h0.2.2.2.2.2.2.2.2.2.2.2.2.2.2.2.2.2.2.1.2.2.2.2.1.2.1
  refine q_getI C dX11_fault_7 (n := 10) rfl f_X11_115 h0.2.2.2.2.2.2.2.2.2.2.2.2.2.2.2.2.2.2.1.2.2.2.2.1.1 (v := M (a + 30 + 1) 0) rfl ?_
  refine q_istore_n C [.ref (w.2.1 + a), zi v1, zi (M (a + 30 + 1) 0), .null] dX11_fault_10 (n := 11) rfl rfl rfl ?_
  refine q_aload_n C dX11_fault_11 (n := 12) rfl rfl ?_
  refine q_getR C dX11_fault_12 (n := 15) rfl f_X11_43 h0.1 (hF _ _ _ h0.2.2.2.2.2.2.2.2.2.2.2.2.2.2.2.2.2.1) ?_
  refine q_getR C dX11_fault_15 (n := 18) rfl f_X11_111 h0.2.2.2.2.2.2.2.2.2.2.2.2.2.2.2.2.2.2.1.1 (hF _ _ _ h0.2.2.2.2.2.2.2.2.2.2.2.2.2.2.2.2.2.2.1.2.2.2.1) ?_
  have g2 := zI.at hI h0.2.2.2.2.2.2.2.2.2.2.2.2.2.2.2.2.2.2.1.2.2.2.2.1.2.2
  refine q_getI C dX11_fault_18 (n := 21) rfl f_X11_127 h0.2.2.2.2.2.2.2.2.2.2.2.2.2.2.2.2.2.2.1.2.2.2.2.1.1 (v := M (a + 30 + 1) 1) rfl ?_
  refine q_istore_n C [.ref (w.2.1 + a), zi v1, zi (M (a + 30 + 1) 0), zi (M (a + 30 + 1) 1)] dX11_fault_21 (n := 22) rfl rfl rfl ?_
  refine q_iload_n C dX11_fault_22 (n := 23) rfl rfl ?_
  refine q_if_ne C 28 dX11_fault_23 (n := 26) rfl rfl (by omega) (fun h3 => ?_) (fun h3 => ?_)
  · refine q_iload_n C dX11_fault_28 (n := 29) rfl rfl ?_
    refine q_if_ne C 34 dX11_fault_29 (n := 32) rfl rfl (by omega) (fun h4 => ?_) (fun h4 => ?_)
    · refine q_iload_n C dX11_fault_34 (n := 35) rfl rfl ?_
      by_cases h5 : v1 = 1
      · refine q_tabIn C 60 dX11_fault_35 h5 (by omega) rfl rfl ?_
        refine q_iload_n C dX11_fault_60 (n := 61) rfl rfl ?_
        refine q_callSp C dX11_fault_61 (n := 64) rfl m_X11_130 s_yX5_fileOf (c_X5_fileOf (w := w) (J := J) hI hF (M (a + 30 + 1) 1)) (Nat.le_of_ble_eq_true rfl) rfl rfl (Nat.le_of_ble_eq_true rfl) ⟨Nat.le_refl _, Nat.le_refl _⟩ (fun x7 h8 => ?_)
        exact q_iret C dX11_fault_64 ⟨rfl, rfl⟩ (by rw [hPo]; exact ⟨x7, rfl, rfl, trivial⟩)
      by_cases h9 : v1 = 2
      · refine q_tabIn C 65 dX11_fault_35 h9 (by omega) rfl rfl ?_
        refine q_iload_n C dX11_fault_65 (n := 66) rfl rfl ?_
        refine q_callSp C dX11_fault_66 (n := 69) rfl m_X11_133 s_yX5_lineOf (c_X5_lineOf (w := w) (J := J) hI hF (M (a + 30 + 1) 1)) (Nat.le_of_ble_eq_true rfl) rfl rfl (Nat.le_of_ble_eq_true rfl) ⟨Nat.le_refl _, Nat.le_refl _⟩ (fun x11 h12 => ?_)
        exact q_iret C dX11_fault_69 ⟨rfl, rfl⟩ (by rw [hPo]; exact ⟨x11, rfl, rfl, trivial⟩)
      by_cases h13 : v1 = 3
      · refine q_tabIn C 70 dX11_fault_35 h13 (by omega) rfl rfl ?_
        refine q_iload_n C dX11_fault_70 (n := 71) rfl rfl ?_
        refine q_callSp C dX11_fault_71 (n := 74) rfl m_X11_136 s_yX5_placeOf (c_X5_placeOf (w := w) (J := J) hI hF (M (a + 30 + 1) 1)) (Nat.le_of_ble_eq_true rfl) rfl rfl (Nat.le_of_ble_eq_true rfl) ⟨Nat.le_refl _, Nat.le_refl _⟩ (fun x15 h16 => ?_)
        exact q_iret C dX11_fault_74 ⟨rfl, rfl⟩ (by rw [hPo]; exact ⟨x15, rfl, rfl, trivial⟩)
      refine q_tabOut C 75 dX11_fault_35 (by omega) (by omega) rfl ?_
      refine q_iconst C dX11_fault_75 (n := 76) rfl ?_
      exact q_iret C dX11_fault_76 ⟨rfl, rfl⟩ (by rw [hPo]; exact ⟨(-1), rfl, rfl, trivial⟩)
    · refine q_iconst C dX11_fault_32 (n := 33) rfl ?_
      exact q_iret C dX11_fault_33 ⟨rfl, rfl⟩ (by rw [hPo]; exact ⟨(-1), rfl, rfl, trivial⟩)
  · refine q_iload_n C dX11_fault_26 (n := 27) rfl rfl ?_
    exact q_iret C dX11_fault_27 ⟨rfl, rfl⟩ (by rw [hPo]; exact ⟨M (a + 30 + 1) 0, rfl, rfl, trivial⟩)
theorem c_X11_tokenAt {w : zWp} {T : zTl} {M : zMm} {J : zJm} {R : zRm'} {G : zGt} {F : zRm'} {a : Nat} (hI : zI G M) (hF : zF F R) (h0 : zHideSets T F G a) (v1 : Int) (v2 : Int) (p1 : -2147483648 ≤ v1 ∧ v1 ≤ 2147483647) (p2 : -2147483648 ≤ v2 ∧ v2 ≤ 2147483647) : zCt w 2 0 0 yX11_tokenAt cX11_tokenAt 3 (some .int) [.ref (w.2.1 + a), zi v1, zi v2] (T, M, J, R) (zPp T M J R (fun x => True)) := by
  refine zCt.of rfl (Nat.le_of_ble_eq_true rfl) ?_
  intro p e s m args below meth c C
  obtain ⟨Po, hPo⟩ : ∃ Po, Po = zPp T M J R (fun x => True) := ⟨_, rfl⟩
  rw [← hPo]
  show zK w p e 2 0 0 s m args below meth c 3 T Po 0 [.ref (w.2.1 + a), zi v1, zi v2] [] (T, M, J, R)
  refine q_iload_n C dX11_tokenAt_0 (n := 1) rfl rfl ?_
  refine q_if_lt C 41 dX11_tokenAt_1 (n := 4) rfl rfl (by omega) (fun h1 => ?_) (fun h1 => ?_)
  · refine q_iconst C dX11_tokenAt_41 (n := 42) rfl ?_
    exact q_iret C dX11_tokenAt_42 ⟨rfl, rfl⟩ (by rw [hPo]; exact ⟨(-1), rfl, rfl, trivial⟩)
  · refine q_iload_n C dX11_tokenAt_4 (n := 5) rfl rfl ?_
    refine q_aload_n C dX11_tokenAt_5 (n := 6) rfl rfl ?_
    refine q_getR C dX11_tokenAt_6 (n := 9) rfl f_X11_43 h0.1 (hF _ _ _ h0.2.2.2.2.2.2.2.2.2.2.2.2.2.2.2.2.2.1) ?_
    refine q_getR C dX11_tokenAt_9 (n := 12) rfl f_X11_120 h0.2.2.2.2.2.2.2.2.2.2.2.2.2.2.2.2.2.2.1.1 (hF _ _ _ h0.2.2.2.2.2.2.2.2.2.2.2.2.2.2.2.2.2.2.1.2.2.2.2.2.2.2.1) ?_
    have g2 := zI.at hI h0.2.2.2.2.2.2.2.2.2.2.2.2.2.2.2.2.2.2.1.2.2.2.2.2.2.2.2.1.2.2.2.2.2.2.2.2.2.2
    refine q_getI C dX11_tokenAt_12 (n := 15) rfl f_X11_124 h0.2.2.2.2.2.2.2.2.2.2.2.2.2.2.2.2.2.2.1.2.2.2.2.2.2.2.2.1.1 (v := M (a + 30 + 2) 3) rfl ?_
    refine q_icmp_ge C 41 dX11_tokenAt_15 (n := 18) rfl rfl (by omega) (fun h3 => ?_) (fun h3 => ?_)
    · refine q_iconst C dX11_tokenAt_41 (n := 42) rfl ?_
      exact q_iret C dX11_tokenAt_42 ⟨rfl, rfl⟩ (by rw [hPo]; exact ⟨(-1), rfl, rfl, trivial⟩)
    · refine q_iload_n C dX11_tokenAt_18 (n := 19) rfl rfl ?_
      refine q_if_lt C 41 dX11_tokenAt_19 (n := 22) rfl rfl (by omega) (fun h4 => ?_) (fun h4 => ?_)
      · refine q_iconst C dX11_tokenAt_41 (n := 42) rfl ?_
        exact q_iret C dX11_tokenAt_42 ⟨rfl, rfl⟩ (by rw [hPo]; exact ⟨(-1), rfl, rfl, trivial⟩)
      · refine q_iload_n C dX11_tokenAt_22 (n := 23) rfl rfl ?_
        refine q_aload_n C dX11_tokenAt_23 (n := 24) rfl rfl ?_
        refine q_getR C dX11_tokenAt_24 (n := 27) rfl f_X11_43 h0.1 (hF _ _ _ h0.2.2.2.2.2.2.2.2.2.2.2.2.2.2.2.2.2.1) ?_
        refine q_getR C dX11_tokenAt_27 (n := 30) rfl f_X11_120 h0.2.2.2.2.2.2.2.2.2.2.2.2.2.2.2.2.2.2.1.1 (hF _ _ _ h0.2.2.2.2.2.2.2.2.2.2.2.2.2.2.2.2.2.2.1.2.2.2.2.2.2.2.1) ?_
        refine q_getR C dX11_tokenAt_30 (n := 33) rfl f_X11_150 h0.2.2.2.2.2.2.2.2.2.2.2.2.2.2.2.2.2.2.1.2.2.2.2.2.2.2.2.1.1 (hF _ _ _ h0.2.2.2.2.2.2.2.2.2.2.2.2.2.2.2.2.2.2.1.2.2.2.2.2.2.2.2.1.2.2.2.2.1) ?_
        refine q_iload_n C dX11_tokenAt_33 (n := 34) rfl rfl ?_
        have g5 := zI.at hI (h0.2.2.2.2.2.2.2.2.2.2.2.2.2.2.2.2.2.2.1.2.2.2.2.2.2.2.2.1.2.2.2.2.2.2.1 v1)
        refine q_iald C dX11_tokenAt_34 (n := 35) rfl h0.2.2.2.2.2.2.2.2.2.2.2.2.2.2.2.2.2.2.1.2.2.2.2.2.2.2.2.1.2.2.2.2.2.1 (by omega) (v := M (a + 30 + 2 + 2) v1) rfl ?_
        refine q_callSp C dX11_tokenAt_35 (n := 38) rfl m_X11_156 s_yX5_lengthOf (c_X5_lengthOf (w := w) (J := J) hI hF (M (a + 30 + 2 + 2) v1)) (Nat.le_of_ble_eq_true rfl) rfl rfl (Nat.le_of_ble_eq_true rfl) ⟨Nat.le_refl _, Nat.le_refl _⟩ (fun x8 h9 => ?_)
        obtain ⟨h6, h7⟩ := h9
        refine q_icmp_lt C 43 dX11_tokenAt_38 (n := 41) rfl rfl (by omega) (fun h10 => ?_) (fun h10 => ?_)
        · refine q_aload_n C dX11_tokenAt_43 (n := 44) rfl rfl ?_
          refine q_getR C dX11_tokenAt_44 (n := 47) rfl f_X11_43 h0.1 (hF _ _ _ h0.2.2.2.2.2.2.2.2.2.2.2.2.2.2.2.2.2.1) ?_
          refine q_getR C dX11_tokenAt_47 (n := 50) rfl f_X11_165 h0.2.2.2.2.2.2.2.2.2.2.2.2.2.2.2.2.2.2.1.1 (hF _ _ _ h0.2.2.2.2.2.2.2.2.2.2.2.2.2.2.2.2.2.2.1.2.1) ?_
          refine q_aload_n C dX11_tokenAt_50 (n := 51) rfl rfl ?_
          refine q_getR C dX11_tokenAt_51 (n := 54) rfl f_X11_43 h0.1 (hF _ _ _ h0.2.2.2.2.2.2.2.2.2.2.2.2.2.2.2.2.2.1) ?_
          refine q_getR C dX11_tokenAt_54 (n := 57) rfl f_X11_120 h0.2.2.2.2.2.2.2.2.2.2.2.2.2.2.2.2.2.2.1.1 (hF _ _ _ h0.2.2.2.2.2.2.2.2.2.2.2.2.2.2.2.2.2.2.1.2.2.2.2.2.2.2.1) ?_
          refine q_getR C dX11_tokenAt_57 (n := 60) rfl f_X11_169 h0.2.2.2.2.2.2.2.2.2.2.2.2.2.2.2.2.2.2.1.2.2.2.2.2.2.2.2.1.1 (hF _ _ _ h0.2.2.2.2.2.2.2.2.2.2.2.2.2.2.2.2.2.2.1.2.2.2.2.2.2.2.2.1.2.1) ?_
          refine q_iload_n C dX11_tokenAt_60 (n := 61) rfl rfl ?_
          have g11 := zI.at hI (h0.2.2.2.2.2.2.2.2.2.2.2.2.2.2.2.2.2.2.1.2.2.2.2.2.2.2.2.1.2.2.2.1 v1)
          have g12 : M (a + 30 + 2 + 1) v1 + zand (M (a + 30 + 2 + 2) v1) 31 ≤ (62576 : Int) ∧ zand (M (a + 30 + 2 + 2) v1) 31 ≤ 30 := zI.row hI (h0.2.2.2.2.2.2.2.2.2.2.2.2.2.2.2.2.2.2.1.2.2.2.2.2.2.2.2.1.2.2.2.1 v1)
          refine q_iald C dX11_tokenAt_61 (n := 62) rfl h0.2.2.2.2.2.2.2.2.2.2.2.2.2.2.2.2.2.2.1.2.2.2.2.2.2.2.2.1.2.2.1 (by omega) (v := M (a + 30 + 2 + 1) v1) rfl ?_
          refine q_iload_n C dX11_tokenAt_62 (n := 63) rfl rfl ?_
          refine q_iadd C dX11_tokenAt_63 (n := 64) rfl (v := (M (a + 30 + 2 + 1) v1) + v2) rfl ?_
          refine q_callVp C dX11_tokenAt_64 (n := 67) rfl m_X11_172 v_yX10_byteAt h0.2.2.2.2.2.2.2.2.2.2.2.2.2.2.2.2.2.2.1.2.2.1.1 ⟨by decide, rfl⟩ (c_X10_byteAt (w := w) (J := J) hI hF h0.2.2.2.2.2.2.2.2.2.2.2.2.2.2.2.2.2.2.1.2.2.1 ((M (a + 30 + 2 + 1) v1) + v2) (by omega) (by omega)) (Nat.le_of_ble_eq_true rfl) rfl rfl (Nat.le_of_ble_eq_true rfl) ⟨Nat.le_refl _, Nat.le_refl _⟩ (fun x14 h15 => ?_)
          exact q_iret C dX11_tokenAt_67 ⟨rfl, rfl⟩ (by rw [hPo]; exact ⟨x14, rfl, rfl, trivial⟩)
        · refine q_iconst C dX11_tokenAt_41 (n := 42) rfl ?_
          exact q_iret C dX11_tokenAt_42 ⟨rfl, rfl⟩ (by rw [hPo]; exact ⟨(-1), rfl, rfl, trivial⟩)
theorem c_X11_macroAt {w : zWp} {T : zTl} {M : zMm} {J : zJm} {R : zRm'} {G : zGt} {F : zRm'} {a : Nat} (hI : zI G M) (hF : zF F R) (h0 : zHideSets T F G a) (v1 : Int) (v2 : Int) (p1 : -2147483648 ≤ v1 ∧ v1 ≤ 2147483647) (p2 : -2147483648 ≤ v2 ∧ v2 ≤ 2147483647) : zCt w 2 0 0 yX11_macroAt cX11_macroAt 4 (some .int) [.ref (w.2.1 + a), zi v1, zi v2] (T, M, J, R) (zPp T M J R (fun x => True)) := by
  refine zCt.of rfl (Nat.le_of_ble_eq_true rfl) ?_
  intro p e s m args below meth c C
  obtain ⟨Po, hPo⟩ : ∃ Po, Po = zPp T M J R (fun x => True) := ⟨_, rfl⟩
  rw [← hPo]
  show zK w p e 2 0 0 s m args below meth c 4 T Po 0 [.ref (w.2.1 + a), zi v1, zi v2, .null] [] (T, M, J, R)
  refine q_aload_n C dX11_macroAt_0 (n := 1) rfl rfl ?_
  refine q_getR C dX11_macroAt_1 (n := 4) rfl f_X11_43 h0.1 (hF _ _ _ h0.2.2.2.2.2.2.2.2.2.2.2.2.2.2.2.2.2.1) ?_
  refine q_getR C dX11_macroAt_4 (n := 7) rfl f_X11_177 h0.2.2.2.2.2.2.2.2.2.2.2.2.2.2.2.2.2.2.1.1 (hF _ _ _ h0.2.2.2.2.2.2.2.2.2.2.2.2.2.2.2.2.2.2.1.2.2.2.2.2.1) ?_
  refine q_astore_n C [.ref (w.2.1 + a), zi v1, zi v2, .ref (w.2.1 + (a + 30 + 24))] dX11_macroAt_7 (n := 8) rfl rfl rfl ?_
  refine q_iload_n C dX11_macroAt_8 (n := 9) rfl rfl ?_
  refine q_if_lt C 34 dX11_macroAt_9 (n := 12) rfl rfl (by omega) (fun h1 => ?_) (fun h1 => ?_)
  · refine q_iconst C dX11_macroAt_34 (n := 35) rfl ?_
    exact q_iret C dX11_macroAt_35 ⟨rfl, rfl⟩ (by rw [hPo]; exact ⟨(-1), rfl, rfl, trivial⟩)
  · refine q_iload_n C dX11_macroAt_12 (n := 13) rfl rfl ?_
    refine q_aload_n C dX11_macroAt_13 (n := 14) rfl rfl ?_
    have g2 := zI.at hI h0.2.2.2.2.2.2.2.2.2.2.2.2.2.2.2.2.2.2.1.2.2.2.2.2.2.1.2.1
    refine q_getI C dX11_macroAt_14 (n := 17) rfl f_X11_181 h0.2.2.2.2.2.2.2.2.2.2.2.2.2.2.2.2.2.2.1.2.2.2.2.2.2.1.1 (v := M (a + 30 + 24) 0) rfl ?_
    refine q_icmp_ge C 34 dX11_macroAt_17 (n := 20) rfl rfl (by omega) (fun h3 => ?_) (fun h3 => ?_)
    · refine q_iconst C dX11_macroAt_34 (n := 35) rfl ?_
      exact q_iret C dX11_macroAt_35 ⟨rfl, rfl⟩ (by rw [hPo]; exact ⟨(-1), rfl, rfl, trivial⟩)
    · refine q_iload_n C dX11_macroAt_20 (n := 21) rfl rfl ?_
      refine q_if_lt C 34 dX11_macroAt_21 (n := 24) rfl rfl (by omega) (fun h4 => ?_) (fun h4 => ?_)
      · refine q_iconst C dX11_macroAt_34 (n := 35) rfl ?_
        exact q_iret C dX11_macroAt_35 ⟨rfl, rfl⟩ (by rw [hPo]; exact ⟨(-1), rfl, rfl, trivial⟩)
      · refine q_iload_n C dX11_macroAt_24 (n := 25) rfl rfl ?_
        refine q_aload_n C dX11_macroAt_25 (n := 26) rfl rfl ?_
        refine q_getR C dX11_macroAt_26 (n := 29) rfl f_X11_200 h0.2.2.2.2.2.2.2.2.2.2.2.2.2.2.2.2.2.2.1.2.2.2.2.2.2.1.1 (hF _ _ _ h0.2.2.2.2.2.2.2.2.2.2.2.2.2.2.2.2.2.2.1.2.2.2.2.2.2.1.2.2.2.2.2.1) ?_
        refine q_iload_n C dX11_macroAt_29 (n := 30) rfl rfl ?_
        have g5 := zI.at hI (h0.2.2.2.2.2.2.2.2.2.2.2.2.2.2.2.2.2.2.1.2.2.2.2.2.2.1.2.2.2.2.2.2.2.1 v1)
        refine q_iald C dX11_macroAt_30 (n := 31) rfl h0.2.2.2.2.2.2.2.2.2.2.2.2.2.2.2.2.2.2.1.2.2.2.2.2.2.1.2.2.2.2.2.2.1 (by omega) (v := M (a + 30 + 24 + 2) v1) rfl ?_
        refine q_icmp_lt C 36 dX11_macroAt_31 (n := 34) rfl rfl (by omega) (fun h6 => ?_) (fun h6 => ?_)
        · refine q_aload_n C dX11_macroAt_36 (n := 37) rfl rfl ?_
          refine q_getR C dX11_macroAt_37 (n := 40) rfl f_X11_43 h0.1 (hF _ _ _ h0.2.2.2.2.2.2.2.2.2.2.2.2.2.2.2.2.2.1) ?_
          refine q_getR C dX11_macroAt_40 (n := 43) rfl f_X11_165 h0.2.2.2.2.2.2.2.2.2.2.2.2.2.2.2.2.2.2.1.1 (hF _ _ _ h0.2.2.2.2.2.2.2.2.2.2.2.2.2.2.2.2.2.2.1.2.1) ?_
          refine q_aload_n C dX11_macroAt_43 (n := 44) rfl rfl ?_
          refine q_getR C dX11_macroAt_44 (n := 47) rfl f_X11_203 h0.2.2.2.2.2.2.2.2.2.2.2.2.2.2.2.2.2.2.1.2.2.2.2.2.2.1.1 (hF _ _ _ h0.2.2.2.2.2.2.2.2.2.2.2.2.2.2.2.2.2.2.1.2.2.2.2.2.2.1.2.2.1) ?_
          refine q_iload_n C dX11_macroAt_47 (n := 48) rfl rfl ?_
          have g7 := zI.at hI (h0.2.2.2.2.2.2.2.2.2.2.2.2.2.2.2.2.2.2.1.2.2.2.2.2.2.1.2.2.2.2.1 v1)
          refine q_iald C dX11_macroAt_48 (n := 49) rfl h0.2.2.2.2.2.2.2.2.2.2.2.2.2.2.2.2.2.2.1.2.2.2.2.2.2.1.2.2.2.1 (by omega) (v := M (a + 30 + 24 + 1) v1) rfl ?_
          refine q_iload_n C dX11_macroAt_49 (n := 50) rfl rfl ?_
          refine q_iadd C dX11_macroAt_50 (n := 51) rfl (v := (M (a + 30 + 24 + 1) v1) + v2) rfl ?_
          refine q_callVp C dX11_macroAt_51 (n := 54) rfl m_X11_172 v_yX10_byteAt h0.2.2.2.2.2.2.2.2.2.2.2.2.2.2.2.2.2.2.1.2.2.1.1 ⟨by decide, rfl⟩ (c_X10_byteAt (w := w) (J := J) hI hF h0.2.2.2.2.2.2.2.2.2.2.2.2.2.2.2.2.2.2.1.2.2.1 ((M (a + 30 + 24 + 1) v1) + v2) (by omega) (by omega)) (Nat.le_of_ble_eq_true rfl) rfl rfl (Nat.le_of_ble_eq_true rfl) ⟨Nat.le_refl _, Nat.le_refl _⟩ (fun x9 h10 => ?_)
          exact q_iret C dX11_macroAt_54 ⟨rfl, rfl⟩ (by rw [hPo]; exact ⟨x9, rfl, rfl, trivial⟩)
        · refine q_iconst C dX11_macroAt_34 (n := 35) rfl ?_
          exact q_iret C dX11_macroAt_35 ⟨rfl, rfl⟩ (by rw [hPo]; exact ⟨(-1), rfl, rfl, trivial⟩)
theorem c_X11_now {w : zWp} {T : zTl} {M : zMm} {J : zJm} {R : zRm'} {G : zGt} {F : zRm'} {a : Nat} (hI : zI G M) (hF : zF F R) (h0 : zHideSets T F G a) (v1 : Int) (p1 : -2147483648 ≤ v1 ∧ v1 ≤ 2147483647) : zCt w 1 0 0 yX11_now cX11_now 2 (some .int) [.ref (w.2.1 + a), zi v1] (T, M, J, R) (zPp T M J R (fun x => True)) := by
  refine zCt.of rfl (Nat.le_of_ble_eq_true rfl) ?_
  intro p e s m args below meth c C
  obtain ⟨Po, hPo⟩ : ∃ Po, Po = zPp T M J R (fun x => True) := ⟨_, rfl⟩
  rw [← hPo]
  show zK w p e 1 0 0 s m args below meth c 2 T Po 0 [.ref (w.2.1 + a), zi v1] [] (T, M, J, R)
  refine q_iload_n C dX11_now_0 (n := 1) rfl rfl ?_
  refine q_if_lt C 10 dX11_now_1 (n := 4) rfl rfl (by omega) (fun h1 => ?_) (fun h1 => ?_)
  · refine q_iconst C dX11_now_10 (n := 11) rfl ?_
    exact q_iret C dX11_now_11 ⟨rfl, rfl⟩ (by rw [hPo]; exact ⟨(-1), rfl, rfl, trivial⟩)
  · refine q_iload_n C dX11_now_4 (n := 5) rfl rfl ?_
    refine q_bipush C dX11_now_5 (n := 7) rfl (x := 10) (by decide) ?_
    refine q_icmp_lt C 12 dX11_now_7 (n := 10) rfl rfl (by omega) (fun h2 => ?_) (fun h2 => ?_)
    · refine q_iload_n C dX11_now_12 (n := 13) rfl rfl ?_
      refine q_if_ne C 29 dX11_now_13 (n := 16) rfl rfl (by omega) (fun h3 => ?_) (fun h3 => ?_)
      · refine q_aload_n C dX11_now_29 (n := 30) rfl rfl ?_
        refine q_getR C dX11_now_30 (n := 33) rfl f_X11_43 h0.1 (hF _ _ _ h0.2.2.2.2.2.2.2.2.2.2.2.2.2.2.2.2.2.1) ?_
        refine q_getR C dX11_now_33 (n := 36) rfl f_X11_206 h0.2.2.2.2.2.2.2.2.2.2.2.2.2.2.2.2.2.2.1.1 (hF _ _ _ h0.2.2.2.2.2.2.2.2.2.2.2.2.2.2.2.2.2.2.1.2.2.2.2.2.2.2.2.2.1) ?_
        refine q_iload_n C dX11_now_36 (n := 37) rfl rfl ?_
        have g4 := zI.at hI (h0.2.2.2.2.2.2.2.2.2.2.2.2.2.2.2.2.2.2.1.2.2.2.2.2.2.2.2.2.2.2.1 v1)
        refine q_iald C dX11_now_37 (n := 38) rfl h0.2.2.2.2.2.2.2.2.2.2.2.2.2.2.2.2.2.2.1.2.2.2.2.2.2.2.2.2.2.1 (by omega) (v := M (a + 30 + 6) v1) rfl ?_
        exact q_iret C dX11_now_38 ⟨rfl, rfl⟩ (by rw [hPo]; exact ⟨M (a + 30 + 6) v1, rfl, rfl, trivial⟩)
      · refine q_aload_n C dX11_now_16 (n := 17) rfl rfl ?_
        refine q_getR C dX11_now_17 (n := 20) rfl f_X11_43 h0.1 (hF _ _ _ h0.2.2.2.2.2.2.2.2.2.2.2.2.2.2.2.2.2.1) ?_
        refine q_getR C dX11_now_20 (n := 23) rfl f_X11_177 h0.2.2.2.2.2.2.2.2.2.2.2.2.2.2.2.2.2.2.1.1 (hF _ _ _ h0.2.2.2.2.2.2.2.2.2.2.2.2.2.2.2.2.2.2.1.2.2.2.2.2.1) ?_
        have g5 := zI.at hI h0.2.2.2.2.2.2.2.2.2.2.2.2.2.2.2.2.2.2.1.2.2.2.2.2.2.1.2.1
        refine q_getI C dX11_now_23 (n := 26) rfl f_X11_181 h0.2.2.2.2.2.2.2.2.2.2.2.2.2.2.2.2.2.2.1.2.2.2.2.2.2.1.1 (v := M (a + 30 + 24) 0) rfl ?_
        refine q_goto C 38 dX11_now_26 rfl ?_
        exact q_iret C dX11_now_38 ⟨rfl, rfl⟩ (by rw [hPo]; exact ⟨M (a + 30 + 24) 0, rfl, rfl, trivial⟩)
    · refine q_iconst C dX11_now_10 (n := 11) rfl ?_
      exact q_iret C dX11_now_11 ⟨rfl, rfl⟩ (by rw [hPo]; exact ⟨(-1), rfl, rfl, trivial⟩)
theorem c_X11_passed {w : zWp} {T : zTl} {M : zMm} {J : zJm} {R : zRm'} {G : zGt} {F : zRm'} {a : Nat} (hI : zI G M) (hF : zF F R) (h0 : zHideSets T F G a) (v1 : Int) (v2 : Int) (p1 : -2147483648 ≤ v1 ∧ v1 ≤ 2147483647) (p2 : -2147483648 ≤ v2 ∧ v2 ≤ 2147483647) : zCt w 3 0 0 yX11_passed cX11_passed 3 (some .int) [.ref (w.2.1 + a), zi v1, zi v2] (T, M, J, R) (zPp T M J R (fun x => True)) := by
  refine zCt.of rfl (Nat.le_of_ble_eq_true rfl) ?_
  intro p e s m args below meth c C
  obtain ⟨Po, hPo⟩ : ∃ Po, Po = zPp T M J R (fun x => True) := ⟨_, rfl⟩
  rw [← hPo]
  show zK w p e 3 0 0 s m args below meth c 3 T Po 0 [.ref (w.2.1 + a), zi v1, zi v2] [] (T, M, J, R)
  refine q_aload_n C dX11_passed_0 (n := 1) rfl rfl ?_
  refine q_getR C dX11_passed_1 (n := 4) rfl f_X11_20 h0.1 (hF _ _ _ h0.2.2.2.2.2.1) ?_
  refine q_iload_n C dX11_passed_4 (n := 5) rfl rfl ?_
  refine q_iload_n C dX11_passed_5 (n := 6) rfl rfl ?_
  refine q_callVp C dX11_passed_6 (n := 9) rfl m_X11_209 v_yX7_hasLine h0.2.2.2.2.2.2.1.1 ⟨by decide, rfl⟩ (c_X7_hasLine (w := w) (J := J) hI hF h0.2.2.2.2.2.2.1 v1 v2 (by omega) (by omega)) (Nat.le_of_ble_eq_true rfl) rfl rfl (Nat.le_of_ble_eq_true rfl) ⟨Nat.le_refl _, Nat.le_refl _⟩ (fun x3 h4 => ?_)
  obtain ⟨h1, h2⟩ := h4
  refine q_if_ne C 14 dX11_passed_9 (n := 12) rfl rfl (by omega) (fun h5 => ?_) (fun h5 => ?_)
  · refine q_aload_n C dX11_passed_14 (n := 15) rfl rfl ?_
    refine q_getR C dX11_passed_15 (n := 18) rfl f_X11_43 h0.1 (hF _ _ _ h0.2.2.2.2.2.2.2.2.2.2.2.2.2.2.2.2.2.1) ?_
    refine q_getR C dX11_passed_18 (n := 21) rfl f_X11_213 h0.2.2.2.2.2.2.2.2.2.2.2.2.2.2.2.2.2.2.1.1 (hF _ _ _ h0.2.2.2.2.2.2.2.2.2.2.2.2.2.2.2.2.2.2.1.2.2.2.2.2.2.2.2.2.2.2.2.1) ?_
    refine q_iload_n C dX11_passed_21 (n := 22) rfl rfl ?_
    refine q_bipush C dX11_passed_22 (n := 24) rfl (x := 40) (by decide) ?_
    refine q_imul C dX11_passed_24 (n := 25) rfl (v := v1 * 40) rfl ?_
    refine q_iload_n C dX11_passed_25 (n := 26) rfl rfl ?_
    refine q_iadd C dX11_passed_26 (n := 27) rfl (v := (v1 * 40) + v2) rfl ?_
    have g6 := zI.at hI (h0.2.2.2.2.2.2.2.2.2.2.2.2.2.2.2.2.2.2.1.2.2.2.2.2.2.2.2.2.2.2.2.2.2.1 ((v1 * 40) + v2))
    refine q_iald C dX11_passed_27 (n := 28) rfl h0.2.2.2.2.2.2.2.2.2.2.2.2.2.2.2.2.2.2.1.2.2.2.2.2.2.2.2.2.2.2.2.2.1 (by omega) (v := M (a + 30 + 7) ((v1 * 40) + v2)) rfl ?_
    exact q_iret C dX11_passed_28 ⟨rfl, rfl⟩ (by rw [hPo]; exact ⟨M (a + 30 + 7) ((v1 * 40) + v2), rfl, rfl, trivial⟩)
  · refine q_iconst C dX11_passed_12 (n := 13) rfl ?_
    exact q_iret C dX11_passed_13 ⟨rfl, rfl⟩ (by rw [hPo]; exact ⟨(-1), rfl, rfl, trivial⟩)
theorem c_X11_guardAt {w : zWp} {T : zTl} {M : zMm} {J : zJm} {R : zRm'} {G : zGt} {F : zRm'} {a : Nat} (hI : zI G M) (hF : zF F R) (h0 : zHideSets T F G a) (v1 : Int) (p1 : -2147483648 ≤ v1 ∧ v1 ≤ 2147483647) : zCt w 1 0 0 yX11_guardAt cX11_guardAt 2 (some .int) [.ref (w.2.1 + a), zi v1] (T, M, J, R) (zPp T M J R (fun x => True)) := by
  refine zCt.of rfl (Nat.le_of_ble_eq_true rfl) ?_
  intro p e s m args below meth c C
  obtain ⟨Po, hPo⟩ : ∃ Po, Po = zPp T M J R (fun x => True) := ⟨_, rfl⟩
  rw [← hPo]
  show zK w p e 1 0 0 s m args below meth c 2 T Po 0 [.ref (w.2.1 + a), zi v1] [] (T, M, J, R)
  refine q_iload_n C dX11_guardAt_0 (n := 1) rfl rfl ?_
  refine q_if_lt C 12 dX11_guardAt_1 (n := 4) rfl rfl (by omega) (fun h1 => ?_) (fun h1 => ?_)
  · refine q_iconst C dX11_guardAt_12 (n := 13) rfl ?_
    refine q_goto C 22 dX11_guardAt_13 rfl ?_
    exact q_iret C dX11_guardAt_22 ⟨rfl, rfl⟩ (by rw [hPo]; exact ⟨(-1), rfl, rfl, trivial⟩)
  · refine q_iload_n C dX11_guardAt_4 (n := 5) rfl rfl ?_
    refine q_aload_n C dX11_guardAt_5 (n := 6) rfl rfl ?_
    have g2 := zI.at hI h0.2.2.2.2.2.2.2.2.2.2.2.2.2.2.2.2.1
    refine q_getI C dX11_guardAt_6 (n := 9) rfl f_X11_35 h0.1 (v := M a 6) rfl ?_
    refine q_icmp_lt C 16 dX11_guardAt_9 (n := 12) rfl rfl (by omega) (fun h3 => ?_) (fun h3 => ?_)
    · refine q_aload_n C dX11_guardAt_16 (n := 17) rfl rfl ?_
      refine q_getR C dX11_guardAt_17 (n := 20) rfl f_X11_32 h0.1 (hF _ _ _ h0.2.2.2.2.2.2.2.2.2.2.2.2.2.1) ?_
      refine q_iload_n C dX11_guardAt_20 (n := 21) rfl rfl ?_
      have g4 := zI.at hI (h0.2.2.2.2.2.2.2.2.2.2.2.2.2.2.2.1 v1)
      refine q_bald C dX11_guardAt_21 (n := 22) rfl h0.2.2.2.2.2.2.2.2.2.2.2.2.2.2.1 (by omega) (v := M (a + 29) v1) rfl ?_
      exact q_iret C dX11_guardAt_22 ⟨rfl, rfl⟩ (by rw [hPo]; exact ⟨M (a + 29) v1, rfl, rfl, trivial⟩)
    · refine q_iconst C dX11_guardAt_12 (n := 13) rfl ?_
      refine q_goto C 22 dX11_guardAt_13 rfl ?_
      exact q_iret C dX11_guardAt_22 ⟨rfl, rfl⟩ (by rw [hPo]; exact ⟨(-1), rfl, rfl, trivial⟩)
theorem c_X11_nextOf {w : zWp} {T : zTl} {M : zMm} {J : zJm} {R : zRm'} {G : zGt} {F : zRm'} {a : Nat} (hI : zI G M) (hF : zF F R) (h0 : zHideSets T F G a) (v1 : Int) (v2 : Int) (p1 : -2147483648 ≤ v1 ∧ v1 ≤ 2147483647) (p2 : -2147483648 ≤ v2 ∧ v2 ≤ 2147483647) : zCt w 3 0 0 yX11_nextOf cX11_nextOf 3 (some .int) [.ref (w.2.1 + a), zi v1, zi v2] (T, M, J, R) (zPp T M J R (fun x => True)) := by
  refine zCt.of rfl (Nat.le_of_ble_eq_true rfl) ?_
  intro p e s m args below meth c C
  obtain ⟨Po, hPo⟩ : ∃ Po, Po = zPp T M J R (fun x => True) := ⟨_, rfl⟩
  rw [← hPo]
  show zK w p e 3 0 0 s m args below meth c 3 T Po 0 [.ref (w.2.1 + a), zi v1, zi v2] [] (T, M, J, R)
  refine q_aload_n C dX11_nextOf_0 (n := 1) rfl rfl ?_
  refine q_getR C dX11_nextOf_1 (n := 4) rfl f_X11_20 h0.1 (hF _ _ _ h0.2.2.2.2.2.1) ?_
  refine q_iload_n C dX11_nextOf_4 (n := 5) rfl rfl ?_
  refine q_iload_n C dX11_nextOf_5 (n := 6) rfl rfl ?_
  refine q_callVp C dX11_nextOf_6 (n := 9) rfl m_X11_209 v_yX7_hasLine h0.2.2.2.2.2.2.1.1 ⟨by decide, rfl⟩ (c_X7_hasLine (w := w) (J := J) hI hF h0.2.2.2.2.2.2.1 v1 v2 (by omega) (by omega)) (Nat.le_of_ble_eq_true rfl) rfl rfl (Nat.le_of_ble_eq_true rfl) ⟨Nat.le_refl _, Nat.le_refl _⟩ (fun x3 h4 => ?_)
  obtain ⟨h1, h2⟩ := h4
  refine q_if_eq C 28 dX11_nextOf_9 (n := 12) rfl rfl (by omega) (fun h5 => ?_) (fun h5 => ?_)
  · refine q_iconst C dX11_nextOf_28 (n := 29) rfl ?_
    exact q_iret C dX11_nextOf_29 ⟨rfl, rfl⟩ (by rw [hPo]; exact ⟨(-1), rfl, rfl, trivial⟩)
  · refine q_aload_n C dX11_nextOf_12 (n := 13) rfl rfl ?_
    refine q_getR C dX11_nextOf_13 (n := 16) rfl f_X11_20 h0.1 (hF _ _ _ h0.2.2.2.2.2.1) ?_
    refine q_getR C dX11_nextOf_16 (n := 19) rfl f_X11_66 h0.2.2.2.2.2.2.1.1 (hF _ _ _ h0.2.2.2.2.2.2.1.2.1) ?_
    refine q_iload_n C dX11_nextOf_19 (n := 20) rfl rfl ?_
    refine q_aald C dX11_nextOf_20 (n := 21) rfl ⟨by decide, by decide⟩ h0.2.2.2.2.2.2.1.2.2.1 (by omega) (hF _ _ _ (h0.2.2.2.2.2.2.1.2.2.2.1 v1 (by omega) (by omega)).1) ?_
    refine q_iload_n C dX11_nextOf_21 (n := 22) rfl rfl ?_
    refine q_callVp C dX11_nextOf_22 (n := 25) rfl m_X11_252 v_yX4_follower (h0.2.2.2.2.2.2.1.2.2.2.1 v1 (by omega) (by omega)).2.1 ⟨by decide, rfl⟩ (c_X4_follower (w := w) (J := J) hI hF (h0.2.2.2.2.2.2.1.2.2.2.1 v1 (by omega) (by omega)).2 v2 (by omega)) (Nat.le_of_ble_eq_true rfl) rfl rfl (Nat.le_of_ble_eq_true rfl) ⟨Nat.le_refl _, Nat.le_refl _⟩ (fun x7 h8 => ?_)
    refine q_goto C 29 dX11_nextOf_25 rfl ?_
    exact q_iret C dX11_nextOf_29 ⟨rfl, rfl⟩ (by rw [hPo]; exact ⟨x7, rfl, rfl, trivial⟩)
theorem c_X11_count {w : zWp} {T : zTl} {M : zMm} {J : zJm} {R : zRm'} {G : zGt} {F : zRm'} {a : Nat} (hI : zI G M) (hF : zF F R) (h0 : zHideSets T F G a) (v1 : Int) (p1 : -2147483648 ≤ v1 ∧ v1 ≤ 2147483647) : zCt w 2 0 0 yX11_count cX11_count 2 (some .int) [.ref (w.2.1 + a), zi v1] (T, M, J, R) (zPp T M J R (fun x => True)) := by
  refine zCt.of rfl (Nat.le_of_ble_eq_true rfl) ?_
  intro p e s m args below meth c C
  obtain ⟨Po, hPo⟩ : ∃ Po, Po = zPp T M J R (fun x => True) := ⟨_, rfl⟩
  rw [← hPo]
  show zK w p e 2 0 0 s m args below meth c 2 T Po 0 [.ref (w.2.1 + a), zi v1] [] (T, M, J, R)
  refine q_iload_n C dX11_count_0 (n := 1) rfl rfl ?_
  by_cases h1 : v1 = 0
  · refine q_tabIn C 32 dX11_count_1 h1 (by omega) rfl rfl ?_
    refine q_aload_n C dX11_count_32 (n := 33) rfl rfl ?_
    refine q_getR C dX11_count_33 (n := 36) rfl f_X11_20 h0.1 (hF _ _ _ h0.2.2.2.2.2.1) ?_
    refine q_callVp C dX11_count_36 (n := 39) rfl m_X11_266 v_yX7_filesTold h0.2.2.2.2.2.2.1.1 ⟨by decide, rfl⟩ (c_X7_filesTold (w := w) (J := J) hI hF h0.2.2.2.2.2.2.1) (Nat.le_of_ble_eq_true rfl) rfl rfl (Nat.le_of_ble_eq_true rfl) ⟨Nat.le_refl _, Nat.le_refl _⟩ (fun x3 h4 => ?_)
    exact q_iret C dX11_count_39 ⟨rfl, rfl⟩ (by rw [hPo]; exact ⟨x3, rfl, rfl, trivial⟩)
  by_cases h5 : v1 = 1
  · refine q_tabIn C 40 dX11_count_1 h5 (by omega) rfl rfl ?_
    refine q_aload_n C dX11_count_40 (n := 41) rfl rfl ?_
    refine q_getR C dX11_count_41 (n := 44) rfl f_X11_20 h0.1 (hF _ _ _ h0.2.2.2.2.2.1) ?_
    have g6 := zI.at hI h0.2.2.2.2.2.2.1.2.2.2.2.2.2.2.2.2.2.1
    refine q_getI C dX11_count_44 (n := 47) rfl f_X11_226 h0.2.2.2.2.2.2.1.1 (v := M (a + 2) 3) rfl ?_
    exact q_iret C dX11_count_47 ⟨rfl, rfl⟩ (by rw [hPo]; exact ⟨M (a + 2) 3, rfl, rfl, trivial⟩)
  by_cases h7 : v1 = 2
  · refine q_tabIn C 48 dX11_count_1 h7 (by omega) rfl rfl ?_
    refine q_aload_n C dX11_count_48 (n := 49) rfl rfl ?_
    refine q_getR C dX11_count_49 (n := 52) rfl f_X11_20 h0.1 (hF _ _ _ h0.2.2.2.2.2.1) ?_
    have g8 := zI.at hI h0.2.2.2.2.2.2.1.2.2.2.2.2.2.2.2.2.2.2.1
    refine q_getI C dX11_count_52 (n := 55) rfl f_X11_96 h0.2.2.2.2.2.2.1.1 (v := M (a + 2) 4) rfl ?_
    exact q_iret C dX11_count_55 ⟨rfl, rfl⟩ (by rw [hPo]; exact ⟨M (a + 2) 4, rfl, rfl, trivial⟩)
  by_cases h9 : v1 = 3
  · refine q_tabIn C 56 dX11_count_1 h9 (by omega) rfl rfl ?_
    refine q_aload_n C dX11_count_56 (n := 57) rfl rfl ?_
    have g10 := zI.at hI h0.2.2.2.2.1
    refine q_getI C dX11_count_57 (n := 60) rfl f_X11_13 h0.1 (v := M a 1) rfl ?_
    exact q_iret C dX11_count_60 ⟨rfl, rfl⟩ (by rw [hPo]; exact ⟨M a 1, rfl, rfl, trivial⟩)
  refine q_tabOut C 61 dX11_count_1 (by omega) (by omega) rfl ?_
  refine q_iconst C dX11_count_61 (n := 62) rfl ?_
  exact q_iret C dX11_count_62 ⟨rfl, rfl⟩ (by rw [hPo]; exact ⟨(-1), rfl, rfl, trivial⟩)
theorem c_X11_lines {w : zWp} {T : zTl} {M : zMm} {J : zJm} {R : zRm'} {G : zGt} {F : zRm'} {a : Nat} (hI : zI G M) (hF : zF F R) (h0 : zHideSets T F G a) (v1 : Int) (p1 : -2147483648 ≤ v1 ∧ v1 ≤ 2147483647) : zCt w 2 0 0 yX11_lines cX11_lines 2 (some .int) [.ref (w.2.1 + a), zi v1] (T, M, J, R) (zPp T M J R (fun x => True)) := by
  refine zCt.of rfl (Nat.le_of_ble_eq_true rfl) ?_
  intro p e s m args below meth c C
  obtain ⟨Po, hPo⟩ : ∃ Po, Po = zPp T M J R (fun x => True) := ⟨_, rfl⟩
  rw [← hPo]
  show zK w p e 2 0 0 s m args below meth c 2 T Po 0 [.ref (w.2.1 + a), zi v1] [] (T, M, J, R)
  refine q_aload_n C dX11_lines_0 (n := 1) rfl rfl ?_
  refine q_getR C dX11_lines_1 (n := 4) rfl f_X11_20 h0.1 (hF _ _ _ h0.2.2.2.2.2.1) ?_
  refine q_iload_n C dX11_lines_4 (n := 5) rfl rfl ?_
  refine q_callVp C dX11_lines_5 (n := 8) rfl m_X11_99 v_yX7_hasFile h0.2.2.2.2.2.2.1.1 ⟨by decide, rfl⟩ (c_X7_hasFile (w := w) (J := J) hI hF h0.2.2.2.2.2.2.1 v1 (by omega)) (Nat.le_of_ble_eq_true rfl) rfl rfl (Nat.le_of_ble_eq_true rfl) ⟨Nat.le_refl _, Nat.le_refl _⟩ (fun x3 h4 => ?_)
  obtain ⟨h1, h2⟩ := h4
  refine q_if_eq C 26 dX11_lines_8 (n := 11) rfl rfl (by omega) (fun h5 => ?_) (fun h5 => ?_)
  · refine q_iconst C dX11_lines_26 (n := 27) rfl ?_
    exact q_iret C dX11_lines_27 ⟨rfl, rfl⟩ (by rw [hPo]; exact ⟨(-1), rfl, rfl, trivial⟩)
  · refine q_aload_n C dX11_lines_11 (n := 12) rfl rfl ?_
    refine q_getR C dX11_lines_12 (n := 15) rfl f_X11_20 h0.1 (hF _ _ _ h0.2.2.2.2.2.1) ?_
    refine q_getR C dX11_lines_15 (n := 18) rfl f_X11_66 h0.2.2.2.2.2.2.1.1 (hF _ _ _ h0.2.2.2.2.2.2.1.2.1) ?_
    refine q_iload_n C dX11_lines_18 (n := 19) rfl rfl ?_
    refine q_aald C dX11_lines_19 (n := 20) rfl ⟨by decide, by decide⟩ h0.2.2.2.2.2.2.1.2.2.1 (by omega) (hF _ _ _ (h0.2.2.2.2.2.2.1.2.2.2.1 v1 (by omega) (by omega)).1) ?_
    have g6 := zI.at hI (h0.2.2.2.2.2.2.1.2.2.2.1 v1 (by omega) (by omega)).2.2.2.2.2.2.2.2.2.2.2.1
    refine q_getI C dX11_lines_20 (n := 23) rfl f_X11_79 (h0.2.2.2.2.2.2.1.2.2.2.1 v1 (by omega) (by omega)).2.1 (v := M (a + 2 + 9 + 4 * (v1 : Int).toNat) 3) rfl ?_
    refine q_goto C 27 dX11_lines_23 rfl ?_
    exact q_iret C dX11_lines_27 ⟨rfl, rfl⟩ (by rw [hPo]; exact ⟨M (a + 2 + 9 + 4 * (v1 : Int).toNat) 3, rfl, rfl, trivial⟩)
