/-! ===== constructors: lists of cells, links, rules ===== -/
theorem zlk2 {T T2 X : zTl} {y : Nat × Nat} {a : Nat} (e : T2 = T ++ X) (h : T[a]? = some y) : T2[a]? = some y := by
  subst e
  rw [List.getElem?_append_left (List.getElem?_eq_some_iff.mp h).1]
  exact h
theorem zlast2 {T T2 : zTl} {x : Nat × Nat} {q : Nat} (e : T2 = T ++ [x]) (hp : T.length = q) : T2[q]? = some x := by
  subst e hp
  simp
theorem zlen2 {T T2 X : zTl} {q q2 l : Nat} (e : T2 = T ++ X) (hp : T.length = q) (hl : X.length = l) (hq : q + l = q2) : T2.length = q2 := by
  subst e hp hq hl
  simp
theorem zsz_app2 (A B : zTl) : zsz (A ++ B) = zsz A + zsz B := by
  unfold zsz
  simp
theorem zsz_cons (x : Nat × Nat) (A : zTl) : zsz (x :: A) = x.2 + zsz A := by
  unfold zsz
  simp
theorem zsz_nil : zsz [] = 0 := rfl
theorem zsz2 {T T2 X T0 : zTl} {s s2 l : Nat} (e : T2 = T ++ X) (hs : zsz T = zsz T0 + s) (hl : zsz X = l) (h : s + l = s2) : zsz T2 = zsz T0 + s2 := by
  subst e h hl
  rw [zsz_app2, hs, Nat.add_assoc]
def zRep (L : zTl) : Nat → zTl
  | 0 => []
  | n + 1 => zRep L n ++ L
theorem zRep_len {L : zTl} {l : Nat} (h : L.length = l) : ∀ n, (zRep L n).length = l * n
  | 0 => rfl
  | n + 1 => by
    show (zRep L n ++ L).length = l * (n + 1)
    rw [List.length_append, zRep_len h n, h, Nat.mul_succ]
theorem zRep_sz {L : zTl} {l : Nat} (h : zsz L = l) : ∀ n, zsz (zRep L n) = l * n
  | 0 => rfl
  | n + 1 => by
    show zsz (zRep L n ++ L) = l * (n + 1)
    rw [zsz_app2, zRep_sz h n, h, Nat.mul_succ]
/-- the cells of L lie at a and behind -/
def zIn (T : zTl) (a : Nat) (L : zTl) : Prop := ∀ i, i < L.length → T[a + i]? = L[i]?
theorem zIn.app {T : zTl} {a l : Nat} {L1 L2 : zTl} (h : zIn T a (L1 ++ L2)) (hl : L1.length = l) : zIn T a L1 ∧ zIn T (a + l) L2 := by
  subst hl
  refine ⟨fun i hi => ?_, fun i hi => ?_⟩
  · rw [h i (by rw [List.length_append]; omega), List.getElem?_append_left hi]
  · have := h (L1.length + i) (by rw [List.length_append]; omega)
    rw [List.getElem?_append_right (by omega), Nat.add_sub_cancel_left] at this
    rw [← this, Nat.add_assoc]
theorem zIn.hd {T : zTl} {a i : Nat} {L : zTl} {x : Nat × Nat} (h : zIn T a L) (e : L[i]? = some x) : T[a + i]? = some x := (h i (List.getElem?_eq_some_iff.mp e).1).trans e
theorem zIn.rep {T : zTl} {a l : Nat} {L : zTl} (hl : L.length = l) : ∀ {n : Nat}, zIn T a (zRep L n) → ∀ j, j < n → zIn T (a + l * j) L
  | 0, _, j, hj => absurd hj (Nat.not_lt_zero j)
  | n + 1, h, j, hj => by
    have g := zIn.app (L1 := zRep L n) (L2 := L) h (zRep_len hl n)
    by_cases q : j = n
    · subst q
      exact g.2
    · exact zIn.rep hl g.1 j (by omega)
theorem zIn.ext {T : zTl} {a : Nat} {L X : zTl} (h : zIn T a L) : zIn (T ++ X) a L := fun i hi => by
  have q := h i hi
  rw [List.getElem?_eq_getElem hi] at q
  rw [List.getElem?_eq_getElem hi]
  exact zlk2 rfl q
theorem zIn.of {P L X : zTl} {a : Nat} (hP : P.length = a) : zIn (P ++ L ++ X) a L := fun i hi => by
  subst hP
  rw [List.append_assoc, List.getElem?_append_right (by omega), Nat.add_sub_cancel_left, List.getElem?_append_left hi]

def zL5 (n : Nat) : zTl := [(5, 4), (50, n), (50, n), (50, n)]
theorem zL5_len (n : Nat) : (zL5 n).length = 4 := by
  unfold zL5
  simp only [List.length_append, List.length_cons, List.length_nil]
theorem zL5_sz (n : Nat) : zsz (zL5 n) = 4 + n + n + n := by
  unfold zL5
  simp only [zsz_app2, zsz_cons, zsz_nil]
  try omega
def zL1 : zTl := [(1, 2)]
theorem zL1_len : (zL1).length = 1 := by
  unfold zL1
  simp only [List.length_append, List.length_cons, List.length_nil]
theorem zL1_sz : zsz (zL1) = 2 := by
  unfold zL1
  simp only [zsz_app2, zsz_cons, zsz_nil]
def zL4 : zTl := [(4, 7), (51, 401), (50, 41), (50, 40)]
theorem zL4_len : (zL4).length = 4 := by
  unfold zL4
  simp only [List.length_append, List.length_cons, List.length_nil]
theorem zL4_sz : zsz (zL4) = 489 := by
  unfold zL4
  simp only [zsz_app2, zsz_cons, zsz_nil]
def zL10 (n : Nat) : zTl := [(10, 2), (51, 2576 + n)]
theorem zL10_len (n : Nat) : (zL10 n).length = 2 := by
  unfold zL10
  simp only [List.length_append, List.length_cons, List.length_nil]
theorem zL10_sz (n : Nat) : zsz (zL10 n) = 2 + (2576 + n) := by
  unfold zL10
  simp only [zsz_app2, zsz_cons, zsz_nil]
  try omega
def zL3 : zTl := [(3, 18), (50, 12), (50, 12), (52, 12), (50, 12), (50, 12), (50, 12), (50, 12), (50, 12), (50, 12), (50, 240), (50, 240), (50, 240), (50, 240), (50, 4)]
theorem zL3_len : (zL3).length = 15 := by
  unfold zL3
  simp only [List.length_append, List.length_cons, List.length_nil]
theorem zL3_sz : zsz (zL3) = 1090 := by
  unfold zL3
  simp only [zsz_app2, zsz_cons, zsz_nil]
def zL9 : zTl := [(9, 8), (50, 3440), (53, 3440)]
theorem zL9_len : (zL9).length = 3 := by
  unfold zL9
  simp only [List.length_append, List.length_cons, List.length_nil]
theorem zL9_sz : zsz (zL9) = 6888 := by
  unfold zL9
  simp only [zsz_app2, zsz_cons, zsz_nil]
def zL2 : zTl := [(2, 18), (50, 4), (50, 4)] ++ (zL5 32)
theorem zL2_len : (zL2).length = 7 := by
  unfold zL2
  simp only [List.length_append, List.length_cons, List.length_nil, zL5_len]
theorem zL2_sz : zsz (zL2) = 126 := by
  unfold zL2
  simp only [zsz_app2, zsz_cons, zsz_nil, zL5_sz]
def zL12 : zTl := [(12, 119), (51, 440), (50, 173), (50, 346), (51, 1690), (51, 3380), (52, 2), (50, 8), (51, 30), (50, 18600), (50, 18600), (50, 18600), (50, 18600), (50, 18600), (50, 18600), (50, 18600), (50, 18600), (51, 62000), (50, 1219), (50, 1219), (51, 7560), (51, 7560), (51, 30), (50, 4), (50, 256), (50, 256), (50, 256), (50, 102), (50, 102), (50, 102), (50, 102), (50, 102), (50, 102), (50, 510), (50, 102), (50, 102), (50, 102), (50, 2040), (50, 2040), (50, 2040), (50, 194000), (50, 3500), (50, 140), (50, 11000), (50, 11000), (50, 11000), (50, 3600), (50, 3600), (50, 3600), (53, 11000), (53, 3600), (50, 8), (50, 8), (50, 8), (50, 290), (50, 290), (50, 290), (50, 290), (50, 290), (50, 3500), (50, 3500), (50, 3500), (50, 3500), (50, 3500), (50, 3500), (50, 3500), (50, 3500), (51, 93000), (50, 4), (50, 3500), (50, 3500), (50, 3500), (50, 3500), (50, 3500), (50, 3500), (50, 3500), (50, 3500), (51, 93000), (50, 160), (50, 8), (50, 8), (50, 32), (51, 74400)]
theorem zL12_len : (zL12).length = 83 := by
  unfold zL12
  simp only [List.length_append, List.length_cons, List.length_nil]
theorem zL12_sz : zsz (zL12) = 817022 := by
  unfold zL12
  simp only [zsz_app2, zsz_cons, zsz_nil]
def zL0 : zTl := [(0, 9)] ++ (zL5 3440 ++ ([(50, 3440), (56, 101)] ++ (zRep zL2 101)))
theorem zL0_len : (zL0).length = 714 := by
  unfold zL0
  simp only [List.length_append, List.length_cons, List.length_nil, zL5_len, zRep_len zL2_len]
theorem zL0_sz : zsz (zL0) = 26600 := by
  unfold zL0
  simp only [zsz_app2, zsz_cons, zsz_nil, zL5_sz, zRep_sz zL2_sz]
def zL7 : zTl := [(7, 7), (54, 4), (57, 3)] ++ (zRep [(51, 30)] 3 ++ ([(50, 3), (50, 3), (50, 3)] ++ (zRep zL4 4)))
theorem zL7_len : (zL7).length = 25 := by
  unfold zL7
  simp only [List.length_append, List.length_cons, List.length_nil, zRep_len (L := [(51, 30)]) (l := 1) rfl, zRep_len zL4_len]
theorem zL7_sz : zsz (zL7) = 2069 := by
  unfold zL7
  simp only [zsz_app2, zsz_cons, zsz_nil, zRep_sz (L := [(51, 30)]) (l := 30) rfl, zRep_sz zL4_sz]
def zL6 (r : Nat) : zTl := [(6, 20)] ++ (zL1 ++ (zL5 3440 ++ ([(50, 10), (50, 160), (50, 10)] ++ (zL5 440 ++ (zL5 3440 ++ ([(50, 7), (50, 7), (50, 7), (50, 280), (50, 280)] ++ (zL10 (r * 30000) ++ (zL3 ++ (zL0 ++ (zL9))))))))))
theorem zL6_len (r : Nat) : (zL6 r).length = 756 := by
  unfold zL6
  simp only [List.length_append, List.length_cons, List.length_nil, zL0_len, zL10_len, zL1_len, zL3_len, zL5_len, zL9_len]
theorem zL6_sz (r : Nat) : zsz (zL6 r) = 57335 + (2576 + (r * 30000)) := by
  unfold zL6
  simp only [zsz_app2, zsz_cons, zsz_nil, zL0_sz, zL10_sz, zL1_sz, zL3_sz, zL5_sz, zL9_sz]
  try omega
def zL11 : zTl := [(11, 9), (51, 440)] ++ (zL7 ++ ([(55, 2), (52, 2), (51, 30)] ++ (zL6 2 ++ (zRep zL7 2))))
theorem zL11_len : (zL11).length = 836 := by
  unfold zL11
  simp only [List.length_append, List.length_cons, List.length_nil, zL6_len, zL7_len, zRep_len zL7_len]
theorem zL11_sz : zsz (zL11) = 126601 := by
  unfold zL11
  simp only [zsz_app2, zsz_cons, zsz_nil, zL6_sz, zL7_sz, zRep_sz zL7_sz]
def zL8 : zTl := [(8, 6)] ++ (zL6 1 ++ [(51, 74440), (50, 8), (50, 8), (50, 160)])
theorem zL8_len : (zL8).length = 761 := by
  unfold zL8
  simp only [List.length_append, List.length_cons, List.length_nil, zL6_len]
theorem zL8_sz : zsz (zL8) = 164533 := by
  unfold zL8
  simp only [zsz_app2, zsz_cons, zsz_nil, zL6_sz]
def zN5 (R : zRm') (a : Nat) : Prop :=
  R a 0 = some (a + 1) ∧
  R a 1 = some (a + 2) ∧
  R a 2 = some (a + 3)
theorem zN5.cg {R R2 : zRm'} {a : Nat} (g : ∀ (c : Nat) (z : Int), a ≤ c → c < a + 4 → R2 c z = R c z) (h : zN5 R a) : zN5 R2 a := ⟨(g a _ (by omega) (by omega)).trans h.1, (g a _ (by omega) (by omega)).trans h.2.1, (g a _ (by omega) (by omega)).trans h.2.2⟩
def zN4 (R : zRm') (a : Nat) : Prop :=
  R a 0 = some (a + 1) ∧
  R a 1 = some (a + 2) ∧
  R a 2 = some (a + 3)
theorem zN4.cg {R R2 : zRm'} {a : Nat} (g : ∀ (c : Nat) (z : Int), a ≤ c → c < a + 4 → R2 c z = R c z) (h : zN4 R a) : zN4 R2 a := ⟨(g a _ (by omega) (by omega)).trans h.1, (g a _ (by omega) (by omega)).trans h.2.1, (g a _ (by omega) (by omega)).trans h.2.2⟩
def zN10 (R : zRm') (a : Nat) : Prop :=
  R a 0 = some (a + 1)
theorem zN10.cg {R R2 : zRm'} {a : Nat} (g : ∀ (c : Nat) (z : Int), a ≤ c → c < a + 2 → R2 c z = R c z) (h : zN10 R a) : zN10 R2 a := (g a _ (by omega) (by omega)).trans h
def zN3 (R : zRm') (a : Nat) (t : Nat) (q : Nat) : Prop :=
  R a 1 = some (a + 1) ∧
  R a 2 = some (a + 2) ∧
  R a 3 = some (a + 3) ∧
  R a 4 = some (a + 4) ∧
  R a 5 = some (a + 5) ∧
  R a 6 = some (a + 6) ∧
  R a 7 = some (a + 7) ∧
  R a 8 = some (a + 8) ∧
  R a 9 = some (a + 9) ∧
  R a 10 = some (a + 10) ∧
  R a 11 = some (a + 11) ∧
  R a 12 = some (a + 12) ∧
  R a 13 = some (a + 13) ∧
  R a 16 = some (a + 14) ∧
  R a 14 = some t ∧
  R a 15 = some q
theorem zN3.cg {R R2 : zRm'} {a : Nat} {t : Nat} {q : Nat} (g : ∀ (c : Nat) (z : Int), a ≤ c → c < a + 15 → R2 c z = R c z) (h : zN3 R a t q) : zN3 R2 a t q := ⟨(g a _ (by omega) (by omega)).trans h.1, (g a _ (by omega) (by omega)).trans h.2.1, (g a _ (by omega) (by omega)).trans h.2.2.1, (g a _ (by omega) (by omega)).trans h.2.2.2.1, (g a _ (by omega) (by omega)).trans h.2.2.2.2.1, (g a _ (by omega) (by omega)).trans h.2.2.2.2.2.1, (g a _ (by omega) (by omega)).trans h.2.2.2.2.2.2.1, (g a _ (by omega) (by omega)).trans h.2.2.2.2.2.2.2.1, (g a _ (by omega) (by omega)).trans h.2.2.2.2.2.2.2.2.1, (g a _ (by omega) (by omega)).trans h.2.2.2.2.2.2.2.2.2.1, (g a _ (by omega) (by omega)).trans h.2.2.2.2.2.2.2.2.2.2.1, (g a _ (by omega) (by omega)).trans h.2.2.2.2.2.2.2.2.2.2.2.1, (g a _ (by omega) (by omega)).trans h.2.2.2.2.2.2.2.2.2.2.2.2.1, (g a _ (by omega) (by omega)).trans h.2.2.2.2.2.2.2.2.2.2.2.2.2.1, (g a _ (by omega) (by omega)).trans h.2.2.2.2.2.2.2.2.2.2.2.2.2.2.1, (g a _ (by omega) (by omega)).trans h.2.2.2.2.2.2.2.2.2.2.2.2.2.2.2⟩
def zN9 (R : zRm') (a : Nat) (t : Nat) (q : Nat) : Prop :=
  R a 3 = some (a + 1) ∧
  R a 4 = some (a + 2) ∧
  R a 0 = some t ∧
  R a 1 = some q
theorem zN9.cg {R R2 : zRm'} {a : Nat} {t : Nat} {q : Nat} (g : ∀ (c : Nat) (z : Int), a ≤ c → c < a + 3 → R2 c z = R c z) (h : zN9 R a t q) : zN9 R2 a t q := ⟨(g a _ (by omega) (by omega)).trans h.1, (g a _ (by omega) (by omega)).trans h.2.1, (g a _ (by omega) (by omega)).trans h.2.2.1, (g a _ (by omega) (by omega)).trans h.2.2.2⟩
def zN2 (R : zRm') (a : Nat) : Prop :=
  R a 9 = some (a + 1) ∧
  R a 10 = some (a + 2) ∧
  R a 11 = some (a + 3) ∧
  zN5 R (a + 3)
theorem zN2.cg {R R2 : zRm'} {a : Nat} (g : ∀ (c : Nat) (z : Int), a ≤ c → c < a + 7 → R2 c z = R c z) (h : zN2 R a) : zN2 R2 a := ⟨(g a _ (by omega) (by omega)).trans h.1, (g a _ (by omega) (by omega)).trans h.2.1, (g a _ (by omega) (by omega)).trans h.2.2.1, zN5.cg (fun c z h1 h2 => g c z (by omega) (by omega)) (h.2.2.2)⟩
def zN12 (R : zRm') (a : Nat) : Prop :=
  R a 1 = some (a + 1) ∧
  R a 4 = some (a + 2) ∧
  R a 5 = some (a + 3) ∧
  R a 6 = some (a + 4) ∧
  R a 7 = some (a + 5) ∧
  R a 8 = some (a + 6) ∧
  R a 10 = some (a + 7) ∧
  R a 12 = some (a + 8) ∧
  R a 14 = some (a + 9) ∧
  R a 15 = some (a + 10) ∧
  R a 16 = some (a + 11) ∧
  R a 17 = some (a + 12) ∧
  R a 18 = some (a + 13) ∧
  R a 19 = some (a + 14) ∧
  R a 20 = some (a + 15) ∧
  R a 21 = some (a + 16) ∧
  R a 22 = some (a + 17) ∧
  R a 30 = some (a + 18) ∧
  R a 31 = some (a + 19) ∧
  R a 32 = some (a + 20) ∧
  R a 33 = some (a + 21) ∧
  R a 35 = some (a + 22) ∧
  R a 36 = some (a + 23) ∧
  R a 38 = some (a + 24) ∧
  R a 39 = some (a + 25) ∧
  R a 40 = some (a + 26) ∧
  R a 41 = some (a + 27) ∧
  R a 42 = some (a + 28) ∧
  R a 43 = some (a + 29) ∧
  R a 44 = some (a + 30) ∧
  R a 45 = some (a + 31) ∧
  R a 46 = some (a + 32) ∧
  R a 47 = some (a + 33) ∧
  R a 48 = some (a + 34) ∧
  R a 49 = some (a + 35) ∧
  R a 50 = some (a + 36) ∧
  R a 51 = some (a + 37) ∧
  R a 52 = some (a + 38) ∧
  R a 53 = some (a + 39) ∧
  R a 54 = some (a + 40) ∧
  R a 55 = some (a + 41) ∧
  R a 56 = some (a + 42) ∧
  R a 66 = some (a + 43) ∧
  R a 67 = some (a + 44) ∧
  R a 68 = some (a + 45) ∧
  R a 69 = some (a + 46) ∧
  R a 70 = some (a + 47) ∧
  R a 71 = some (a + 48) ∧
  R a 72 = some (a + 49) ∧
  R a 73 = some (a + 50) ∧
  R a 80 = some (a + 51) ∧
  R a 81 = some (a + 52) ∧
  R a 82 = some (a + 53) ∧
  R a 83 = some (a + 54) ∧
  R a 84 = some (a + 55) ∧
  R a 85 = some (a + 56) ∧
  R a 86 = some (a + 57) ∧
  R a 87 = some (a + 58) ∧
  R a 90 = some (a + 59) ∧
  R a 91 = some (a + 60) ∧
  R a 92 = some (a + 61) ∧
  R a 93 = some (a + 62) ∧
  R a 94 = some (a + 63) ∧
  R a 95 = some (a + 64) ∧
  R a 96 = some (a + 65) ∧
  R a 97 = some (a + 66) ∧
  R a 98 = some (a + 67) ∧
  R a 102 = some (a + 68) ∧
  R a 103 = some (a + 69) ∧
  R a 104 = some (a + 70) ∧
  R a 105 = some (a + 71) ∧
  R a 106 = some (a + 72) ∧
  R a 107 = some (a + 73) ∧
  R a 108 = some (a + 74) ∧
  R a 109 = some (a + 75) ∧
  R a 110 = some (a + 76) ∧
  R a 111 = some (a + 77) ∧
  R a 113 = some (a + 78) ∧
  R a 114 = some (a + 79) ∧
  R a 115 = some (a + 80) ∧
  R a 116 = some (a + 81) ∧
  R a 117 = some (a + 82)
theorem zN12.cg {R R2 : zRm'} {a : Nat} (g : ∀ (c : Nat) (z : Int), a ≤ c → c < a + 83 → R2 c z = R c z) (h : zN12 R a) : zN12 R2 a := ⟨(g a _ (by omega) (by omega)).trans h.1, (g a _ (by omega) (by omega)).trans h.2.1, (g a _ (by omega) (by omega)).trans h.2.2.1, (g a _ (by omega) (by omega)).trans h.2.2.2.1, (g a _ (by omega) (by omega)).trans h.2.2.2.2.1, (g a _ (by omega) (by omega)).trans h.2.2.2.2.2.1, (g a _ (by omega) (by omega)).trans h.2.2.2.2.2.2.1, (g a _ (by omega) (by omega)).trans h.2.2.2.2.2.2.2.1, (g a _ (by omega) (by omega)).trans h.2.2.2.2.2.2.2.2.1, (g a _ (by omega) (by omega)).trans h.2.2.2.2.2.2.2.2.2.1, (g a _ (by omega) (by omega)).trans h.2.2.2.2.2.2.2.2.2.2.1, (g a _ (by omega) (by omega)).trans h.2.2.2.2.2.2.2.2.2.2.2.1, (g a _ (by omega) (by omega)).trans h.2.2.2.2.2.2.2.2.2.2.2.2.1, (g a _ (by omega) (by omega)).trans h.2.2.2.2.2.2.2.2.2.2.2.2.2.1, (g a _ (by omega) (by omega)).trans h.2.2.2.2.2.2.2.2.2.2.2.2.2.2.1, (g a _ (by omega) (by omega)).trans h.2.2.2.2.2.2.2.2.2.2.2.2.2.2.2.1, (g a _ (by omega) (by omega)).trans h.2.2.2.2.2.2.2.2.2.2.2.2.2.2.2.2.1, (g a _ (by omega) (by omega)).trans h.2.2.2.2.2.2.2.2.2.2.2.2.2.2.2.2.2.1, (g a _ (by omega) (by omega)).trans h.2.2.2.2.2.2.2.2.2.2.2.2.2.2.2.2.2.2.1, (g a _ (by omega) (by omega)).trans h.2.2.2.2.2.2.2.2.2.2.2.2.2.2.2.2.2.2.2.1, (g a _ (by omega) (by omega)).trans h.2.2.2.2.2.2.2.2.2.2.2.2.2.2.2.2.2.2.2.2.1, (g a _ (by omega) (by omega)).trans h.2.2.2.2.2.2.2.2.2.2.2.2.2.2.2.2.2.2.2.2.2.1, (g a _ (by omega) (by omega)).trans h.2.2.2.2.2.2.2.2.2.2.2.2.2.2.2.2.2.2.2.2.2.2.1, (g a _ (by omega) (by omega)).trans h.2.2.2.2.2.2.2.2.2.2.2.2.2.2.2.2.2.2.2.2.2.2.2.1, (g a _ (by omega) (by omega)).trans h.2.2.2.2.2.2.2.2.2.2.2.2.2.2.2.2.2.2.2.2.2.2.2.2.1, (g a _ (by omega) (by omega)).trans h.2.2.2.2.2.2.2.2.2.2.2.2.2.2.2.2.2.2.2.2.2.2.2.2.2.1, (g a _ (by omega) (by omega)).trans h.2.2.2.2.2.2.2.2.2.2.2.2.2.2.2.2.2.2.2.2.2.2.2.2.2.2.1, (g a _ (by omega) (by omega)).trans h.2.2.2.2.2.2.2.2.2.2.2.2.2.2.2.2.2.2.2.2.2.2.2.2.2.2.2.1, (g a _ (by omega) (by omega)).trans h.2.2.2.2.2.2.2.2.2.2.2.2.2.2.2.2.2.2.2.2.2.2.2.2.2.2.2.2.1, (g a _ (by omega) (by omega)).trans h.2.2.2.2.2.2.2.2.2.2.2.2.2.2.2.2.2.2.2.2.2.2.2.2.2.2.2.2.2.1, (g a _ (by omega) (by omega)).trans h.2.2.2.2.2.2.2.2.2.2.2.2.2.2.2.2.2.2.2.2.2.2.2.2.2.2.2.2.2.2.1, (g a _ (by omega) (by omega)).trans h.2.2.2.2.2.2.2.2.2.2.2.2.2.2.2.2.2.2.2.2.2.2.2.2.2.2.2.2.2.2.2.1, (g a _ (by omega) (by omega)).trans h.2.2.2.2.2.2.2.2.2.2.2.2.2.2.2.2.2.2.2.2.2.2.2.2.2.2.2.2.2.2.2.2.1, (g a _ (by omega) (by omega)).trans h.2.2.2.2.2.2.2.2.2.2.2.2.2.2.2.2.2.2.2.2.2.2.2.2.2.2.2.2.2.2.2.2.2.1, (g a _ (by omega) (by omega)).trans h.2.2.2.2.2.2.2.2.2.2.2.2.2.2.2.2.2.2.2.2.2.2.2.2.2.2.2.2.2.2.2.2.2.2.1, (g a _ (by omega) (by omega)).trans h.2.2.2.2.2.2.2.2.2.2.2.2.2.2.2.2.2.2.2.2.2.2.2.2.2.2.2.2.2.2.2.2.2.2.2.1, (g a _ (by omega) (by omega)).trans h.2.2.2.2.2.2.2.2.2.2.2.2.2.2.2.2.2.2.2.2.2.2.2.2.2.2.2.2.2.2.2.2.2.2.2.2.1, (g a _ (by omega) (by omega)).trans h.2.2.2.2.2.2.2.2.2.2.2.2.2.2.2.2.2.2.2.2.2.2.2.2.2.2.2.2.2.2.2.2.2.2.2.2.2.1, (g a _ (by omega) (by omega)).trans h.2.2.2.2.2.2.2.2.2.2.2.2.2.2.2.2.2.2.2.2.2.2.2.2.2.2.2.2.2.2.2.2.2.2.2.2.2.2.1, (g a _ (by omega) (by omega)).trans h.2.2.2.2.2.2.2.2.2.2.2.2.2.2.2.2.2.2.2.2.2.2.2.2.2.2.2.2.2.2.2.2.2.2.2.2.2.2.2.1, (g a _ (by omega) (by omega)).trans h.2.2.2.2.2.2.2.2.2.2.2.2.2.2.2.2.2.2.2.2.2.2.2.2.2.2.2.2.2.2.2.2.2.2.2.2.2.2.2.2.1, (g a _ (by omega) (by omega)).trans h.2.2.2.2.2.2.2.2.2.2.2.2.2.2.2.2.2.2.2.2.2.2.2.2.2.2.2.2.2.2.2.2.2.2.2.2.2.2.2.2.2.1, (g a _ (by omega) (by omega)).trans h.2.2.2.2.2.2.2.2.2.2.2.2.2.2.2.2.2.2.2.2.2.2.2.2.2.2.2.2.2.2.2.2.2.2.2.2.2.2.2.2.2.2.1, (g a _ (by omega) (by omega)).trans h.2.2.2.2.2.2.2.2.2.2.2.2.2.2.2.2.2.2.2.2.2.2.2.2.2.2.2.2.2.2.2.2.2.2.2.2.2.2.2.2.2.2.2.1, (g a _ (by omega) (by omega)).trans h.2.2.2.2.2.2.2.2.2.2.2.2.2.2.2.2.2.2.2.2.2.2.2.2.2.2.2.2.2.2.2.2.2.2.2.2.2.2.2.2.2.2.2.2.1, (g a _ (by omega) (by omega)).trans h.2.2.2.2.2.2.2.2.2.2.2.2.2.2.2.2.2.2.2.2.2.2.2.2.2.2.2.2.2.2.2.2.2.2.2.2.2.2.2.2.2.2.2.2.2.1, (g a _ (by omega) (by omega)).trans h.2.2.2.2.2.2.2.2.2.2.2.2.2.2.2.2.2.2.2.2.2.2.2.2.2.2.2.2.2.2.2.2.2.2.2.2.2.2.2.2.2.2.2.2.2.2.1, (g a _ (by omega) (by omega)).trans h.2.2.2.2.2.2.2.2.2.2.2.2.2.2.2.2.2.2.2.2.2.2.2.2.2.2.2.2.2.2.2.2.2.2.2.2.2.2.2.2.2.2.2.2.2.2.2.1, (g a _ (by omega) (by omega)).trans h.2.2.2.2.2.2.2.2.2.2.2.2.2.2.2.2.2.2.2.2.2.2.2.2.2.2.2.2.2.2.2.2.2.2.2.2.2.2.2.2.2.2.2.2.2.2.2.2.1, (g a _ (by omega) (by omega)).trans h.2.2.2.2.2.2.2.2.2.2.2.2.2.2.2.2.2.2.2.2.2.2.2.2.2.2.2.2.2.2.2.2.2.2.2.2.2.2.2.2.2.2.2.2.2.2.2.2.2.1, (g a _ (by omega) (by omega)).trans h.2.2.2.2.2.2.2.2.2.2.2.2.2.2.2.2.2.2.2.2.2.2.2.2.2.2.2.2.2.2.2.2.2.2.2.2.2.2.2.2.2.2.2.2.2.2.2.2.2.2.1, (g a _ (by omega) (by omega)).trans h.2.2.2.2.2.2.2.2.2.2.2.2.2.2.2.2.2.2.2.2.2.2.2.2.2.2.2.2.2.2.2.2.2.2.2.2.2.2.2.2.2.2.2.2.2.2.2.2.2.2.2.1, (g a _ (by omega) (by omega)).trans h.2.2.2.2.2.2.2.2.2.2.2.2.2.2.2.2.2.2.2.2.2.2.2.2.2.2.2.2.2.2.2.2.2.2.2.2.2.2.2.2.2.2.2.2.2.2.2.2.2.2.2.2.1, (g a _ (by omega) (by omega)).trans h.2.2.2.2.2.2.2.2.2.2.2.2.2.2.2.2.2.2.2.2.2.2.2.2.2.2.2.2.2.2.2.2.2.2.2.2.2.2.2.2.2.2.2.2.2.2.2.2.2.2.2.2.2.1, (g a _ (by omega) (by omega)).trans h.2.2.2.2.2.2.2.2.2.2.2.2.2.2.2.2.2.2.2.2.2.2.2.2.2.2.2.2.2.2.2.2.2.2.2.2.2.2.2.2.2.2.2.2.2.2.2.2.2.2.2.2.2.2.1, (g a _ (by omega) (by omega)).trans h.2.2.2.2.2.2.2.2.2.2.2.2.2.2.2.2.2.2.2.2.2.2.2.2.2.2.2.2.2.2.2.2.2.2.2.2.2.2.2.2.2.2.2.2.2.2.2.2.2.2.2.2.2.2.2.1, (g a _ (by omega) (by omega)).trans h.2.2.2.2.2.2.2.2.2.2.2.2.2.2.2.2.2.2.2.2.2.2.2.2.2.2.2.2.2.2.2.2.2.2.2.2.2.2.2.2.2.2.2.2.2.2.2.2.2.2.2.2.2.2.2.2.1, (g a _ (by omega) (by omega)).trans h.2.2.2.2.2.2.2.2.2.2.2.2.2.2.2.2.2.2.2.2.2.2.2.2.2.2.2.2.2.2.2.2.2.2.2.2.2.2.2.2.2.2.2.2.2.2.2.2.2.2.2.2.2.2.2.2.2.1, (g a _ (by omega) (by omega)).trans h.2.2.2.2.2.2.2.2.2.2.2.2.2.2.2.2.2.2.2.2.2.2.2.2.2.2.2.2.2.2.2.2.2.2.2.2.2.2.2.2.2.2.2.2.2.2.2.2.2.2.2.2.2.2.2.2.2.2.1, (g a _ (by omega) (by omega)).trans h.2.2.2.2.2.2.2.2.2.2.2.2.2.2.2.2.2.2.2.2.2.2.2.2.2.2.2.2.2.2.2.2.2.2.2.2.2.2.2.2.2.2.2.2.2.2.2.2.2.2.2.2.2.2.2.2.2.2.2.1, (g a _ (by omega) (by omega)).trans h.2.2.2.2.2.2.2.2.2.2.2.2.2.2.2.2.2.2.2.2.2.2.2.2.2.2.2.2.2.2.2.2.2.2.2.2.2.2.2.2.2.2.2.2.2.2.2.2.2.2.2.2.2.2.2.2.2.2.2.2.1, (g a _ (by omega) (by omega)).trans h.2.2.2.2.2.2.2.2.2.2.2.2.2.2.2.2.2.2.2.2.2.2.2.2.2.2.2.2.2.2.2.2.2.2.2.2.2.2.2.2.2.2.2.2.2.2.2.2.2.2.2.2.2.2.2.2.2.2.2.2.2.1, (g a _ (by omega) (by omega)).trans h.2.2.2.2.2.2.2.2.2.2.2.2.2.2.2.2.2.2.2.2.2.2.2.2.2.2.2.2.2.2.2.2.2.2.2.2.2.2.2.2.2.2.2.2.2.2.2.2.2.2.2.2.2.2.2.2.2.2.2.2.2.2.1, (g a _ (by omega) (by omega)).trans h.2.2.2.2.2.2.2.2.2.2.2.2.2.2.2.2.2.2.2.2.2.2.2.2.2.2.2.2.2.2.2.2.2.2.2.2.2.2.2.2.2.2.2.2.2.2.2.2.2.2.2.2.2.2.2.2.2.2.2.2.2.2.2.1, (g a _ (by omega) (by omega)).trans h.2.2.2.2.2.2.2.2.2.2.2.2.2.2.2.2.2.2.2.2.2.2.2.2.2.2.2.2.2.2.2.2.2.2.2.2.2.2.2.2.2.2.2.2.2.2.2.2.2.2.2.2.2.2.2.2.2.2.2.2.2.2.2.2.1, (g a _ (by omega) (by omega)).trans h.2.2.2.2.2.2.2.2.2.2.2.2.2.2.2.2.2.2.2.2.2.2.2.2.2.2.2.2.2.2.2.2.2.2.2.2.2.2.2.2.2.2.2.2.2.2.2.2.2.2.2.2.2.2.2.2.2.2.2.2.2.2.2.2.2.1, (g a _ (by omega) (by omega)).trans h.2.2.2.2.2.2.2.2.2.2.2.2.2.2.2.2.2.2.2.2.2.2.2.2.2.2.2.2.2.2.2.2.2.2.2.2.2.2.2.2.2.2.2.2.2.2.2.2.2.2.2.2.2.2.2.2.2.2.2.2.2.2.2.2.2.2.1, (g a _ (by omega) (by omega)).trans h.2.2.2.2.2.2.2.2.2.2.2.2.2.2.2.2.2.2.2.2.2.2.2.2.2.2.2.2.2.2.2.2.2.2.2.2.2.2.2.2.2.2.2.2.2.2.2.2.2.2.2.2.2.2.2.2.2.2.2.2.2.2.2.2.2.2.2.1, (g a _ (by omega) (by omega)).trans h.2.2.2.2.2.2.2.2.2.2.2.2.2.2.2.2.2.2.2.2.2.2.2.2.2.2.2.2.2.2.2.2.2.2.2.2.2.2.2.2.2.2.2.2.2.2.2.2.2.2.2.2.2.2.2.2.2.2.2.2.2.2.2.2.2.2.2.2.1, (g a _ (by omega) (by omega)).trans h.2.2.2.2.2.2.2.2.2.2.2.2.2.2.2.2.2.2.2.2.2.2.2.2.2.2.2.2.2.2.2.2.2.2.2.2.2.2.2.2.2.2.2.2.2.2.2.2.2.2.2.2.2.2.2.2.2.2.2.2.2.2.2.2.2.2.2.2.2.1, (g a _ (by omega) (by omega)).trans h.2.2.2.2.2.2.2.2.2.2.2.2.2.2.2.2.2.2.2.2.2.2.2.2.2.2.2.2.2.2.2.2.2.2.2.2.2.2.2.2.2.2.2.2.2.2.2.2.2.2.2.2.2.2.2.2.2.2.2.2.2.2.2.2.2.2.2.2.2.2.1, (g a _ (by omega) (by omega)).trans h.2.2.2.2.2.2.2.2.2.2.2.2.2.2.2.2.2.2.2.2.2.2.2.2.2.2.2.2.2.2.2.2.2.2.2.2.2.2.2.2.2.2.2.2.2.2.2.2.2.2.2.2.2.2.2.2.2.2.2.2.2.2.2.2.2.2.2.2.2.2.2.1, (g a _ (by omega) (by omega)).trans h.2.2.2.2.2.2.2.2.2.2.2.2.2.2.2.2.2.2.2.2.2.2.2.2.2.2.2.2.2.2.2.2.2.2.2.2.2.2.2.2.2.2.2.2.2.2.2.2.2.2.2.2.2.2.2.2.2.2.2.2.2.2.2.2.2.2.2.2.2.2.2.2.1, (g a _ (by omega) (by omega)).trans h.2.2.2.2.2.2.2.2.2.2.2.2.2.2.2.2.2.2.2.2.2.2.2.2.2.2.2.2.2.2.2.2.2.2.2.2.2.2.2.2.2.2.2.2.2.2.2.2.2.2.2.2.2.2.2.2.2.2.2.2.2.2.2.2.2.2.2.2.2.2.2.2.2.1, (g a _ (by omega) (by omega)).trans h.2.2.2.2.2.2.2.2.2.2.2.2.2.2.2.2.2.2.2.2.2.2.2.2.2.2.2.2.2.2.2.2.2.2.2.2.2.2.2.2.2.2.2.2.2.2.2.2.2.2.2.2.2.2.2.2.2.2.2.2.2.2.2.2.2.2.2.2.2.2.2.2.2.2.1, (g a _ (by omega) (by omega)).trans h.2.2.2.2.2.2.2.2.2.2.2.2.2.2.2.2.2.2.2.2.2.2.2.2.2.2.2.2.2.2.2.2.2.2.2.2.2.2.2.2.2.2.2.2.2.2.2.2.2.2.2.2.2.2.2.2.2.2.2.2.2.2.2.2.2.2.2.2.2.2.2.2.2.2.2.1, (g a _ (by omega) (by omega)).trans h.2.2.2.2.2.2.2.2.2.2.2.2.2.2.2.2.2.2.2.2.2.2.2.2.2.2.2.2.2.2.2.2.2.2.2.2.2.2.2.2.2.2.2.2.2.2.2.2.2.2.2.2.2.2.2.2.2.2.2.2.2.2.2.2.2.2.2.2.2.2.2.2.2.2.2.2.1, (g a _ (by omega) (by omega)).trans h.2.2.2.2.2.2.2.2.2.2.2.2.2.2.2.2.2.2.2.2.2.2.2.2.2.2.2.2.2.2.2.2.2.2.2.2.2.2.2.2.2.2.2.2.2.2.2.2.2.2.2.2.2.2.2.2.2.2.2.2.2.2.2.2.2.2.2.2.2.2.2.2.2.2.2.2.2.1, (g a _ (by omega) (by omega)).trans h.2.2.2.2.2.2.2.2.2.2.2.2.2.2.2.2.2.2.2.2.2.2.2.2.2.2.2.2.2.2.2.2.2.2.2.2.2.2.2.2.2.2.2.2.2.2.2.2.2.2.2.2.2.2.2.2.2.2.2.2.2.2.2.2.2.2.2.2.2.2.2.2.2.2.2.2.2.2.1, (g a _ (by omega) (by omega)).trans h.2.2.2.2.2.2.2.2.2.2.2.2.2.2.2.2.2.2.2.2.2.2.2.2.2.2.2.2.2.2.2.2.2.2.2.2.2.2.2.2.2.2.2.2.2.2.2.2.2.2.2.2.2.2.2.2.2.2.2.2.2.2.2.2.2.2.2.2.2.2.2.2.2.2.2.2.2.2.2.1, (g a _ (by omega) (by omega)).trans h.2.2.2.2.2.2.2.2.2.2.2.2.2.2.2.2.2.2.2.2.2.2.2.2.2.2.2.2.2.2.2.2.2.2.2.2.2.2.2.2.2.2.2.2.2.2.2.2.2.2.2.2.2.2.2.2.2.2.2.2.2.2.2.2.2.2.2.2.2.2.2.2.2.2.2.2.2.2.2.2.1, (g a _ (by omega) (by omega)).trans h.2.2.2.2.2.2.2.2.2.2.2.2.2.2.2.2.2.2.2.2.2.2.2.2.2.2.2.2.2.2.2.2.2.2.2.2.2.2.2.2.2.2.2.2.2.2.2.2.2.2.2.2.2.2.2.2.2.2.2.2.2.2.2.2.2.2.2.2.2.2.2.2.2.2.2.2.2.2.2.2.2⟩
def zN0 (R : zRm') (a : Nat) (t : Nat) (mm : Nat) (q : Nat) : Prop :=
  R a 3 = some (a + 1) ∧
  R a 4 = some (a + 5) ∧
  R a 5 = some (a + 6) ∧
  R a 0 = some t ∧
  R a 1 = some mm ∧
  R a 2 = some q ∧
  zN5 R (a + 1) ∧
  (∀ j : Int, 0 ≤ j → j < 101 → R (a + 6) j = some (a + 7 + 7 * j.toNat) ∧ zN2 R (a + 7 + 7 * j.toNat))
theorem zN0.cg {R R2 : zRm'} {a : Nat} {t : Nat} {mm : Nat} {q : Nat} (g : ∀ (c : Nat) (z : Int), a ≤ c → c < a + 714 → R2 c z = R c z) (h : zN0 R a t mm q) : zN0 R2 a t mm q := ⟨(g a _ (by omega) (by omega)).trans h.1, (g a _ (by omega) (by omega)).trans h.2.1, (g a _ (by omega) (by omega)).trans h.2.2.1, (g a _ (by omega) (by omega)).trans h.2.2.2.1, (g a _ (by omega) (by omega)).trans h.2.2.2.2.1, (g a _ (by omega) (by omega)).trans h.2.2.2.2.2.1, zN5.cg (fun c z h1 h2 => g c z (by omega) (by omega)) (h.2.2.2.2.2.2.1), fun j j1 j2 => ⟨(g _ _ (by omega) (by omega)).trans (h.2.2.2.2.2.2.2 j j1 j2).1, zN2.cg (fun c z h1 h2 => g c z (by omega) (by omega)) (h.2.2.2.2.2.2.2 j j1 j2).2⟩⟩
def zN7 (R : zRm') (a : Nat) : Prop :=
  R a 0 = some (a + 1) ∧
  R a 1 = some (a + 2) ∧
  R a 2 = some (a + 6) ∧
  R a 5 = some (a + 7) ∧
  R a 6 = some (a + 8) ∧
  (∀ j : Int, 0 ≤ j → j < 3 → R (a + 2) j = some (a + 3 + j.toNat)) ∧
  (∀ j : Int, 0 ≤ j → j < 4 → R (a + 1) j = some (a + 9 + 4 * j.toNat) ∧ zN4 R (a + 9 + 4 * j.toNat))
theorem zN7.cg {R R2 : zRm'} {a : Nat} (g : ∀ (c : Nat) (z : Int), a ≤ c → c < a + 25 → R2 c z = R c z) (h : zN7 R a) : zN7 R2 a := ⟨(g a _ (by omega) (by omega)).trans h.1, (g a _ (by omega) (by omega)).trans h.2.1, (g a _ (by omega) (by omega)).trans h.2.2.1, (g a _ (by omega) (by omega)).trans h.2.2.2.1, (g a _ (by omega) (by omega)).trans h.2.2.2.2.1, fun j j1 j2 => (g _ _ (by omega) (by omega)).trans (h.2.2.2.2.2.1 j j1 j2), fun j j1 j2 => ⟨(g _ _ (by omega) (by omega)).trans (h.2.2.2.2.2.2 j j1 j2).1, zN4.cg (fun c z h1 h2 => g c z (by omega) (by omega)) (h.2.2.2.2.2.2 j j1 j2).2⟩⟩
def zN6 (R : zRm') (a : Nat) : Prop :=
  R a 1 = some (a + 1) ∧
  R a 3 = some (a + 2) ∧
  R a 4 = some (a + 6) ∧
  R a 5 = some (a + 7) ∧
  R a 6 = some (a + 8) ∧
  R a 9 = some (a + 9) ∧
  R a 10 = some (a + 13) ∧
  R a 12 = some (a + 17) ∧
  R a 13 = some (a + 18) ∧
  R a 14 = some (a + 19) ∧
  R a 16 = some (a + 20) ∧
  R a 17 = some (a + 21) ∧
  R a 0 = some (a + 22) ∧
  R a 2 = some (a + 24) ∧
  R a 7 = some (a + 39) ∧
  R a 8 = some (a + 753) ∧
  zN5 R (a + 2) ∧
  zN5 R (a + 9) ∧
  zN5 R (a + 13) ∧
  zN10 R (a + 22) ∧
  zN3 R (a + 24) (a + 22) (a + 1) ∧
  zN0 R (a + 39) (a + 22) (a + 24) (a + 1) ∧
  zN9 R (a + 753) (a + 22) (a + 1)
theorem zN6.cg {R R2 : zRm'} {a : Nat} (g : ∀ (c : Nat) (z : Int), a ≤ c → c < a + 756 → R2 c z = R c z) (h : zN6 R a) : zN6 R2 a := ⟨(g a _ (by omega) (by omega)).trans h.1, (g a _ (by omega) (by omega)).trans h.2.1, (g a _ (by omega) (by omega)).trans h.2.2.1, (g a _ (by omega) (by omega)).trans h.2.2.2.1, (g a _ (by omega) (by omega)).trans h.2.2.2.2.1, (g a _ (by omega) (by omega)).trans h.2.2.2.2.2.1, (g a _ (by omega) (by omega)).trans h.2.2.2.2.2.2.1, (g a _ (by omega) (by omega)).trans h.2.2.2.2.2.2.2.1, (g a _ (by omega) (by omega)).trans h.2.2.2.2.2.2.2.2.1, (g a _ (by omega) (by omega)).trans h.2.2.2.2.2.2.2.2.2.1, (g a _ (by omega) (by omega)).trans h.2.2.2.2.2.2.2.2.2.2.1, (g a _ (by omega) (by omega)).trans h.2.2.2.2.2.2.2.2.2.2.2.1, (g a _ (by omega) (by omega)).trans h.2.2.2.2.2.2.2.2.2.2.2.2.1, (g a _ (by omega) (by omega)).trans h.2.2.2.2.2.2.2.2.2.2.2.2.2.1, (g a _ (by omega) (by omega)).trans h.2.2.2.2.2.2.2.2.2.2.2.2.2.2.1, (g a _ (by omega) (by omega)).trans h.2.2.2.2.2.2.2.2.2.2.2.2.2.2.2.1, zN5.cg (fun c z h1 h2 => g c z (by omega) (by omega)) (h.2.2.2.2.2.2.2.2.2.2.2.2.2.2.2.2.1), zN5.cg (fun c z h1 h2 => g c z (by omega) (by omega)) (h.2.2.2.2.2.2.2.2.2.2.2.2.2.2.2.2.2.1), zN5.cg (fun c z h1 h2 => g c z (by omega) (by omega)) (h.2.2.2.2.2.2.2.2.2.2.2.2.2.2.2.2.2.2.1), zN10.cg (fun c z h1 h2 => g c z (by omega) (by omega)) (h.2.2.2.2.2.2.2.2.2.2.2.2.2.2.2.2.2.2.2.1), zN3.cg (fun c z h1 h2 => g c z (by omega) (by omega)) (h.2.2.2.2.2.2.2.2.2.2.2.2.2.2.2.2.2.2.2.2.1), zN0.cg (fun c z h1 h2 => g c z (by omega) (by omega)) (h.2.2.2.2.2.2.2.2.2.2.2.2.2.2.2.2.2.2.2.2.2.1), zN9.cg (fun c z h1 h2 => g c z (by omega) (by omega)) (h.2.2.2.2.2.2.2.2.2.2.2.2.2.2.2.2.2.2.2.2.2.2)⟩
def zN11 (R : zRm') (a : Nat) : Prop :=
  R a 0 = some (a + 1) ∧
  R a 2 = some (a + 2) ∧
  R a 3 = some (a + 27) ∧
  R a 4 = some (a + 28) ∧
  R a 5 = some (a + 29) ∧
  R a 7 = some (a + 30) ∧
  zN7 R (a + 2) ∧
  zN6 R (a + 30) ∧
  (∀ j : Int, 0 ≤ j → j < 2 → R (a + 27) j = some (a + 786 + 25 * j.toNat) ∧ zN7 R (a + 786 + 25 * j.toNat))
theorem zN11.cg {R R2 : zRm'} {a : Nat} (g : ∀ (c : Nat) (z : Int), a ≤ c → c < a + 836 → R2 c z = R c z) (h : zN11 R a) : zN11 R2 a := ⟨(g a _ (by omega) (by omega)).trans h.1, (g a _ (by omega) (by omega)).trans h.2.1, (g a _ (by omega) (by omega)).trans h.2.2.1, (g a _ (by omega) (by omega)).trans h.2.2.2.1, (g a _ (by omega) (by omega)).trans h.2.2.2.2.1, (g a _ (by omega) (by omega)).trans h.2.2.2.2.2.1, zN7.cg (fun c z h1 h2 => g c z (by omega) (by omega)) (h.2.2.2.2.2.2.1), zN6.cg (fun c z h1 h2 => g c z (by omega) (by omega)) (h.2.2.2.2.2.2.2.1), fun j j1 j2 => ⟨(g _ _ (by omega) (by omega)).trans (h.2.2.2.2.2.2.2.2 j j1 j2).1, zN7.cg (fun c z h1 h2 => g c z (by omega) (by omega)) (h.2.2.2.2.2.2.2.2 j j1 j2).2⟩⟩
def zN8 (R : zRm') (a : Nat) : Prop :=
  R a 0 = some (a + 1) ∧
  R a 1 = some (a + 757) ∧
  R a 2 = some (a + 758) ∧
  R a 3 = some (a + 759) ∧
  R a 4 = some (a + 760) ∧
  zN6 R (a + 1)
theorem zN8.cg {R R2 : zRm'} {a : Nat} (g : ∀ (c : Nat) (z : Int), a ≤ c → c < a + 761 → R2 c z = R c z) (h : zN8 R a) : zN8 R2 a := ⟨(g a _ (by omega) (by omega)).trans h.1, (g a _ (by omega) (by omega)).trans h.2.1, (g a _ (by omega) (by omega)).trans h.2.2.1, (g a _ (by omega) (by omega)).trans h.2.2.2.1, (g a _ (by omega) (by omega)).trans h.2.2.2.2.1, zN6.cg (fun c z h1 h2 => g c z (by omega) (by omega)) (h.2.2.2.2.2)⟩
def zG5 (G : zGt) (a : Nat) (n : Nat) (L : Int) : Prop :=
  (∀ k, G (a + 1) k = (2, 0, L)) ∧
  (∀ k, G (a + 2) k = (3, (-2147483648), 2147483647)) ∧
  (∀ k, G (a + 3) k = (0, (-2147483648), 2147483647)) ∧
  G a 3 = (0, 0, (n : Int))
def zG1 (G : zGt) (a : Nat) : Prop :=
  G a 0 = (0, 0, 11) ∧
  G a 1 = (0, (-2147483648), 2147483647)
def zG4 (G : zGt) (a : Nat) : Prop :=
  (∀ k, G (a + 1) k = (20, (-128), 127)) ∧
  (∀ k, G (a + 2) k = (20, 0, 401)) ∧
  (∀ k, G (a + 3) k = (20, 0, 4)) ∧
  G a 3 = (21, 0, 40) ∧
  G a 4 = (20, 0, 1) ∧
  G a 5 = (20, 0, 500) ∧
  G a 6 = (20, 0, 30)
def zG10 (G : zGt) (a : Nat) (L : Nat) : Prop :=
  (∀ k, G (a + 1) k = (0, (-128), 127)) ∧
  G a 1 = (0, 0, (L : Int))
def zG3 (G : zGt) (a : Nat) (L : Nat) : Prop :=
  G a 0 = (0, 0, 12) ∧
  (∀ k, G (a + 1) k = (0, 0, (L : Int))) ∧
  (∀ k, G (a + 2) k = (0, 0, 31)) ∧
  (∀ k, G (a + 3) k = (0, 0, 1)) ∧
  (∀ k, G (a + 4) k = (0, (-1), 4)) ∧
  (∀ k, G (a + 5) k = (0, (-2147483648), 2147483647)) ∧
  (∀ k, G (a + 6) k = (0, (-2147483648), 2147483647)) ∧
  (∀ k, G (a + 7) k = (0, (-2147483648), 2147483647)) ∧
  (∀ k, G (a + 8) k = (0, (-2147483648), 2147483647)) ∧
  (∀ k, G (a + 9) k = (0, 0, 20)) ∧
  (∀ k, G (a + 10) k = (0, (-2147483648), 2147483647)) ∧
  (∀ k, G (a + 11) k = (0, (-2147483648), 2147483647)) ∧
  (∀ k, G (a + 12) k = (2, 0, (L : Int))) ∧
  (∀ k, G (a + 13) k = (3, (-2147483648), 2147483647)) ∧
  (∀ k, G (a + 14) k = (0, 0, 439)) ∧
  G a 17 = (0, 0, 4)
def zG9 (G : zGt) (a : Nat) (L : Nat) : Prop :=
  (∀ k, G (a + 1) k = (0, (-2147483648), 2147483647)) ∧
  G a 5 = (1, 0, 4000) ∧
  G a 6 = (1, (-1), 4000) ∧
  G a 7 = (1, (-1), 3439)
def zG2 (G : zGt) (a : Nat) (L : Nat) : Prop :=
  G a 0 = (0, (-1), 3439) ∧
  G a 1 = (0, (-1), 3439) ∧
  G a 2 = (0, 0, 1) ∧
  G a 3 = (0, (-1), 11) ∧
  G a 4 = (0, 0, 20) ∧
  G a 5 = (0, (-2147483648), 2147483647) ∧
  G a 6 = (0, (-2147483648), 2147483647) ∧
  G a 7 = (0, (-1), 3439) ∧
  G a 8 = (0, 0, 4000) ∧
  (∀ k, G (a + 1) k = (0, (-1), 3439)) ∧
  (∀ k, G (a + 2) k = (0, (-1), 3439)) ∧
  zG5 G (a + 3) 32 (L : Int) ∧
  G a 12 = (0, 0, 1) ∧
  G a 13 = (0, 0, 1) ∧
  G a 14 = (0, 0, 1) ∧
  G a 15 = (0, (-2147483648), 2147483647) ∧
  G a 16 = (0, 0, 1) ∧
  G a 17 = (0, (-2147483648), 2147483647)
def zG0 (G : zGt) (a : Nat) (L : Nat) : Prop :=
  zG5 G (a + 1) 3440 (L : Int) ∧
  (∀ k, G (a + 5) k = (0, (-1), 3439)) ∧
  (∀ j : Int, 0 ≤ j → j < 101 → zG2 G (a + 7 + 7 * j.toNat) L) ∧
  G a 6 = (10, (-1), 100) ∧
  G a 8 = (0, 0, 1)
def zG7 (G : zGt) (a : Nat) : Prop :=
  (∀ j : Int, 0 ≤ j → j < 4 → zG4 G (a + 9 + 4 * j.toNat)) ∧
  (∀ j : Int, 0 ≤ j → j < 3 → ∀ k, G (a + 3 + j.toNat) k = (19, (-128), 127)) ∧
  (∀ k, G (a + 6) k = (19, 0, 30)) ∧
  G a 3 = (19, 0, 3) ∧
  G a 4 = (19, 0, 7) ∧
  (∀ k, G (a + 7) k = (19, 0, 440)) ∧
  (∀ k, G (a + 8) k = (19, 0, 440))
def zG6 (G : zGt) (a : Nat) (L : Nat) : Prop :=
  zG10 G (a + 22) L ∧
  zG1 G (a + 1) ∧
  zG3 G (a + 24) L ∧
  zG5 G (a + 2) 3440 (L : Int) ∧
  (∀ k, G (a + 6) k = (0, (-2147483648), 2147483647)) ∧
  (∀ k, G (a + 7) k = (0, (-2147483648), 2147483647)) ∧
  (∀ k, G (a + 8) k = (0, (-2147483648), 2147483647)) ∧
  zG0 G (a + 39) L ∧
  zG9 G (a + 753) L ∧
  zG5 G (a + 9) 440 (L : Int) ∧
  zG5 G (a + 13) 3440 (L : Int) ∧
  (∀ k, G (a + 17) k = (14, 0, 3)) ∧
  (∀ k, G (a + 18) k = (14, 0, 40)) ∧
  (∀ k, G (a + 19) k = (14, 0, 280)) ∧
  G a 15 = (14, (-1), 6) ∧
  (∀ k, G (a + 20) k = (12, (-2147483648), 2147483647)) ∧
  (∀ k, G (a + 21) k = (12, (-2147483648), 2147483647)) ∧
  G a 18 = (12, 0, 280) ∧
  G a 19 = (12, (-2147483648), 2147483647)
def zG11 (G : zGt) (a : Nat) : Prop :=
  (∀ k, G (a + 1) k = (18, (-128), 127)) ∧
  G a 1 = (18, 0, 440) ∧
  zG7 G (a + 2) ∧
  (∀ j : Int, 0 ≤ j → j < 2 → zG7 G (a + 786 + 25 * j.toNat)) ∧
  (∀ k, G (a + 28) k = (20, 0, 1)) ∧
  (∀ k, G (a + 29) k = (29, (-128), 127)) ∧
  G a 6 = (29, 0, 30) ∧
  zG6 G (a + 30) 62576
def zG8 (G : zGt) (a : Nat) : Prop :=
  zG6 G (a + 1) 32576 ∧
  (∀ k, G (a + 757) k = (16, (-128), 127)) ∧
  (∀ k, G (a + 758) k = (16, 0, 9305)) ∧
  (∀ k, G (a + 759) k = (16, 0, 7)) ∧
  (∀ k, G (a + 760) k = (0, (-2147483648), 2147483647)) ∧
  G a 5 = (16, (-1), 3)
