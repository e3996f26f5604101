theorem zsums_rec {w : zWp} {T : zTl} {R : zRm'} {G : zGt} {F : zRm'} {a t q L rw : Nat} (hF : zF F R) (h0 : zSums T F G a t q L) (hrow : R a 2 = some rw) (h_rw : zRow T F G rw 3440 (L : Int)) : ∀ n : Nat, (∀ (M : zMm) (J : zJm), zI G M → ∀ (v1 v2 : Int), (0 ≤ v1 ∧ v1 ≤ 8) → (v2 = 0 ∨ v2 = 1) → (M a 6 = -1) → (M a 5 ≤ 3440) → (13 * (8 - v1) + 13 ≤ (n : Int)) → zCt w (n + 4) 0 0 yX9_choice cX9_choice 9 (some .long) [.ref (w.2.1 + a), zi v1, zi v2] (T, M, J, R) (zPl T R G (fun M2 => (zKp G 1 M M2) ∧ ((M2 a 6 = -1 ∧ M2 a 5 ≤ 3440) ∨ (¬ M2 a 6 = -1 ∧ M2 a 5 ≤ 3460 - v1))))) ∧ (∀ (M : zMm) (J : zJm), zI G M → ∀ (v1 v2 : Int), (0 ≤ v1 ∧ v1 ≤ 8) → (v2 = 0 ∨ v2 = 1) → ((M a 6 = -1 ∧ M a 5 ≤ 3440) ∨ (¬ M a 6 = -1 ∧ M a 5 ≤ 3460 - v1)) → (13 * (8 - v1) + 1 ≤ (n : Int)) → zCt w (n + 4) 0 0 yX9_part cX9_part 3 (some .long) [.ref (w.2.1 + a), zi v1, zi v2] (T, M, J, R) (zPl T R G (fun M2 => (zKp G 1 M M2) ∧ ((M2 a 6 = -1 ∧ M2 a 5 ≤ 3440) ∨ (¬ M2 a 6 = -1 ∧ (M2 a 5 ≤ 3459 - v1 ∨ M2 a 5 = M a 5)))))) ∧ (∀ (M : zMm) (J : zJm), zI G M → ∀ (v1 v2 v3 : Int), (1 ≤ v1 ∧ v1 ≤ 11) → (0 ≤ v2 ∧ v2 ≤ 8) → (v3 = 0 ∨ v3 = 1) → (M a 6 = -1) → (M a 5 ≤ 3440) → (13 * (8 - v2) + 13 - v1 ≤ (n : Int)) → zCt w (n + 4) 0 0 yX9_binary cX9_binary 12 (some .long) [.ref (w.2.1 + a), zi v1, zi v2, zi v3] (T, M, J, R) (zPl T R G (fun M2 => (zKp G 1 M M2) ∧ ((M2 a 6 = -1 ∧ M2 a 5 ≤ 3440) ∨ (¬ M2 a 6 = -1 ∧ M2 a 5 ≤ 3460 - v2))))) ∧ (∀ (M : zMm) (J : zJm), zI G M → ∀ (v1 v2 : Int), (0 ≤ v1 ∧ v1 ≤ 8) → (v2 = 0 ∨ v2 = 1) → (M a 6 = -1) → (M a 5 ≤ 3440) → (13 * (8 - v1) + 1 ≤ (n : Int)) → zCt w (n + 4) 0 0 yX9_single cX9_single 7 (some .long) [.ref (w.2.1 + a), zi v1, zi v2] (T, M, J, R) (zPl T R G (fun M2 => (zKp G 1 M M2) ∧ ((M2 a 6 = -1 ∧ M2 a 5 ≤ 3440) ∨ (¬ M2 a 6 = -1 ∧ M2 a 5 ≤ 3460 - v1))))) := by
  intro n
  induction n with
  | zero =>
    refine ⟨?_, ?_⟩
    · intro M J hI v1 v2 p1 p2 p3 p4 pm
      exfalso
      omega
    refine ⟨?_, ?_⟩
    · intro M J hI v1 v2 p1 p2 p3 pm
      exfalso
      omega
    refine ⟨?_, ?_⟩
    · intro M J hI v1 v2 v3 p1 p2 p3 p4 p5 pm
      exfalso
      omega
    intro M J hI v1 v2 p1 p2 p3 p4 pm
    exfalso
    omega
  | succ n ih =>
    obtain ⟨ihc, ihp, ihb, ihs⟩ := ih
    refine ⟨?_, ?_⟩
    · intro M J hI v1 v2 p1 p2 p3 p4 pm
      exact c_X9_choice_s (w := w) (J := J) hI hF h0 v1 v2 hrow h_rw p1 p2 p3 p4 (by omega) ihc ihp ihb ihs
    refine ⟨?_, ?_⟩
    · intro M J hI v1 v2 p1 p2 p3 pm
      exact c_X9_part_s (w := w) (J := J) hI hF h0 v1 v2 hrow h_rw p1 p2 p3 (by omega) ihc ihp ihb ihs
    refine ⟨?_, ?_⟩
    · intro M J hI v1 v2 v3 p1 p2 p3 p4 p5 pm
      exact c_X9_binary_s (w := w) (J := J) hI hF h0 v1 v2 v3 hrow h_rw p1 p2 p3 p4 p5 (by omega) ihc ihp ihb ihs
    intro M J hI v1 v2 p1 p2 p3 p4 pm
    exact c_X9_single_s (w := w) (J := J) hI hF h0 v1 v2 hrow h_rw p1 p2 p3 p4 (by omega) ihc ihp ihb ihs
theorem c_X9_choice {w : zWp} {T : zTl} {M : zMm} {J : zJm} {R : zRm'} {G : zGt} {F : zRm'} {a t q L rw : Nat} (hI : zI G M) (hF : zF F R) (h0 : zSums T F G a t q L) (v1 v2 : Int) (hrow : R a 2 = some rw) (h_rw : zRow T F G rw 3440 (L : Int)) (p1 : 0 ≤ v1 ∧ v1 ≤ 8) (p2 : v2 = 0 ∨ v2 = 1) (p3 : M a 6 = -1) (p4 : M a 5 ≤ 3440) : zCt w 121 0 0 yX9_choice cX9_choice 9 (some .long) [.ref (w.2.1 + a), zi v1, zi v2] (T, M, J, R) (zPl T R G (fun M2 => (zKp G 1 M M2) ∧ ((M2 a 6 = -1 ∧ M2 a 5 ≤ 3440) ∨ (¬ M2 a 6 = -1 ∧ M2 a 5 ≤ 3460 - v1)))) := (zsums_rec hF h0 hrow h_rw 117).1 M J hI v1 v2 p1 p2 p3 p4 (by omega)
