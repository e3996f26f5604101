def yup (f : Int → Int) (i x : Int) : Int → Int := fun j => if j = i then x else f j
theorem yup_s {f : Int → Int} {i x : Int} : yup f i x i = x := if_pos rfl
theorem yup_n {f : Int → Int} {i x j : Int} (h : j ≠ i) : yup f i x j = f j := if_neg h
def yR (at_ en : Int → Int) (s : Int) : Int := zSum (fun j => en j - at_ j) 0 s.toNat
theorem yR_s {at_ en : Int → Int} {s : Int} (h : 0 ≤ s) : yR at_ en (s + 1) = yR at_ en s + (en s - at_ s) := by
  unfold yR
  rw [zSum_s h, Int.zero_add]
theorem yR_cg {at_ en at2 en2 : Int → Int} {s : Int} (h : ∀ j, 0 ≤ j → j < s → at2 j = at_ j ∧ en2 j = en j) : yR at2 en2 s = yR at_ en s := by
  unfold yR
  refine zSum_cg _ (fun i hi => ?_)
  rw [Int.zero_add, (h i (by omega) (by omega)).1, (h i (by omega) (by omega)).2]
theorem yR_mo {at_ en : Int → Int} {s r : Int} (h : ∀ j, 0 ≤ j → j < r → at_ j ≤ en j) (hs : 0 ≤ s ∧ s ≤ r) : yR at_ en s ≤ yR at_ en r := by
  have := zSum_mo (g := fun j => en j - at_ j) (b := 0) s.toNat (r.toNat - s.toNat) (fun j hj => by
    have := h (0 + (j : Int)) (by omega) (by omega)
    show 0 ≤ en (0 + (j : Int)) - at_ (0 + (j : Int))
    omega)
  rw [show s.toNat + (r.toNat - s.toNat) = r.toNat by omega] at this
  exact this
theorem yR_flat {at_ en : Int → Int} {s : Int} : ∀ (k : Nat), 0 ≤ s → (∀ j, s ≤ j → j < s + k → at_ j = en j) → yR at_ en (s + k) = yR at_ en s
  | 0, _, _ => by rw [show s + ((0 : Nat) : Int) = s by omega]
  | k + 1, h0, h => by
    rw [show s + ((k + 1 : Nat) : Int) = (s + k) + 1 by omega, yR_s (by omega), yR_flat k h0 (fun j j0 j1 => h j j0 (by omega)), h (s + k) (by omega) (by omega)]
    omega
def yP (ls : Int) (cb cl : Int → Int) (g : Int) : Int := if g = 0 then ls else if cl (g - 1) ≤ 3440 * (cb (g - 1) - 1) then 0 else cl (g - 1) - 3440 * (cb (g - 1) - 1)
theorem yP_p {ls g : Int} {cb cl : Int → Int} (h : g ≠ 0) : 0 ≤ yP ls cb cl g ∧ cl (g - 1) - 3440 * (cb (g - 1) - 1) ≤ yP ls cb cl g ∧ (yP ls cb cl g = 0 ∨ yP ls cb cl g = cl (g - 1) - 3440 * (cb (g - 1) - 1)) := by
  unfold yP
  rw [if_neg h]
  by_cases q : cl (g - 1) ≤ 3440 * (cb (g - 1) - 1)
  · rw [if_pos q]
    omega
  · rw [if_neg q]
    omega
theorem yP_0 {ls : Int} {cb cl : Int → Int} : yP ls cb cl 0 = ls := if_pos rfl
theorem yP_cg {ls g : Int} {cb cl cb2 cl2 : Int → Int} (h : g ≠ 0 → cb2 (g - 1) = cb (g - 1) ∧ cl2 (g - 1) = cl (g - 1)) : yP ls cb2 cl2 g = yP ls cb cl g := by
  unfold yP
  by_cases q : g = 0
  · rw [if_pos q, if_pos q]
  · rw [if_neg q, if_neg q, (h q).1, (h q).2]
def yQ1 (N ls : Int) (at_ en fb cm cb ca cl mb : Int → Int) (g A Fb : Int) : Prop := 0 ≤ cm g ∧ 0 ≤ cb g ∧ cb g ≤ mb (cm g) ∧ ca g ≤ A ∧ yR at_ en Fb - yR at_ en (fb g) + (A - ca g) + yP ls cb cl g ≤ N ∧ 0 ≤ ca g ∧ ca g ≤ 440 + g * N
def yQ2 (ca cg cm mp : Int → Int) (g A : Int) : Prop := ∀ p, 0 ≤ p → p < mp (cm g) → ca g ≤ cg (5 * g + p) ∧ cg (5 * g + p) ≤ cg (5 * g + p + 1) ∧ cg (5 * g + p + 1) ≤ A
def yQ3 (cb cp ct cl pa ps : Int → Int) (g P T : Int) : Prop := (cp g ≤ P ∧ P ≤ cp g + cb g ∧ 0 ≤ cp g ∧ cp g ≤ 20 * g ∧ 3500 ≤ ct g ∧ ct g ≤ 3500 + 100 * g ∧ 0 ≤ cl g) ∧ (P = cp g → T = ct g) ∧ (cp g < P → ct g ≤ pa (cp g) ∧ pa (P - 1) + ps (P - 1) ≤ T ∧ T ≤ ct g + 60 + 2 * (P - cp g) ∧ (60 < cl g ∨ T ≤ ct g + cl g) ∧ T ≤ ct g + 60 + 2 * (P - cp g) - 2 + ps (P - 1) ∧ (0 : Int) ≤ 1)
theorem yQ1.mo {N N2 ls g A Fb : Int} {at_ en fb cm cb ca cl mb at2 en2 fb2 cm2 cb2 ca2 cl2 : Int → Int} (h : yQ1 N ls at_ en fb cm cb ca cl mb g A Fb) (hN : N ≤ N2) (hg : 0 ≤ g) (e1 : cm2 g = cm g) (e2 : cb2 g = cb g) (e3 : ca2 g = ca g) (e4 : yR at2 en2 Fb = yR at_ en Fb) (e5 : yR at2 en2 (fb2 g) = yR at_ en (fb g)) (e6 : yP ls cb2 cl2 g = yP ls cb cl g) : yQ1 N2 ls at2 en2 fb2 cm2 cb2 ca2 cl2 mb g A Fb := by
  unfold yQ1 at h ⊢
  rw [e1, e2, e3, e4, e5, e6]
  have := Int.mul_le_mul_of_nonneg_left hN hg
  omega
theorem yQ2.cg {g A : Int} {ca cg cm mp ca2 cg2 cm2 : Int → Int} (h : yQ2 ca cg cm mp g A) (e1 : cm2 g = cm g) (e2 : ca2 g = ca g) (e3 : ∀ p, 0 ≤ p → p < mp (cm g) → cg2 (5 * g + p) = cg (5 * g + p) ∧ cg2 (5 * g + p + 1) = cg (5 * g + p + 1)) : yQ2 ca2 cg2 cm2 mp g A := by
  intro p p0 p1
  rw [e1] at p1
  rw [e2, (e3 p p0 p1).1, (e3 p p0 p1).2]
  exact h p p0 p1
theorem yQ3.cg {g P T : Int} {cb cp ct cl pa ps cb2 cp2 ct2 cl2 pa2 ps2 : Int → Int} (h : yQ3 cb cp ct cl pa ps g P T) (e1 : cb2 g = cb g) (e2 : cp2 g = cp g) (e3 : ct2 g = ct g) (e4 : cl2 g = cl g) (e5 : ∀ i, i < P → pa2 i = pa i ∧ ps2 i = ps i) : yQ3 cb2 cp2 ct2 cl2 pa2 ps2 g P T := by
  unfold yQ3 at h ⊢
  rw [e1, e2, e3, e4]
  refine ⟨h.1, h.2.1, fun q => ?_⟩
  rw [(e5 (cp g) q).1, (e5 (P - 1) (by omega)).1, (e5 (P - 1) (by omega)).2]
  exact h.2.2 q
def zY (mb mp : Int → Int) (E fr st am pc tp md po ls : Int) (at_ en sa fb cm cb ca cg cp ct cl pa ps : Int → Int) (n A0 v u z : Int) : Prop :=
  (0 ≤ n ∧ n ≤ E ∧ E ≤ 100 ∧ 0 ≤ fr ∧ n ≤ fr + 1 ∧ fr ≤ n ∧ 0 ≤ v ∧ 0 ≤ u ∧ 0 ≤ z) ∧
  (440 ≤ md ∧ md ≤ 495 + 30 * (E - n) ∧ st ≤ E + 1 + fr - n ∧ fb fr ≤ st ∧ 0 ≤ pc ∧ 0 ≤ A0 ∧ A0 ≤ am ∧ A0 ≤ 440 + n * (440 + 30 * (E - n)) ∧ 3500 ≤ tp ∧ 0 ≤ ls ∧ 0 ≤ fb 0) ∧
  (∀ g, 1 ≤ g → g ≤ fr → fb g ≤ E ∧ fb (g - 1) ≤ fb g ∧ 1 ≤ cb (g - 1)) ∧
  (∀ s, 0 ≤ s → s < st → at_ s ≤ en s ∧ (sa s = 0 → en s ≤ md)) ∧
  (∀ g, 0 ≤ g → g + 1 < n → yQ1 (440 + 30 * (E - n)) ls at_ en fb cm cb ca cl mb g (ca (g + 1)) (fb (g + 1)) ∧ yQ2 ca cg cm mp g (ca (g + 1)) ∧ yQ3 cb cp ct cl pa ps g (cp (g + 1)) (ct (g + 1))) ∧
  (0 < n → yQ1 (440 + 30 * (E - n)) ls at_ en fb cm cb ca cl mb (n - 1) A0 (if n = fr then fb fr else st) ∧ yQ2 ca cg cm mp (n - 1) A0 ∧ yQ3 cb cp ct cl pa ps (n - 1) pc tp ∧ pc + u ≤ cp (n - 1) + cb (n - 1)) ∧
  (n = fr → cm fr = -1 ∧ yR at_ en st - yR at_ en (fb fr) + (am - A0) + v + yP ls cb cl fr ≤ 440 + 30 * (E - n)) ∧
  (n = fr + 1 → A0 = am ∧ cl fr + z ≤ 3440 * cb fr) ∧
  (n = 0 → pc = 0 ∧ tp = 3500) ∧
  ((∀ i, 0 ≤ i → i + 1 < pc → pa i + ps i ≤ pa (i + 1)) ∧ (∀ i, 0 ≤ i → i < pc → 0 ≤ ps i)) ∧
  (0 ≤ po ∧ po + 30 * (pc + u) ≤ 495 + 600 * (E - n) + 30 * zSum cb 0 n.toNat) ∧
  (∀ m, 0 ≤ mb m ∧ mb m ≤ 20) ∧
  ((∀ g, 0 ≤ g → g + 1 < n → cp g < cp (g + 1)) ∧ (n = fr → 0 < n → cp (n - 1) < pc))
section YY
variable {mb mp at_ en sa fb cm cb ca cg cp ct cl pa ps : Int → Int} {E fr st am pc tp md po ls n A0 v u z : Int}
theorem yfb (h : zY mb mp E fr st am pc tp md po ls at_ en sa fb cm cb ca cg cp ct cl pa ps n A0 v u z) : ∀ (k : Nat) (g : Int), 0 ≤ g → g + k ≤ fr → fb g ≤ fb (g + k)
  | 0, g, _, _ => by rw [show g + ((0 : Nat) : Int) = g by omega]; exact Int.le_refl _
  | k + 1, g, g0, g1 => by
    have h1 := yfb h k g g0 (by omega)
    have h2 := (h.2.2.1 (g + k + 1) (by omega) (by omega)).2.1
    rw [show g + ((k + 1 : Nat) : Int) = g + k + 1 by omega]
    rw [show g + (k : Int) + 1 - 1 = g + k by omega] at h2
    omega
theorem yfl (h : zY mb mp E fr st am pc tp md po ls at_ en sa fb cm cb ca cg cp ct cl pa ps n A0 v u z) {g r : Int} (g0 : 0 ≤ g) (gr : g ≤ r) (r1 : r ≤ fr) : 0 ≤ fb g ∧ fb g ≤ fb r := by
  have h1 := yfb h (r - g).toNat g g0 (by omega)
  have h2 := yfb h g.toNat 0 (by omega) (by omega)
  have h3 := h.2.1.2.2.2.2.2.2.2.2.2.2
  rw [show g + ((r - g).toNat : Int) = r by omega] at h1
  rw [show 0 + (g.toNat : Int) = g by omega] at h2
  omega
theorem yN (h : zY mb mp E fr st am pc tp md po ls at_ en sa fb cm cb ca cg cp ct cl pa ps n A0 v u z) : 440 ≤ 440 + 30 * (E - n) ∧ 440 + 30 * (E - n) ≤ 3440 := by
  obtain ⟨⟨a1, a2, a3, a4, a5, a6, a7, a8, a9⟩, ⟨b1, b2, b3, b4, b5, b6, b7, b8, b9, b10, b11⟩, hF, hT, hL, hP, hC, hD, hZ, ⟨hK, hS⟩, ⟨hO0, hO⟩, hB, ⟨hG1, hG2⟩⟩ := h
  omega
theorem Y_drop (h : zY mb mp E fr st am pc tp md po ls at_ en sa fb cm cb ca cg cp ct cl pa ps n A0 v u z) {v2 u2 z2 : Int} (hv : 0 ≤ v2 ∧ v2 ≤ v) (hu : 0 ≤ u2 ∧ u2 ≤ u) (hz : 0 ≤ z2 ∧ z2 ≤ z) : zY mb mp E fr st am pc tp md po ls at_ en sa fb cm cb ca cg cp ct cl pa ps n A0 v2 u2 z2 := by
  obtain ⟨⟨a1, a2, a3, a4, a5, a6, a7, a8, a9⟩, ⟨b1, b2, b3, b4, b5, b6, b7, b8, b9, b10, b11⟩, hF, hT, hL, hP, hC, hD, hZ, ⟨hK, hS⟩, ⟨hO0, hO⟩, hB, ⟨hG1, hG2⟩⟩ := h
  refine ⟨⟨a1, a2, a3, a4, a5, a6, hv.1, hu.1, hz.1⟩, ⟨b1, b2, b3, b4, b5, b6, b7, b8, b9, b10, b11⟩, hF, hT, hL, fun q => ?_, fun q => ?_, fun q => ?_, hZ, ⟨hK, hS⟩, ⟨hO0, by omega⟩, hB, ⟨hG1, hG2⟩⟩
  · obtain ⟨q1, q2, q3, q4⟩ := hP q
    exact ⟨q1, q2, q3, by omega⟩
  · obtain ⟨q1, q2⟩ := hC q
    exact ⟨q1, by omega⟩
  · obtain ⟨q1, q2⟩ := hD q
    exact ⟨q1, by omega⟩
theorem Y_peek (h : zY mb mp E fr st am pc tp md po ls at_ en sa fb cm cb ca cg cp ct cl pa ps n A0 v u z) (hn : n = fr) {st2 : Int} (h1 : fb fr ≤ st2) (h2 : st2 ≤ st) (h3 : ∀ j, st2 ≤ j → j < st → at_ j = en j) : zY mb mp E fr st2 am pc tp md po ls at_ en sa fb cm cb ca cg cp ct cl pa ps n A0 v u z := by
  have hf := yfl h (g := fr) (r := fr) h.1.2.2.2.1 (Int.le_refl _) (Int.le_refl _)
  have hr : yR at_ en st = yR at_ en st2 := by
    have := yR_flat (at_ := at_) (en := en) (s := st2) (st - st2).toNat (by omega) (fun j j0 j1 => h3 j j0 (by omega))
    rw [show st2 + ((st - st2).toNat : Int) = st by omega] at this
    exact this
  obtain ⟨⟨a1, a2, a3, a4, a5, a6, a7, a8, a9⟩, ⟨b1, b2, b3, b4, b5, b6, b7, b8, b9, b10, b11⟩, hF, hT, hL, hP, hC, hD, hZ, ⟨hK, hS⟩, ⟨hO0, hO⟩, hB, ⟨hG1, hG2⟩⟩ := h
  refine ⟨⟨a1, a2, a3, a4, a5, a6, a7, a8, a9⟩, ⟨b1, b2, by omega, h1, b5, b6, b7, b8, b9, b10, b11⟩, hF, fun s s0 s1 => hT s s0 (by omega), hL, fun q => ?_, fun q => ?_, hD, hZ, ⟨hK, hS⟩, ⟨hO0, hO⟩, hB, ⟨hG1, hG2⟩⟩
  · obtain ⟨q1, q2, q3, q4⟩ := hP q
    rw [if_pos hn] at q1
    rw [if_pos hn]
    exact ⟨q1, q2, q3, q4⟩
  · rw [← hr]
    exact hC q
theorem Y_goes (h : zY mb mp E fr st am pc tp md po ls at_ en sa fb cm cb ca cg cp ct cl pa ps n A0 v u z) (hn : n = fr) (h1 : fb fr < st) (h2 : at_ (st - 1) < en (st - 1)) : zY mb mp E fr st am pc tp md po ls (yup at_ (st - 1) (at_ (st - 1) + 1)) en sa fb cm cb ca cg cp ct cl pa ps n A0 (v + 1) u z := by
  have hf := yfl h (g := fr) (r := fr) h.1.2.2.2.1 (Int.le_refl _) (Int.le_refl _)
  have hr : ∀ s, s ≤ fb fr → yR (yup at_ (st - 1) (at_ (st - 1) + 1)) en s = yR at_ en s := fun s hs => yR_cg (fun j j0 j1 => ⟨yup_n (by omega), rfl⟩)
  have hr2 : yR (yup at_ (st - 1) (at_ (st - 1) + 1)) en st = yR at_ en st - 1 := by
    have e1 := yR_s (at_ := at_) (en := en) (s := st - 1) (by omega)
    have e2 := yR_s (at_ := yup at_ (st - 1) (at_ (st - 1) + 1)) (en := en) (s := st - 1) (by omega)
    rw [show st - 1 + 1 = st by omega] at e1 e2
    rw [e2, e1, yup_s, yR_cg (at_ := at_) (en := en) (fun j j0 j1 => ⟨yup_n (by omega), rfl⟩)]
    omega
  have hfl := fun g (g0 : 0 ≤ g) (g1 : g ≤ fr) => yfl h g0 g1 (Int.le_refl _)
  obtain ⟨⟨a1, a2, a3, a4, a5, a6, a7, a8, a9⟩, ⟨b1, b2, b3, b4, b5, b6, b7, b8, b9, b10, b11⟩, hF, hT, hL, hP, hC, hD, hZ, ⟨hK, hS⟩, ⟨hO0, hO⟩, hB, ⟨hG1, hG2⟩⟩ := h
  refine ⟨⟨a1, a2, a3, a4, a5, a6, by omega, a8, a9⟩, ⟨b1, b2, b3, b4, b5, b6, b7, b8, b9, b10, b11⟩, hF, fun s s0 s1 => ?_, fun g g0 g1 => ?_, fun q => ?_, fun q => ?_, hD, hZ, ⟨hK, hS⟩, ⟨hO0, hO⟩, hB, ⟨hG1, hG2⟩⟩
  · by_cases q : s = st - 1
    · subst q
      rw [yup_s]
      exact ⟨by omega, (hT _ s0 s1).2⟩
    · rw [yup_n q]
      exact hT s s0 s1
  · obtain ⟨q1, q2, q3⟩ := hL g g0 g1
    exact ⟨q1.mo (Int.le_refl _) g0 rfl rfl rfl (hr _ (hfl (g + 1) (by omega) (by omega)).2) (hr _ (hfl g g0 (by omega)).2) rfl, q2, q3⟩
  · obtain ⟨q1, q2, q3, q4⟩ := hP q
    rw [if_pos hn] at q1 ⊢
    exact ⟨q1.mo (Int.le_refl _) (by omega) rfl rfl rfl (hr _ (Int.le_refl _)) (hr _ (hfl (n - 1) (by omega) (by omega)).2) rfl, q2, q3, q4⟩
  · rw [hr2, hr _ (Int.le_refl _)]
    have := hC q
    omega
theorem Y_list (h : zY mb mp E fr st am pc tp md po ls at_ en sa fb cm cb ca cg cp ct cl pa ps n A0 v u z) (hn : n = 0) (hf : fr = 0) (hv : 1 ≤ v) : zY mb mp E fr st am pc tp md po (ls + 1) at_ en sa fb cm cb ca cg cp ct cl pa ps n A0 (v - 1) u z := by
  obtain ⟨⟨a1, a2, a3, a4, a5, a6, a7, a8, a9⟩, ⟨b1, b2, b3, b4, b5, b6, b7, b8, b9, b10, b11⟩, hF, hT, hL, hP, hC, hD, hZ, ⟨hK, hS⟩, ⟨hO0, hO⟩, hB, ⟨hG1, hG2⟩⟩ := h
  subst hn
  subst hf
  refine ⟨⟨a1, a2, a3, a4, a5, a6, by omega, a8, a9⟩, ⟨b1, b2, b3, b4, b5, b6, b7, b8, b9, by omega, b11⟩, hF, hT, fun g g0 g1 => by omega, fun q => by omega, fun q => ?_, fun q => by omega, hZ, ⟨hK, hS⟩, ⟨hO0, hO⟩, hB, ⟨hG1, hG2⟩⟩
  obtain ⟨q1, q2⟩ := hC q
  rw [yP_0] at q2 ⊢
  exact ⟨q1, by omega⟩
theorem Y_push (h : zY mb mp E fr st am pc tp md po ls at_ en sa fb cm cb ca cg cp ct cl pa ps n A0 v u z) (hn : n = fr) (hv : 1 ≤ v) : zY mb mp E fr st (am + 1) pc tp md po ls at_ en sa fb cm cb ca cg cp ct cl pa ps n A0 (v - 1) u z := by
  obtain ⟨⟨a1, a2, a3, a4, a5, a6, a7, a8, a9⟩, ⟨b1, b2, b3, b4, b5, b6, b7, b8, b9, b10, b11⟩, hF, hT, hL, hP, hC, hD, hZ, ⟨hK, hS⟩, ⟨hO0, hO⟩, hB, ⟨hG1, hG2⟩⟩ := h
  refine ⟨⟨a1, a2, a3, a4, a5, a6, by omega, a8, a9⟩, ⟨b1, b2, b3, b4, b5, b6, by omega, b8, b9, b10, b11⟩, hF, hT, hL, hP, fun q => ?_, fun q => by omega, hZ, ⟨hK, hS⟩, ⟨hO0, hO⟩, hB, ⟨hG1, hG2⟩⟩
  obtain ⟨q1, q2⟩ := hC q
  exact ⟨q1, by omega⟩
theorem Y_begin (h : zY mb mp E fr st am pc tp md po ls at_ en sa fb cm cb ca cg cp ct cl pa ps n A0 v u z) (hn : n = fr) (hE : E < 100) (hca : ca fr = A0) {m : Int} (hm : 0 ≤ m) (hg : ∀ p, 0 ≤ p → p < mp m → A0 ≤ cg (5 * fr + p) ∧ cg (5 * fr + p) ≤ cg (5 * fr + p + 1) ∧ cg (5 * fr + p + 1) ≤ am) : zY mb mp (E + 1) fr st am pc tp md po ls at_ en sa fb (yup cm fr m) (yup cb fr 0) ca cg (yup cp fr pc) (yup ct fr tp) (yup cl fr 0) pa ps (n + 1) am 0 0 0 := by
  have hN := yN h
  obtain ⟨⟨a1, a2, a3, a4, a5, a6, a7, a8, a9⟩, ⟨b1, b2, b3, b4, b5, b6, b7, b8, b9, b10, b11⟩, hF, hT, hL, hP, hC, hD, hZ, ⟨hK, hS⟩, ⟨hO0, hO⟩, hB, ⟨hG1, hG2⟩⟩ := h
  subst hn
  obtain ⟨c1, c2⟩ := hC rfl
  have eN : E + 1 - (n + 1) = E - n := by omega
  have hbm := hB m
  have hpc : pc ≤ 20 * n ∧ tp ≤ 3500 + 100 * n := by
    by_cases q : 0 < n
    · obtain ⟨q1, q2, ⟨⟨r1, r2, r3, r4, r5, r6, r7⟩, r8, r9⟩, q4⟩ := hP q
      have q5 := q1.2.2.1
      have q6 := (hB (cm (n - 1))).2
      by_cases q7 : cp (n - 1) < pc
      · obtain ⟨s1, s2, s3, s4, s5, s6⟩ := r9 q7
        omega
      · have := r8 (by omega)
        omega
    · have := hZ (by omega)
      omega
  have hmul : (n + 1) * (440 + 30 * (E - n)) = n * (440 + 30 * (E - n)) + (440 + 30 * (E - n)) := by rw [Int.add_mul, Int.one_mul]
  have hyp0 : 0 ≤ yP ls cb cl n := by
    by_cases q : n = 0
    · rw [q, yP_0]
      exact b10
    · exact (yP_p q).1
  have hrm : yR at_ en (fb n) ≤ yR at_ en st := yR_mo (fun j j0 j1 => (hT j j0 j1).1) ⟨by
    by_cases q : n = 0
    · rw [q]
      exact b11
    · have := (hF n (by omega) (Int.le_refl _)).1
      have h9 : ∀ (k : Nat), (k : Int) ≤ n → 0 ≤ fb k := fun k => by
        induction k with
        | zero => intro _; exact b11
        | succ k ih =>
          intro hk
          have := (hF (k + 1 : Nat) (by omega) (by omega)).2.1
          rw [show ((k + 1 : Nat) : Int) - 1 = (k : Int) by omega] at this
          have := ih (by omega)
          omega
      have := h9 n.toNat (by omega)
      rw [show (n.toNat : Int) = n by omega] at this
      exact this, b4⟩
  refine ⟨⟨by omega, by omega, by omega, a4, by omega, by omega, by omega, by omega, by omega⟩, ⟨b1, by omega, by omega, b4, b5, by omega, Int.le_refl _, ?_, b9, b10, b11⟩, fun g g1 g2 => ?_, hT, fun g g0 g1 => ?_, fun _ => ?_, fun q => by omega, fun q => ?_, fun q => by omega, ⟨hK, hS⟩, ⟨hO0, ?_⟩, hB, ⟨fun g g0 g1 => ?_, fun q => by omega⟩⟩
  · rw [eN, hmul]
    omega
  · obtain ⟨q1, q2, q3⟩ := hF g g1 g2
    refine ⟨by omega, q2, ?_⟩
    rw [yup_n (by omega)]
    exact q3
  · rw [eN]
    by_cases q : g + 1 = n
    · obtain ⟨q1, q2, q3, q4⟩ := hP (by omega)
      rw [if_pos rfl] at q1
      rw [show n - 1 = g by omega] at q1 q2 q3
      rw [q, yup_s, yup_s, hca]
      refine ⟨q1.mo (Int.le_refl _) g0 (yup_n (by omega)) (yup_n (by omega)) rfl rfl rfl (yP_cg (fun _ => ⟨yup_n (by omega), yup_n (by omega)⟩)), q2.cg (yup_n (by omega)) rfl (fun p _ _ => ⟨rfl, rfl⟩), q3.cg (yup_n (by omega)) (yup_n (by omega)) (yup_n (by omega)) (yup_n (by omega)) (fun i _ => ⟨rfl, rfl⟩)⟩
    · obtain ⟨q1, q2, q3⟩ := hL g g0 (by omega)
      rw [yup_n (f := cp) (by omega), yup_n (f := ct) (by omega)]
      refine ⟨q1.mo (Int.le_refl _) g0 (yup_n (by omega)) (yup_n (by omega)) rfl rfl rfl (yP_cg (fun _ => ⟨yup_n (by omega), yup_n (by omega)⟩)), q2.cg (yup_n (by omega)) rfl (fun p _ _ => ⟨rfl, rfl⟩), q3.cg (yup_n (by omega)) (yup_n (by omega)) (yup_n (by omega)) (yup_n (by omega)) (fun i _ => ⟨rfl, rfl⟩)⟩
  · rw [eN, show n + 1 - 1 = n by omega, if_neg (by omega)]
    refine ⟨?_, ?_, ?_, ?_⟩
    · unfold yQ1
      rw [yup_s, yup_s, hca, yP_cg (cb := cb) (cl := cl) (fun _ => ⟨yup_n (by omega), yup_n (by omega)⟩)]
      omega
    · intro p p0 p1
      rw [yup_s] at p1
      rw [hca]
      exact hg p p0 p1
    · unfold yQ3
      rw [yup_s, yup_s, yup_s, yup_s]
      exact ⟨by omega, fun _ => rfl, fun q => by omega⟩
    · rw [yup_s, yup_s]
      omega
  · refine ⟨rfl, ?_⟩
    rw [yup_s, yup_s]
    omega
  · rw [eN, show (n + 1).toNat = n.toNat + 1 by omega]
    have e2 : zSum (yup cb n 0) 0 (n.toNat + 1) = zSum (yup cb n 0) 0 n.toNat + yup cb n 0 (0 + (n.toNat : Int)) := rfl
    rw [e2, show 0 + (n.toNat : Int) = n by omega, yup_s, zSum_cg (h := cb) n.toNat (fun i hi => yup_n (by omega))]
    omega
  · rw [yup_n (by omega)]
    by_cases q : g + 1 = n
    · rw [q, yup_s, show g = n - 1 by omega]
      exact hG2 rfl (by omega)
    · rw [yup_n q]
      exact hG1 g g0 (by omega)
end YY

