def sdl (c : Int) : Int := if c = 0 then 1 else if c = 32 ∨ 20 ≤ c ∧ c < 24 then 0 else -1
def sbn (c : Int) : Int := if 20 ≤ c ∧ c < 24 ∨ c = 30 ∨ c = 31 ∨ 40 ≤ c then 0 else 1
def snd (c : Int) : Int := if c = 0 then 0 else if c = 32 ∨ 20 ≤ c ∧ c < 24 ∨ c = 30 ∨ c = 31 ∨ c = 33 ∨ c = 34 then 1 else 2
def sjp (c : Int) : Prop := c = 30 ∨ c = 31 ∨ c = 33 ∨ c = 34
def sjw (c : Int) : Prop := c = 30 ∨ c = 31 ∨ c = 41 ∨ c = 42
def sD (wh : Int → Int) (i : Int) : Int := zSum (fun j => sdl (wh j)) 0 i.toNat
def sB (wa : Int → Int) (j : Int) : Int := zSum (fun i => sbn (wa i)) 0 j.toNat
theorem sD_s {wh : Int → Int} {i : Int} (h : 0 ≤ i) : sD wh (i + 1) = sD wh i + sdl (wh i) := by
  unfold sD
  rw [zSum_s h, Int.zero_add]
theorem sB_s {wa : Int → Int} {i : Int} (h : 0 ≤ i) : sB wa (i + 1) = sB wa i + sbn (wa i) := by
  unfold sB
  rw [zSum_s h, Int.zero_add]
theorem sD_cg {wh wh2 : Int → Int} {i : Int} (h : ∀ j, 0 ≤ j → j < i → wh2 j = wh j) : sD wh2 i = sD wh i := by
  unfold sD
  refine zSum_cg _ (fun k hk => ?_)
  rw [Int.zero_add, h k (by omega) (by omega)]
theorem sB_cg {wa wa2 : Int → Int} {i : Int} (h : ∀ j, 0 ≤ j → j < i → wa2 j = wa j) : sB wa2 i = sB wa i := by
  unfold sB
  refine zSum_cg _ (fun k hk => ?_)
  rw [Int.zero_add, h k (by omega) (by omega)]
theorem sbn_r (c : Int) : 0 ≤ sbn c ∧ sbn c ≤ 1 := by
  unfold sbn
  split <;> omega
theorem sB_r {wa : Int → Int} : ∀ (k : Nat), 0 ≤ sB wa k ∧ sB wa k ≤ k
  | 0 => ⟨Int.le_refl _, Int.le_refl _⟩
  | k + 1 => by
    have h1 := sB_r (wa := wa) k
    have h2 := sbn_r (wa k)
    rw [show ((k + 1 : Nat) : Int) = (k : Int) + 1 by omega, sB_s (by omega)]
    omega
theorem sB_i {wa : Int → Int} {t : Int} (h : 0 ≤ t) : 0 ≤ sB wa t ∧ sB wa t ≤ t := by
  have := sB_r (wa := wa) t.toNat
  rw [show ((t.toNat : Nat) : Int) = t by omega] at this
  exact this
theorem sdl_v : sdl 0 = 1 ∧ sdl 32 = 0 ∧ sdl 30 = -1 ∧ sdl 31 = -1 ∧ sdl 33 = -1 ∧ sdl 34 = -1 := by decide
theorem snd_v : snd 0 = 0 ∧ snd 32 = 1 ∧ snd 30 = 1 ∧ snd 31 = 1 ∧ snd 33 = 1 ∧ snd 34 = 1 := by decide
theorem s_ah {c : Int} (h : 20 ≤ c ∧ c < 24) : sdl c = 0 ∧ snd c = 1 ∧ sbn c = 0 := by
  unfold sdl snd sbn
  rw [if_neg (by omega), if_pos (by omega), if_neg (by omega), if_pos (by omega), if_pos (by omega)]
  exact ⟨rfl, rfl, rfl⟩
theorem s_bi {c : Int} (h : 1 ≤ c ∧ c < 20 ∨ 24 ≤ c ∧ c < 30) : sdl c = -1 ∧ snd c = 2 ∧ sbn c = 1 := by
  unfold sdl snd sbn
  rw [if_neg (by omega), if_neg (by omega), if_neg (by omega), if_neg (by omega), if_neg (by omega)]
  exact ⟨rfl, rfl, rfl⟩
theorem s_bw {c : Int} (h : c = 30 ∨ c = 31 ∨ 40 ≤ c) : sbn c = 0 := by
  unfold sbn
  rw [if_pos (by omega)]
def zCd (wh we wa wt : Int → Int) (c t w k : Int) : Prop :=
  (0 ≤ c ∧ 0 ≤ t ∧ 0 ≤ w ∧ w ≤ 1 ∧ c + t ≤ 2 * k ∧ t ≤ k ∧ k ≤ 3450) ∧
  (∀ i, 0 ≤ i → i < c → snd (wh i) ≤ sD wh i ∧ (wh i = 0 ∨ 2 ≤ wh i ∧ wh i ≤ 17 ∨ 20 ≤ wh i ∧ wh i < 24 ∨ 30 ≤ wh i ∧ wh i ≤ 34)) ∧
  (∀ i, 0 ≤ i → i ≤ c → 0 ≤ sD wh i ∧ sD wh i ≤ 3460) ∧
  sD wh c = w + sB wa t ∧
  (∀ j, 0 ≤ j → j < t → (2 ≤ wa j ∧ wa j ≤ 17 ∨ 20 ≤ wa j ∧ wa j < 24 ∨ wa j = 30 ∨ wa j = 31 ∨ 40 ≤ wa j ∧ wa j ≤ 42) ∧ (sjw (wa j) → 0 ≤ wt j ∧ wt j < c ∧ sD wh (wt j) = 1 + sB wa j ∧ (wa j = 41 ↔ wh (wt j) = 33))) ∧
  (∀ i, 0 ≤ i → i < c → sjp (wh i) → (∃ j, 0 ≤ j ∧ j < t ∧ sjw (wa j) ∧ wt j = i) ∨ (i < we i ∧ we i ≤ c ∧ sD wh (we i) = sD wh i - (if wh i = 33 then 1 else 0)))
section SUMS
variable {wh we wa wt : Int → Int} {c t w k : Int}
theorem S_zero {wh we wa wt : Int → Int} : zCd wh we wa wt 0 0 0 0 := ⟨by omega, fun i i0 i1 => by omega, fun i i0 i1 => by rw [show i = 0 by omega]; exact ⟨Int.le_refl _, by show (0 : Int) ≤ 3460; omega⟩, rfl, fun j j0 j1 => by omega, fun i i0 i1 => by omega⟩
/-- a code that doesn't jump, and what it leaves -/
theorem S_code (h : zCd wh we wa wt c t w k) {x w2 t2 k2 : Int} {wa2 wt2 : Int → Int} (hx : ¬ sjp x) (hn : snd x ≤ sD wh c ∧ (x = 0 ∨ 2 ≤ x ∧ x ≤ 17 ∨ 20 ≤ x ∧ x < 24 ∨ 30 ≤ x ∧ x ≤ 34)) (ht : 0 ≤ t2 ∧ t2 ≤ t ∧ 0 ≤ w2 ∧ w2 ≤ 1 ∧ c + 1 + t2 ≤ 2 * k2 ∧ t2 ≤ k2 ∧ k2 ≤ 3450) (hd : sD wh c + sdl x = w2 + sB wa t2) (hw : ∀ j, t2 ≤ j → j < t → ¬ sjw (wa j)) : zCd (yup wh c x) we wa wt (c + 1) t2 w2 k2 := by
  obtain ⟨⟨a1, a2, a3, a4, a5, a6, a7⟩, h1, h2, h3, h4, h5⟩ := h
  have hD : ∀ i, i ≤ c → sD (yup wh c x) i = sD wh i := fun i hi => sD_cg (fun j j0 j1 => yup_n (by omega))
  have hc : sD (yup wh c x) (c + 1) = w2 + sB wa t2 := by rw [sD_s a1, hD c (Int.le_refl _), yup_s, hd]
  have hb := sB_i (wa := wa) ht.1
  refine ⟨by omega, fun i i0 i1 => ?_, fun i i0 i1 => ?_, hc, fun j j0 j1 => ?_, fun i i0 i1 q => ?_⟩
  · by_cases e : i = c
    · subst e
      rw [yup_s, hD i (Int.le_refl _)]
      exact hn
    · rw [yup_n e, hD i (by omega)]
      exact h1 i i0 (by omega)
  · by_cases e : i = c + 1
    · rw [e, hc]
      omega
    · rw [hD i (by omega)]
      exact h2 i i0 (by omega)
  · obtain ⟨q1, q2⟩ := h4 j j0 (by omega)
    refine ⟨q1, fun q => ?_⟩
    obtain ⟨r1, r2, r3, r4⟩ := q2 q
    rw [hD _ (by omega), yup_n (by omega)]
    exact ⟨r1, by omega, r3, r4⟩
  · by_cases e : i = c
    · subst e
      rw [yup_s] at q
      exact absurd q hx
    · rw [yup_n e] at q ⊢
      rcases h5 i i0 (by omega) q with ⟨j, j0, j1, j2, j3⟩ | ⟨r1, r2, r3⟩
      · by_cases e2 : j < t2
        · exact Or.inl ⟨j, j0, e2, j2, j3⟩
        · exact absurd j2 (hw j (by omega) j1)
      · refine Or.inr ⟨r1, by omega, ?_⟩
        rw [hD _ r2, hD _ (by omega)]
        exact r3
/-- something that waits and isn't waited for by a jump -/
theorem S_wait (h : zCd wh we wa wt c t w k) {x y w2 k2 : Int} (hx : 2 ≤ x ∧ x ≤ 17 ∨ 20 ≤ x ∧ x < 24 ∨ x = 40) (hd : w = w2 + sbn x) (hw : 0 ≤ w2) (hk : k2 = k + 1 ∧ k2 ≤ 3450) : zCd wh we (yup wa t x) (yup wt t y) c (t + 1) w2 k2 := by
  obtain ⟨⟨a1, a2, a3, a4, a5, a6, a7⟩, h1, h2, h3, h4, h5⟩ := h
  have hB : ∀ i, i ≤ t → sB (yup wa t x) i = sB wa i := fun i hi => sB_cg (fun j j0 j1 => yup_n (by omega))
  have hbn := sbn_r x
  refine ⟨by omega, h1, h2, ?_, fun j j0 j1 => ?_, fun i i0 i1 q => ?_⟩
  · rw [sB_s a2, hB t (Int.le_refl _), yup_s, h3]
    omega
  · by_cases e : j = t
    · subst e
      rw [yup_s]
      refine ⟨by omega, fun q => ?_⟩
      unfold sjw at q
      omega
    · rw [yup_n e, yup_n e, hB j (by omega)]
      exact h4 j j0 (by omega)
  · rcases h5 i i0 i1 q with ⟨j, j0, j1, j2, j3⟩ | r
    · exact Or.inl ⟨j, j0, by omega, by rw [yup_n (by omega)]; exact j2, by rw [yup_n (by omega)]; exact j3⟩
    · exact Or.inr r
/-- a jump and what waits for it -/
theorem S_jump (h : zCd wh we wa wt c t w k) {x y k2 : Int} (hw : w = 1) (hx : (x = 30 ∨ x = 31) ∧ y = x ∨ x = 33 ∧ y = 41) (hk : k2 = k + 1 ∧ k2 ≤ 3450) : zCd (yup wh c x) we (yup wa t y) (yup wt t c) (c + 1) (t + 1) 0 k2 := by
  obtain ⟨⟨a1, a2, a3, a4, a5, a6, a7⟩, h1, h2, h3, h4, h5⟩ := h
  have hD : ∀ i, i ≤ c → sD (yup wh c x) i = sD wh i := fun i hi => sD_cg (fun j j0 j1 => yup_n (by omega))
  have hB : ∀ i, i ≤ t → sB (yup wa t y) i = sB wa i := fun i hi => sB_cg (fun j j0 j1 => yup_n (by omega))
  have hdl : sdl x = -1 ∧ snd x = 1 ∧ sbn y = 0 := by
    rcases hx with ⟨rfl | rfl, rfl⟩ | ⟨rfl, rfl⟩ <;> decide
  have hb := sB_i (wa := wa) a2
  have hc : sD (yup wh c x) (c + 1) = sB wa t := by rw [sD_s a1, hD c (Int.le_refl _), yup_s, h3]; omega
  refine ⟨by omega, fun i i0 i1 => ?_, fun i i0 i1 => ?_, ?_, fun j j0 j1 => ?_, fun i i0 i1 q => ?_⟩
  · by_cases e : i = c
    · subst e
      rw [yup_s, hD i (Int.le_refl _), h3]
      omega
    · rw [yup_n e, hD i (by omega)]
      exact h1 i i0 (by omega)
  · by_cases e : i = c + 1
    · rw [e, hc]
      omega
    · rw [hD i (by omega)]
      exact h2 i i0 (by omega)
  · rw [hc, sB_s a2, hB t (Int.le_refl _), yup_s]
    omega
  · by_cases e : j = t
    · subst e
      rw [yup_s, yup_s, yup_s, hB j (Int.le_refl _), hD c (Int.le_refl _), h3]
      refine ⟨by omega, fun _ => ⟨a1, by omega, by omega, by omega⟩⟩
    · rw [yup_n (i := t) e, yup_n (i := t) e, hB j (by omega)]
      obtain ⟨q1, q2⟩ := h4 j j0 (by omega)
      refine ⟨q1, fun q => ?_⟩
      obtain ⟨r1, r2, r3, r4⟩ := q2 q
      rw [hD _ (by omega), yup_n (by omega)]
      exact ⟨r1, by omega, r3, r4⟩
  · by_cases e : i = c
    · subst e
      exact Or.inl ⟨t, a2, by omega, by rw [yup_s]; unfold sjw; omega, yup_s⟩
    · rw [yup_n e] at q ⊢
      rcases h5 i i0 (by omega) q with ⟨j, j0, j1, j2, j3⟩ | ⟨r1, r2, r3⟩
      · exact Or.inl ⟨j, j0, by omega, by rw [yup_n (by omega)]; exact j2, by rw [yup_n (by omega)]; exact j3⟩
      · refine Or.inr ⟨r1, by omega, ?_⟩
        rw [hD _ r2, hD _ (by omega)]
        exact r3
/-- the jump that waits on top has its place -/
theorem S_patch (h : zCd wh we wa wt c t w k) (h0 : 0 < t) (hj : wa (t - 1) = 30 ∨ wa (t - 1) = 31 ∨ wa (t - 1) = 42) (hw : w = 1) : zCd wh (yup we (wt (t - 1)) c) wa wt c (t - 1) 1 k := by
  obtain ⟨⟨a1, a2, a3, a4, a5, a6, a7⟩, h1, h2, h3, h4, h5⟩ := h
  have hbn : sbn (wa (t - 1)) = 0 := s_bw (by omega)
  have hB := sB_s (wa := wa) (i := t - 1) (by omega)
  rw [show t - 1 + 1 = t by omega, hbn] at hB
  obtain ⟨p1, p2⟩ := h4 (t - 1) (by omega) (by omega)
  obtain ⟨r1, r2, r3, r4⟩ := p2 (by unfold sjw; omega)
  have hD : sD wh c = 1 + sB wa (t - 1) := by omega
  refine ⟨by omega, h1, h2, by omega, fun j j0 j1 => h4 j j0 (by omega), fun i i0 i1 q => ?_⟩
  by_cases e : i = wt (t - 1)
  · subst e
    rw [yup_s, hD, r3, if_neg (by omega)]
    exact Or.inr ⟨by omega, Int.le_refl _, by omega⟩
  · rw [yup_n e]
    rcases h5 i i0 i1 q with ⟨j, j0, j1, j2, j3⟩ | r
    · by_cases e2 : j = t - 1
      · subst e2
        exact absurd j3.symm e
      · exact Or.inl ⟨j, j0, by omega, j2, j3⟩
    · exact Or.inr r
/-- a bracket is done -/
theorem S_pop (h : zCd wh we wa wt c t w k) (h0 : 0 < t) (hj : wa (t - 1) = 40) : zCd wh we wa wt c (t - 1) w k := by
  obtain ⟨⟨a1, a2, a3, a4, a5, a6, a7⟩, h1, h2, h3, h4, h5⟩ := h
  have hbn : sbn (wa (t - 1)) = 0 := s_bw (by omega)
  have hB := sB_s (wa := wa) (i := t - 1) (by omega)
  rw [show t - 1 + 1 = t by omega, hbn] at hB
  refine ⟨by omega, h1, h2, by omega, fun j j0 j1 => h4 j j0 (by omega), fun i i0 i1 q => ?_⟩
  rcases h5 i i0 i1 q with ⟨j, j0, j1, j2, j3⟩ | r
  · by_cases e2 : j = t - 1
    · subst e2
      unfold sjw at j2
      omega
    · exact Or.inl ⟨j, j0, by omega, j2, j3⟩
  · exact Or.inr r
/-- the other side of a question begins -/
theorem S_colon (h : zCd wh we wa wt c t w k) (h0 : 0 < t) (hj : wa (t - 1) = 41) (hw : w = 1) {k2 : Int} (hk : k2 = k + 1 ∧ k2 ≤ 3450) : zCd (yup wh c 34) (yup we (wt (t - 1)) (c + 1)) (yup wa (t - 1) 42) (yup wt (t - 1) c) (c + 1) t 0 k2 := by
  obtain ⟨⟨a1, a2, a3, a4, a5, a6, a7⟩, h1, h2, h3, h4, h5⟩ := h
  have hbn : sbn (wa (t - 1)) = 0 := s_bw (by omega)
  have hB0 := sB_s (wa := wa) (i := t - 1) (by omega)
  rw [show t - 1 + 1 = t by omega, hbn] at hB0
  have hD : ∀ i, i ≤ c → sD (yup wh c 34) i = sD wh i := fun i hi => sD_cg (fun j j0 j1 => yup_n (by omega))
  have hB : ∀ i, i ≤ t - 1 → sB (yup wa (t - 1) 42) i = sB wa i := fun i hi => sB_cg (fun j j0 j1 => yup_n (by omega))
  have hB2 := sB_s (wa := yup wa (t - 1) 42) (i := t - 1) (by omega)
  rw [show t - 1 + 1 = t by omega, yup_s, hB _ (Int.le_refl _), show sbn 42 = 0 by decide] at hB2
  obtain ⟨p1, p2⟩ := h4 (t - 1) (by omega) (by omega)
  obtain ⟨r1, r2, r3, r4⟩ := p2 (by unfold sjw; omega)
  have hb := sB_i (wa := wa) (t := t - 1) (by omega)
  have hc : sD (yup wh c 34) (c + 1) = sB wa (t - 1) := by
    rw [sD_s a1, hD c (Int.le_refl _), yup_s, h3, show sdl 34 = -1 by decide]
    omega
  refine ⟨by omega, fun i i0 i1 => ?_, fun i i0 i1 => ?_, by omega, fun j j0 j1 => ?_, fun i i0 i1 q => ?_⟩
  · by_cases e : i = c
    · subst e
      rw [yup_s, hD i (Int.le_refl _), h3, show snd 34 = 1 by decide]
      omega
    · rw [yup_n e, hD i (by omega)]
      exact h1 i i0 (by omega)
  · by_cases e : i = c + 1
    · rw [e, hc]
      omega
    · rw [hD i (by omega)]
      exact h2 i i0 (by omega)
  · by_cases e : j = t - 1
    · subst e
      rw [yup_s, yup_s, yup_s, hB _ (Int.le_refl _), hD c (Int.le_refl _), h3]
      exact ⟨by omega, fun _ => ⟨a1, by omega, by omega, by omega⟩⟩
    · rw [yup_n (i := t - 1) e, yup_n (i := t - 1) e, hB j (by omega)]
      obtain ⟨q1, q2⟩ := h4 j j0 (by omega)
      refine ⟨q1, fun q => ?_⟩
      obtain ⟨r1, r2, r3, r4⟩ := q2 q
      rw [hD _ (by omega), yup_n (by omega)]
      exact ⟨r1, by omega, r3, r4⟩
  · by_cases e : i = c
    · subst e
      exact Or.inl ⟨t - 1, by omega, by omega, by rw [yup_s]; unfold sjw; omega, yup_s⟩
    · rw [yup_n e] at q ⊢
      by_cases e3 : i = wt (t - 1)
      · subst e3
        rw [yup_s, hc, hD _ (by omega), r3, if_pos (r4.mp hj)]
        exact Or.inr ⟨by omega, Int.le_refl _, by omega⟩
      · rw [yup_n e3]
        rcases h5 i i0 (by omega) q with ⟨j, j0, j1, j2, j3⟩ | ⟨s1, s2, s3⟩
        · by_cases e2 : j = t - 1
          · subst e2
            exact absurd j3.symm e3
          · exact Or.inl ⟨j, j0, j1, by rw [yup_n e2]; exact j2, by rw [yup_n e2]; exact j3⟩
        · refine Or.inr ⟨s1, by omega, ?_⟩
          rw [hD _ s2, hD _ (by omega)]
          exact s3
end SUMS
theorem zCd.kk {wh we wa wt : Int → Int} {c t w k k2 : Int} (h : zCd wh we wa wt c t w k) (hk : c + t ≤ 2 * k2 ∧ t ≤ k2 ∧ k2 ≤ 3450) : zCd wh we wa wt c t w k2 := ⟨by have := h.1; omega, h.2.1, h.2.2.1, h.2.2.2.1, h.2.2.2.2.1, h.2.2.2.2.2⟩
theorem S_doAnd {wh we wa wt : Int → Int} {c t w k : Int} (h : zCd wh we wa wt c t w k) (hk : k ≤ 3440) (h0 : 0 < t) (hj : wa (t - 1) = 30 ∨ wa (t - 1) = 31) (hw : w = 1) : zCd (yup wh c 32) (yup we (wt (t - 1)) (c + 1)) wa wt (c + 1) (t - 1) w k := by
  have h1 := h.1
  have h2 := h.2.2.2.1
  have hb := sB_i (wa := wa) h1.2.1
  have s1 := S_code h (x := 32) (w2 := w) (t2 := t) (k2 := k + 1) (wa2 := wa) (wt2 := wt) (by unfold sjp; omega) (by rw [show snd 32 = 1 by decide]; omega) (by omega) (by rw [show sdl 32 = 0 by decide]; omega) (fun j j0 j1 => by omega)
  have s2 := S_patch s1 h0 (by omega) hw
  rw [hw]
  exact s2.kk (by omega)
theorem S_doElse {wh we wa wt : Int → Int} {c t w k : Int} (h : zCd wh we wa wt c t w k) (h0 : 0 < t) (hj : wa (t - 1) = 42) (hw : w = 1) : zCd wh (yup we (wt (t - 1)) c) wa wt c (t - 1) w k := by
  rw [hw]
  exact S_patch h h0 (by omega) hw
theorem S_doOp {wh we wa wt : Int → Int} {c t w k x : Int} (h : zCd wh we wa wt c t w k) (h0 : 0 < t) (hx : wa (t - 1) = x) (hj : x < 40 ∧ x ≠ 30 ∧ x ≠ 31) (hw : w = 1) : zCd (yup wh c x) we wa wt (c + 1) (t - 1) w k := by
  have h1 := h.1
  have h2 := h.2.2.2.1
  obtain ⟨p1, p2⟩ := h.2.2.2.2.1 (t - 1) (by omega) (by omega)
  have hB := sB_s (wa := wa) (i := t - 1) (by omega)
  rw [show t - 1 + 1 = t by omega] at hB
  have hb := sB_i (wa := wa) (t := t - 1) (by omega)
  have hnj : ∀ j, t - 1 ≤ j → j < t → ¬ sjw (wa j) := fun j j0 j1 => by
    rw [show j = t - 1 by omega, hx]
    unfold sjw
    omega
  by_cases q : 20 ≤ x ∧ x < 24
  · obtain ⟨e1, e2, e3⟩ := s_ah q
    rw [hx, e3] at hB
    exact S_code h (wa2 := wa) (wt2 := wt) (by unfold sjp; omega) (by omega) (by omega) (by omega) hnj
  · obtain ⟨e1, e2, e3⟩ := s_bi (c := x) (by omega)
    rw [hx, e3] at hB
    exact S_code h (wa2 := wa) (wt2 := wt) (by unfold sjp; omega) (by omega) (by omega) (by omega) hnj
theorem S_push {wh we wa wt : Int → Int} {c t w k : Int} (h : zCd wh we wa wt c t w k) (hw : w = 0) (hk : k ≤ 3440) : zCd (yup wh c 0) we wa wt (c + 1) t 1 (k + 1) := by
  have h1 := h.1
  have h2 := h.2.2.2.1
  have hb := sB_i (wa := wa) h1.2.1
  exact S_code h (wa2 := wa) (wt2 := wt) (by unfold sjp; omega) (by rw [show snd 0 = 0 by decide]; omega) (by omega) (by rw [show sdl 0 = 1 by decide]; omega) (fun j j0 j1 => by omega)
theorem zCd.cgr {wh we wa wt wh2 we2 wa2 wt2 : Int → Int} {c t w k c2 t2 w2 : Int} (h : zCd wh we wa wt c t w k) (e1 : c2 = c) (e2 : t2 = t) (e3 : w2 = w) (f1 : wh2 = wh) (f2 : we2 = we) (f3 : wa2 = wa) (f4 : wt2 = wt) : zCd wh2 we2 wa2 wt2 c2 t2 w2 k := by
  subst e1 e2 e3 f1 f2 f3 f4
  exact h
def zSc (M : zMm) (a : Nat) (k : Int) : Prop := zCd (M (a + 43)) (M (a + 44)) (M (a + 46)) (M (a + 47)) (M a 74) (M a 75) (M a 78) k
theorem zSc.cg {M M2 : zMm} {a : Nat} {k : Int} (h : zSc M a k) (f1 : ∀ j, M2 (a + 43) j = M (a + 43) j) (f2 : ∀ j, M2 (a + 44) j = M (a + 44) j) (f3 : ∀ j, M2 (a + 46) j = M (a + 46) j) (f4 : ∀ j, M2 (a + 47) j = M (a + 47) j) (e1 : M2 a 74 = M a 74) (e2 : M2 a 75 = M a 75) (e3 : M2 a 78 = M a 78) : zSc M2 a k := zCd.cgr h e1 e2 e3 (funext f1) (funext f2) (funext f3) (funext f4)
theorem zSc.num {M : zMm} {a : Nat} {k : Int} (h : zSc M a k) : 0 ≤ M a 74 ∧ 0 ≤ M a 75 ∧ M a 74 + M a 75 ≤ 2 * k ∧ M a 75 ≤ k ∧ k ≤ 3450 ∧ 0 ≤ M a 78 ∧ M a 78 ≤ 1 := by
  have := h.1
  omega
theorem zSc.kk {M : zMm} {a : Nat} {k k2 : Int} (h : zSc M a k) (hk : k ≤ k2 ∧ k2 ≤ 3450) : zSc M a k2 := zCd.kk h (by have := h.1; omega)
theorem zSc.wt {M : zMm} {a : Nat} {k j : Int} (h : zSc M a k) (j0 : 0 ≤ j) (j1 : j < M a 75) (hj : M (a + 46) j = 30 ∨ M (a + 46) j = 31 ∨ M (a + 46) j = 41 ∨ M (a + 46) j = 42) : 0 ≤ M (a + 47) j ∧ M (a + 47) j < M a 74 := by
  obtain ⟨r1, r2, r3⟩ := (h.2.2.2.2.1 j j0 j1).2 hj
  exact ⟨r1, r2⟩
theorem zSc.wa {M : zMm} {a : Nat} {k j : Int} (h : zSc M a k) (j0 : 0 ≤ j) (j1 : j < M a 75) : (2 ≤ M (a + 46) j ∧ M (a + 46) j ≤ 17 ∨ 20 ≤ M (a + 46) j ∧ M (a + 46) j < 24 ∨ M (a + 46) j = 30 ∨ M (a + 46) j = 31 ∨ 40 ≤ M (a + 46) j ∧ M (a + 46) j ≤ 42) := (h.2.2.2.2.1 j j0 j1).1
def zSf (M : zMm) (a : Nat) : Prop := ∃ k, zSc M a k ∧ M a 75 = 0 ∧ M a 78 = 1
theorem zSf.cg {M M2 : zMm} {a : Nat} (h : zSf M a) (f1 : ∀ j, M2 (a + 43) j = M (a + 43) j) (f2 : ∀ j, M2 (a + 44) j = M (a + 44) j) (f3 : ∀ j, M2 (a + 46) j = M (a + 46) j) (f4 : ∀ j, M2 (a + 47) j = M (a + 47) j) (e1 : M2 a 74 = M a 74) (e2 : M2 a 75 = M a 75) (e3 : M2 a 78 = M a 78) : zSf M2 a := by
  obtain ⟨k, h1, h2, h3⟩ := h
  exact ⟨k, h1.cg f1 f2 f3 f4 e1 e2 e3, by omega, by omega⟩
theorem s_all (c : Int) : (c = 0 ∧ sdl c = 1 ∧ snd c = 0) ∨ ((c = 32 ∨ 20 ≤ c ∧ c < 24) ∧ sdl c = 0 ∧ snd c = 1) ∨ ((c = 30 ∨ c = 31 ∨ c = 33 ∨ c = 34) ∧ sdl c = -1 ∧ snd c = 1) ∨ (¬ c = 0 ∧ ¬ c = 32 ∧ ¬ (20 ≤ c ∧ c < 24) ∧ ¬ (c = 30 ∨ c = 31 ∨ c = 33 ∨ c = 34) ∧ sdl c = -1 ∧ snd c = 2) := by
  unfold sdl snd
  by_cases q : c = 0
  · rw [if_pos q, if_pos q]
    omega
  · by_cases q2 : c = 32 ∨ 20 ≤ c ∧ c < 24
    · rw [if_neg q, if_pos q2, if_neg q, if_pos (by omega)]
      omega
    · by_cases q3 : c = 30 ∨ c = 31 ∨ c = 33 ∨ c = 34
      · rw [if_neg q, if_neg q2, if_neg q, if_pos (by omega)]
        omega
      · rw [if_neg q, if_neg q2, if_neg q, if_neg (by omega)]
        omega
theorem zSf.at {M : zMm} {a : Nat} {i : Int} (h : zSf M a) (i0 : 0 ≤ i) (i1 : i < M a 74) : snd (M (a + 43) i) ≤ sD (M (a + 43)) i ∧ (M (a + 43) i = 0 ∨ 2 ≤ M (a + 43) i ∧ M (a + 43) i ≤ 17 ∨ 20 ≤ M (a + 43) i ∧ M (a + 43) i < 24 ∨ 30 ≤ M (a + 43) i ∧ M (a + 43) i ≤ 34) ∧ sD (M (a + 43)) i ≤ 3460 ∧ sD (M (a + 43)) (i + 1) = sD (M (a + 43)) i + sdl (M (a + 43) i) ∧ 0 ≤ sD (M (a + 43)) (i + 1) ∧ (¬ (M (a + 43) i = 30 ∨ M (a + 43) i = 31 ∨ M (a + 43) i = 33 ∨ M (a + 43) i = 34) ∨ (i < M (a + 44) i ∧ M (a + 44) i ≤ M a 74 ∧ ((M (a + 43) i = 33 ∧ sD (M (a + 43)) (M (a + 44) i) = sD (M (a + 43)) i - 1) ∨ (¬ M (a + 43) i = 33 ∧ sD (M (a + 43)) (M (a + 44) i) = sD (M (a + 43)) i)))) := by
  obtain ⟨k, h1, h2, h3⟩ := h
  refine ⟨(h1.2.1 i i0 i1).1, (h1.2.1 i i0 i1).2, (h1.2.2.1 i i0 (by omega)).2, sD_s i0, (h1.2.2.1 (i + 1) (by omega) (by omega)).1, ?_⟩
  by_cases q : sjp (M (a + 43) i)
  · refine Or.inr ?_
    rcases h1.2.2.2.2.2 i i0 i1 q with ⟨j, j0, j1, _⟩ | ⟨r1, r2, r3⟩
    · omega
    · refine ⟨r1, r2, ?_⟩
      by_cases q2 : M (a + 43) i = 33
      · rw [if_pos q2] at r3
        exact Or.inl ⟨q2, r3⟩
      · rw [if_neg q2] at r3
        exact Or.inr ⟨q2, by omega⟩
  · exact Or.inl q
theorem zSf.c {M : zMm} {a : Nat} (h : zSf M a) : 0 ≤ M a 74 ∧ sD (M (a + 43)) 0 = 0 := by
  obtain ⟨k, h1, h2, h3⟩ := h
  exact ⟨h1.1.1, rfl⟩
section LALD
variable {w : zWp} {p : Program} {e : Env} {d mc ms : Nat} {s : State} {m : MethodId} {args : Array Value} {below : List Frame} {meth : Method} {c : Code} {y : MethodName} {b : ByteArray} {nL : Nat} {ret : Option FieldType} {T0 T : zTl} {M : zMm} {J : zJm} {R : zRm'} {Post : Option Value → zSg → Prop} {pc n : Nat} {lv st : List Value} {σ : zSg}
theorem q_laldE (C : zCx w p s m args meth c y b nL ret) {a N : Nat} {i : Int} (hd : decode b pc = .ok (.laload, 1)) (hn : pc + 1 = n) (ht : T[a]? = some (53, N)) (hi : 0 ≤ i ∧ i < N ∧ i ≤ 2147483647) (kk : zK w p e d mc ms s m args below meth c nL T0 Post n lv (.long (J a i) :: st) (T, M, J, R)) : zK w p e d mc ms s m args below meth c nL T0 Post pc lv (zi i :: .ref (w.2.1 + a) :: st) (T, M, J, R) := r_lald C ht hi hd (by rw [hn]; exact kk)
end LALD

