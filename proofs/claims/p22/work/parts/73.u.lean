/-! ===== the bytes of what is listed: weights of tokens ===== -/
theorem zSum_f {g : Int → Int} : ∀ (n : Nat) (b : Int), zSum g b (n + 1) = g b + zSum g (b + 1) n
  | 0, b => by
    show zSum g b 0 + g (b + ((0 : Nat) : Int)) = g b + zSum g (b + 1) 0
    rw [show b + ((0 : Nat) : Int) = b by omega]
    show 0 + g b = g b + 0
    omega
  | n + 1, b => by
    have h := zSum_f (g := g) n b
    show zSum g b (n + 1) + g (b + ((n + 1 : Nat) : Int)) = g b + (zSum g (b + 1) n + g (b + 1 + (n : Int)))
    rw [h, show b + ((n + 1 : Nat) : Int) = b + 1 + (n : Int) by omega]
    omega
theorem zSum_pos {g : Int → Int} (h : ∀ t, 0 ≤ g t) : ∀ (n : Nat) (b : Int), 0 ≤ zSum g b n
  | 0, _ => Int.le_refl _
  | n + 1, b => by
    have h1 := zSum_pos h n b
    have h2 := h (b + (n : Int))
    show 0 ≤ zSum g b n + g (b + (n : Int))
    omega
theorem zSum_30 {g : Int → Int} (h : ∀ t, g t ≤ 30) : ∀ (n : Nat) (b : Int), zSum g b n ≤ 30 * n
  | 0, _ => by show (0 : Int) ≤ 30 * ((0 : Nat) : Int); omega
  | n + 1, b => by
    have h1 := zSum_30 h n b
    have h2 := h (b + (n : Int))
    show zSum g b n + g (b + (n : Int)) ≤ 30 * ((n + 1 : Nat) : Int)
    omega
def zwS (wt : Int → Int) (x y : Int) : Int := zSum wt x (y - x).toNat
theorem zwS_nil {wt : Int → Int} {x y : Int} (h : x = y) : zwS wt x y = 0 := by
  subst h
  unfold zwS
  rw [show (x - x).toNat = 0 by omega]
  rfl
theorem zwS_go {wt : Int → Int} {x y : Int} (h : x < y) : zwS wt x y = wt x + zwS wt (x + 1) y := by
  unfold zwS
  rw [show (y - x).toNat = (y - (x + 1)).toNat + 1 by omega]
  exact zSum_f _ _
theorem zwS_pos {wt : Int → Int} (h : ∀ t, 0 ≤ wt t) {x y : Int} : 0 ≤ zwS wt x y := zSum_pos h _ _
theorem zwS_le {wt : Int → Int} (h : ∀ t, wt t ≤ 30) {x y : Int} (hx : x ≤ y) : zwS wt x y ≤ 30 * (y - x) := by
  have := zSum_30 h (y - x).toNat x
  unfold zwS
  omega
def zwK (wt : Int → Int) (at_ en : Int → Int) (n : Int) : Int := zSum (fun j => zwS wt (at_ j) (en j)) 0 n.toNat
theorem zwK_s {wt at_ en : Int → Int} {n : Int} (h : 0 ≤ n) : zwK wt at_ en (n + 1) = zwK wt at_ en n + zwS wt (at_ n) (en n) := by
  unfold zwK
  rw [zSum_s h, Int.zero_add]
theorem zwK_cg {wt at_ en at2 en2 : Int → Int} {n : Int} (h : ∀ j, 0 ≤ j → j < n → at2 j = at_ j ∧ en2 j = en j) : zwK wt at2 en2 n = zwK wt at_ en n := by
  unfold zwK
  refine zSum_cg _ (fun i hi => ?_)
  show zwS wt (at2 (0 + (i : Int))) (en2 (0 + (i : Int))) = zwS wt (at_ (0 + (i : Int))) (en (0 + (i : Int)))
  rw [(h (0 + (i : Int)) (by omega) (by omega)).1, (h (0 + (i : Int)) (by omega) (by omega)).2]
theorem zwK_pos {wt at_ en : Int → Int} (h : ∀ t, 0 ≤ wt t) {n : Int} : 0 ≤ zwK wt at_ en n := zSum_pos (fun _ => zwS_pos h) _ _
theorem zwK_flat {wt at_ en : Int → Int} {s : Int} : ∀ (k : Nat), 0 ≤ s → (∀ j, s ≤ j → j < s + k → at_ j = en j) → zwK wt at_ en (s + k) = zwK wt at_ en s
  | 0, _, _ => by rw [show s + ((0 : Nat) : Int) = s by omega]
  | k + 1, h0, h => by
    rw [show s + ((k + 1 : Nat) : Int) = (s + k) + 1 by omega, zwK_s (by omega), zwK_flat k h0 (fun j j0 j1 => h j j0 (by omega)), zwS_nil (h (s + k) (by omega) (by omega))]
    omega
def zwL (wt li : Int → Int) (n : Int) : Int := zSum (fun i => wt (li i)) 0 n.toNat
theorem zwL_s {wt li : Int → Int} {n x : Int} (h : 0 ≤ n) : zwL wt (yup li n x) (n + 1) = zwL wt li n + wt x := by
  unfold zwL
  rw [zSum_s h, Int.zero_add, yup_s]
  congr 1
  refine zSum_cg _ (fun i hi => ?_)
  show wt (yup li n x (0 + (i : Int))) = wt (li (0 + (i : Int)))
  rw [yup_n (by omega)]
def zwB (fr st : Int) (fb : Int → Int) : Int := if fr = 0 then st else if 1 ≤ fr then fb 1 else 0
theorem zwB_0 {st : Int} {fb : Int → Int} : zwB 0 st fb = st := if_pos rfl
theorem zwB_1 {fr st : Int} {fb : Int → Int} (h : 1 ≤ fr) : zwB fr st fb = fb 1 := by
  unfold zwB
  rw [if_neg (by omega), if_pos h]
theorem zwB_m {fr st : Int} {fb : Int → Int} (h : fr < 0) : zwB fr st fb = 0 := by
  unfold zwB
  rw [if_neg (by omega), if_neg (by omega)]
def zwC (cm : Int → Int) : Int := if 0 ≤ cm 0 then 1 else 0
def zU (wt : Int → Int) (la fr st ls E : Int) (at_ en sa fb cm li : Int → Int) (v : Int) : Prop :=
  (∀ t, 0 ≤ wt t ∧ wt t ≤ 30) ∧ (¬ la = 0 ∨ (0 ≤ v ∧ 0 ≤ ls ∧ 0 ≤ zwB fr st fb ∧ zwL wt li ls + zwK wt at_ en (zwB fr st fb) + v ≤ 440 + 900 * (E - zwC cm) ∧ ∀ j, 0 ≤ j → j < zwB fr st fb → sa j = 0 ∧ at_ j ≤ en j))
section UU
variable {wt at_ en sa fb cm li : Int → Int} {la fr st ls E v : Int}
theorem U_drop (h : zU wt la fr st ls E at_ en sa fb cm li v) : zU wt la fr st ls E at_ en sa fb cm li 0 := ⟨h.1, h.2.imp id (fun q => ⟨Int.le_refl _, q.2.1, q.2.2.1, by have := q.1; have := q.2.2.2.1; omega, q.2.2.2.2⟩)⟩
theorem U_peek {st2 : Int} (h : zU wt la fr st ls E at_ en sa fb cm li v) (f0 : 0 ≤ fr) (h0 : 0 ≤ st2) (h2 : st2 ≤ st) (h3 : ∀ j, st2 ≤ j → j < st → at_ j = en j) : zU wt la fr st2 ls E at_ en sa fb cm li v := by
  refine ⟨h.1, h.2.imp id (fun q => ?_)⟩
  by_cases f : fr = 0
  · subst f
    rw [zwB_0] at q ⊢
    have e := zwK_flat (wt := wt) (at_ := at_) (en := en) (s := st2) (st - st2).toNat h0 (fun j j0 j1 => h3 j j0 (by omega))
    rw [show st2 + ((st - st2).toNat : Int) = st by omega] at e
    exact ⟨q.1, q.2.1, h0, by rw [← e]; exact q.2.2.2.1, fun j j0 j1 => q.2.2.2.2 j j0 (by omega)⟩
  · rw [zwB_1 (by omega)] at q ⊢
    exact q
theorem U_go (h : zU wt la fr st ls E at_ en sa fb cm li v) (f0 : 0 ≤ fr) (h0 : 1 ≤ st) (hlt : at_ (st - 1) < en (st - 1)) (hf : 1 ≤ fr → fb 1 ≤ st - 1) : zU wt la fr st ls E (yup at_ (st - 1) (at_ (st - 1) + 1)) en sa fb cm li (if fr = 0 then wt (at_ (st - 1)) else 0) := by
  have h := U_drop h
  refine ⟨h.1, h.2.imp id (fun q => ?_)⟩
  obtain ⟨q1, q2, q3, q4, q5⟩ := q
  have hw := h.1 (at_ (st - 1))
  by_cases f : fr = 0
  · subst f
    rw [if_pos rfl]
    rw [zwB_0] at q3 q4 q5 ⊢
    have k1 : zwK wt at_ en st = zwK wt at_ en (st - 1) + zwS wt (at_ (st - 1)) (en (st - 1)) := by
      have := zwK_s (wt := wt) (at_ := at_) (en := en) (n := st - 1) (by omega)
      rw [show st - 1 + 1 = st by omega] at this
      exact this
    have k2 : zwK wt (yup at_ (st - 1) (at_ (st - 1) + 1)) en st = zwK wt at_ en (st - 1) + zwS wt (at_ (st - 1) + 1) (en (st - 1)) := by
      have := zwK_s (wt := wt) (at_ := yup at_ (st - 1) (at_ (st - 1) + 1)) (en := en) (n := st - 1) (by omega)
      have e := zwK_cg (wt := wt) (at_ := at_) (en := en) (at2 := yup at_ (st - 1) (at_ (st - 1) + 1)) (en2 := en) (n := st - 1) (fun j j0 j1 => ⟨yup_n (by omega), rfl⟩)
      rw [show st - 1 + 1 = st by omega, yup_s, e] at this
      exact this
    have k3 := zwS_go (wt := wt) hlt
    refine ⟨hw.1, q2, q3, by omega, fun j j0 j1 => ⟨(q5 j j0 j1).1, ?_⟩⟩
    by_cases e : j = st - 1
    · rw [e, yup_s]
      omega
    · rw [yup_n e]
      exact (q5 j j0 j1).2
  · rw [if_neg f]
    rw [zwB_1 (by omega)] at q3 q4 q5 ⊢
    have hf := hf (by omega)
    rw [zwK_cg (at_ := at_) (en := en) (fun j j0 j1 => ⟨yup_n (by omega), rfl⟩)]
    exact ⟨Int.le_refl _, q2, q3, q4, fun j j0 j1 => ⟨(q5 j j0 j1).1, by rw [yup_n (by omega)]; exact (q5 j j0 j1).2⟩⟩
theorem U_list {t : Int} (h : zU wt la fr st ls E at_ en sa fb cm li v) (hv : ¬ la = 0 ∨ wt t ≤ v) : zU wt la fr st (ls + 1) E at_ en sa fb cm (yup li ls t) 0 := by
  refine ⟨h.1, ?_⟩
  rcases h.2 with q | ⟨q1, q2, q3, q4, q5⟩
  · exact Or.inl q
  · rcases hv with z | z
    · exact Or.inl z
    · exact Or.inr ⟨Int.le_refl _, by omega, q3, by rw [zwL_s q2]; omega, q5⟩
theorem U_begin {m : Int} (h : zU wt la fr st ls E at_ en sa fb cm li v) (hm : 0 ≤ m) (hc : ¬ fr = 0 ∨ cm 0 < 0) : zU wt la fr st ls (E + 1) at_ en sa fb (yup cm fr m) li v := by
  refine ⟨h.1, h.2.imp id (fun q => ⟨q.1, q.2.1, q.2.2.1, ?_, q.2.2.2.2⟩)⟩
  have q4 := q.2.2.2.1
  unfold zwC at q4 ⊢
  by_cases f : fr = 0
  · subst f
    rw [yup_s, if_pos hm]
    rw [if_neg (by omega)] at q4
    omega
  · rw [yup_n (fun z => f z.symm)]
    omega
theorem U_open {x z k : Int} (h : zU wt la fr st ls E at_ en sa fb cm li v) (f0 : 0 ≤ fr) (s0 : 0 ≤ st) (hf : 1 ≤ fr → fb 1 ≤ st) : zU wt la (fr + 1) (st + 1) ls E (yup at_ st x) (yup en st z) (yup sa st k) (yup fb (fr + 1) st) (yup cm (fr + 1) (-1)) li v := by
  refine ⟨h.1, h.2.imp id (fun q => ?_)⟩
  obtain ⟨q1, q2, q3, q4, q5⟩ := q
  have hc : zwC (yup cm (fr + 1) (-1)) = zwC cm := by
    unfold zwC
    rw [yup_n (by omega)]
  have hb : zwB (fr + 1) (st + 1) (yup fb (fr + 1) st) = zwB fr st fb ∧ zwB fr st fb ≤ st := by
    rw [zwB_1 (by omega)]
    by_cases f : fr = 0
    · subst f
      rw [zwB_0, show (0 : Int) + 1 = 1 by omega, yup_s]
      exact ⟨rfl, Int.le_refl _⟩
    · rw [zwB_1 (by omega), yup_n (by omega)]
      exact ⟨rfl, hf (by omega)⟩
  rw [hc, hb.1, zwK_cg (at_ := at_) (en := en) (fun j j0 j1 => ⟨yup_n (by omega), yup_n (by omega)⟩)]
  exact ⟨q1, q2, q3, q4, fun j j0 j1 => by rw [yup_n (by omega), yup_n (by omega), yup_n (by omega)]; exact q5 j j0 j1⟩
theorem U_close (h : zU wt la fr st ls E at_ en sa fb cm li v) (f0 : 0 ≤ fr) (hs : st = fb fr) : zU wt la (fr - 1) st ls E at_ en sa fb cm li v := by
  refine ⟨h.1, h.2.imp id (fun q => ?_)⟩
  obtain ⟨q1, q2, q3, q4, q5⟩ := q
  by_cases f : fr = 0
  · subst f
    rw [zwB_0] at q3 q4 q5
    rw [zwB_m (by omega)]
    have hp := zwK_pos (wt := wt) (at_ := at_) (en := en) (fun t => (h.1 t).1) (n := st)
    exact ⟨q1, q2, Int.le_refl _, by show zwL wt li ls + zwK wt at_ en 0 + v ≤ _; have : zwK wt at_ en 0 = 0 := rfl; omega, fun j j0 j1 => by omega⟩
  · rw [zwB_1 (by omega)] at q3 q4 q5
    by_cases f1 : fr = 1
    · subst f1
      rw [show (1 : Int) - 1 = 0 by omega, zwB_0, hs]
      exact ⟨q1, q2, q3, q4, q5⟩
    · rw [zwB_1 (by omega)]
      exact ⟨q1, q2, q3, q4, q5⟩
theorem U_build {x z : Int} (h : zU wt la fr st ls E at_ en sa fb cm li v) (f0 : 0 ≤ fr) (s0 : 0 ≤ st) (hf : 1 ≤ fr → fb 1 ≤ st) (hx : x ≤ z ∧ z ≤ x + 30) (hc : 0 ≤ cm fr) : zU wt la fr (st + 1) ls E (yup at_ st x) (yup en st z) (yup sa st 0) fb (yup cm fr (-1)) li v := by
  refine ⟨h.1, h.2.imp id (fun q => ?_)⟩
  obtain ⟨q1, q2, q3, q4, q5⟩ := q
  by_cases f : fr = 0
  · subst f
    rw [zwB_0] at q3 q4 q5 ⊢
    have hw : zwC (yup cm 0 (-1)) = 0 := by
      unfold zwC
      rw [yup_s]
      rfl
    have hw2 : zwC cm = 1 := if_pos hc
    rw [zwK_s s0, yup_s, yup_s, zwK_cg (at_ := at_) (en := en) (fun j j0 j1 => ⟨yup_n (by omega), yup_n (by omega)⟩), hw]
    have hl := zwS_le (wt := wt) (fun t => (h.1 t).2) hx.1
    refine ⟨q1, q2, by omega, by omega, fun j j0 j1 => ?_⟩
    by_cases e : j = st
    · rw [e, yup_s, yup_s, yup_s]
      exact ⟨rfl, hx.1⟩
    · rw [yup_n e, yup_n e, yup_n e]
      exact q5 j j0 (by omega)
  · have hw : zwC (yup cm fr (-1)) = zwC cm := by
      unfold zwC
      rw [yup_n (fun z => f z.symm)]
    rw [zwB_1 (by omega)] at q3 q4 q5 ⊢
    have hf := hf (by omega)
    rw [hw, zwK_cg (at_ := at_) (en := en) (fun j j0 j1 => ⟨yup_n (by omega), yup_n (by omega)⟩)]
    exact ⟨q1, q2, q3, q4, fun j j0 j1 => by rw [yup_n (by omega), yup_n (by omega), yup_n (by omega)]; exact q5 j j0 j1⟩
theorem U_end (h : zU wt la fr st ls E at_ en sa fb cm li v) (hE : E ≤ 100) : ¬ la = 0 ∨ zwL wt li ls ≤ 90440 := h.2.imp id (fun q => by
  have hp := zwK_pos (wt := wt) (at_ := at_) (en := en) (fun t => (h.1 t).1) (n := zwB fr st fb)
  have hc : 0 ≤ zwC cm := by
    unfold zwC
    split <;> omega
  have := q.1
  have := q.2.2.2.1
  omega)
theorem U_start {x z : Int} (hw : ∀ t, 0 ≤ wt t ∧ wt t ≤ 30) (hx : ¬ la = 0 ∨ x ≤ z ∧ zwS wt x z ≤ 440) (hE : 0 ≤ E) (ha : at_ 0 = x) (he : en 0 = z) (hs : sa 0 = la) (hc : cm 0 = -1) : zU wt la 0 1 0 E at_ en sa fb cm li 0 := by
  refine ⟨hw, ?_⟩
  by_cases q : la = 0
  · obtain ⟨x1, x2⟩ := hx.resolve_left (fun z => z q)
    refine Or.inr ⟨Int.le_refl _, Int.le_refl _, by rw [zwB_0]; omega, ?_, fun j j0 j1 => ?_⟩
    · have k : zwK wt at_ en 1 = zwS wt x z := by
        have := zwK_s (wt := wt) (at_ := at_) (en := en) (n := 0) (Int.le_refl _)
        rw [ha, he] at this
        have e0 : zwK wt at_ en 0 = 0 := rfl
        rw [show (0 : Int) + 1 = 1 by omega] at this
        omega
      have l : zwL wt li 0 = 0 := rfl
      have c : zwC cm = 0 := by
        unfold zwC
        rw [hc]
        rfl
      rw [zwB_0, k, l, c]
      omega
    · rw [zwB_0] at j1
      have : j = 0 := by omega
      subst this
      exact ⟨hs.trans q, by rw [ha, he]; exact x1⟩
  · exact Or.inl q
theorem zU.cgr {la2 fr2 st2 ls2 E2 : Int} {at2 en2 sa2 fb2 cm2 li2 : Int → Int} (h : zU wt la fr st ls E at_ en sa fb cm li v) (e1 : la2 = la) (e2 : fr2 = fr) (e3 : st2 = st) (e4 : ls2 = ls) (e5 : E2 = E) (e6 : at2 = at_) (e7 : en2 = en) (e8 : sa2 = sa) (e9 : fb2 = fb) (e10 : cm2 = cm) (e11 : li2 = li) : zU wt la2 fr2 st2 ls2 E2 at2 en2 sa2 fb2 cm2 li2 v := by
  subst e1 e2 e3 e4 e5 e6 e7 e8 e9 e10 e11
  exact h
end UU

def zV (M : zMm) (a : Nat) (wt : Int → Int) (v : Int) : Prop := zU wt (M a 65) (M a 57) (M a 58) (M a 61) (M a 62) (M (a + 24)) (M (a + 25)) (M (a + 26)) (M (a + 27)) (M (a + 28)) (M (a + 41)) v
theorem zV.cg {M M2 : zMm} {a : Nat} {wt : Int → Int} {v : Int} (h : zV M a wt v) (e1 : M2 a 65 = M a 65) (e2 : M2 a 57 = M a 57) (e3 : M2 a 58 = M a 58) (e4 : M2 a 61 = M a 61) (e5 : M2 a 62 = M a 62) (e6 : ∀ j, M2 (a + 24) j = M (a + 24) j) (e7 : ∀ j, M2 (a + 25) j = M (a + 25) j) (e8 : ∀ j, M2 (a + 26) j = M (a + 26) j) (e9 : ∀ j, M2 (a + 27) j = M (a + 27) j) (e10 : ∀ j, M2 (a + 28) j = M (a + 28) j) (e11 : ∀ j, M2 (a + 41) j = M (a + 41) j) : zV M2 a wt v := zU.cgr h e1 e2 e3 e4 e5 (funext e6) (funext e7) (funext e8) (funext e9) (funext e10) (funext e11)
theorem zV.sa {M : zMm} {a : Nat} {wt : Int → Int} {v : Int} (h : zV M a wt v) : ¬ M a 65 = 0 ∨ ¬ M a 57 = 0 ∨ M a 58 ≤ 0 ∨ M (a + 26) (M a 58 - 1) = 0 := by
  rcases h.2 with q | q
  · exact Or.inl q
  · by_cases f : M a 57 = 0
    · by_cases g : M a 58 ≤ 0
      · exact Or.inr (Or.inr (Or.inl g))
      · have h5 := q.2.2.2.2 (M a 58 - 1) (by omega)
        rw [f, zwB_0] at h5
        exact Or.inr (Or.inr (Or.inr (h5 (by omega)).1))
    · exact Or.inr (Or.inl f)
def zVt (M : zMm) (a : Nat) (wt : Int → Int) : Int := if M a 57 = 0 then wt (M (a + 24) (M a 58 - 1)) else 0
theorem zX.f1 {M : zMm} {a : Nat} {mb mp : Int → Int} {n A0 v u z : Int} (h : zX M a mb mp n A0 v u z) : M a 57 ≤ 0 ∨ M (a + 27) 1 ≤ M (a + 27) (M a 57) ∧ M (a + 27) (M a 57) ≤ M a 58 := by
  by_cases q : M a 57 ≤ 0
  · exact Or.inl q
  · exact Or.inr ⟨(yfl h (g := 1) (r := M a 57) (by omega) (by omega) (Int.le_refl _)).2, (zX.fb h rfl).2⟩
