/-! ===== the law: the world at its start ===== -/
theorem zh1 {v : Cond} (i : Nat) (h : tables_1_1[i]? = some v) : v ∈ lw_tbl := List.mem_append_right _ (show v ∈ tables_1_1 ++ (tables_1_2 ++ (tables_1_3 ++ (tables_1_4 ++ (tables_1_5 ++ (tables_1_6 ++ (tables_1_7 ++ (tables_1_8 ++ (tables_1_9 ++ tables_1_10)))))))) from List.mem_append_left _ (List.mem_of_getElem? h))
theorem zh2 {v : Cond} (i : Nat) (h : tables_1_2[i]? = some v) : v ∈ lw_tbl := List.mem_append_right _ (show v ∈ tables_1_1 ++ (tables_1_2 ++ (tables_1_3 ++ (tables_1_4 ++ (tables_1_5 ++ (tables_1_6 ++ (tables_1_7 ++ (tables_1_8 ++ (tables_1_9 ++ tables_1_10)))))))) from List.mem_append_right _ (List.mem_append_left _ (List.mem_of_getElem? h)))
theorem zh3 {v : Cond} (i : Nat) (h : tables_1_3[i]? = some v) : v ∈ lw_tbl := List.mem_append_right _ (show v ∈ tables_1_1 ++ (tables_1_2 ++ (tables_1_3 ++ (tables_1_4 ++ (tables_1_5 ++ (tables_1_6 ++ (tables_1_7 ++ (tables_1_8 ++ (tables_1_9 ++ tables_1_10)))))))) from List.mem_append_right _ (List.mem_append_right _ (List.mem_append_left _ (List.mem_of_getElem? h))))
theorem zh4 {v : Cond} (i : Nat) (h : tables_1_4[i]? = some v) : v ∈ lw_tbl := List.mem_append_right _ (show v ∈ tables_1_1 ++ (tables_1_2 ++ (tables_1_3 ++ (tables_1_4 ++ (tables_1_5 ++ (tables_1_6 ++ (tables_1_7 ++ (tables_1_8 ++ (tables_1_9 ++ tables_1_10)))))))) from List.mem_append_right _ (List.mem_append_right _ (List.mem_append_right _ (List.mem_append_left _ (List.mem_of_getElem? h)))))
theorem zh5 {v : Cond} (i : Nat) (h : tables_1_5[i]? = some v) : v ∈ lw_tbl := List.mem_append_right _ (show v ∈ tables_1_1 ++ (tables_1_2 ++ (tables_1_3 ++ (tables_1_4 ++ (tables_1_5 ++ (tables_1_6 ++ (tables_1_7 ++ (tables_1_8 ++ (tables_1_9 ++ tables_1_10)))))))) from List.mem_append_right _ (List.mem_append_right _ (List.mem_append_right _ (List.mem_append_right _ (List.mem_append_left _ (List.mem_of_getElem? h))))))
theorem zh6 {v : Cond} (i : Nat) (h : tables_1_6[i]? = some v) : v ∈ lw_tbl := List.mem_append_right _ (show v ∈ tables_1_1 ++ (tables_1_2 ++ (tables_1_3 ++ (tables_1_4 ++ (tables_1_5 ++ (tables_1_6 ++ (tables_1_7 ++ (tables_1_8 ++ (tables_1_9 ++ tables_1_10)))))))) from List.mem_append_right _ (List.mem_append_right _ (List.mem_append_right _ (List.mem_append_right _ (List.mem_append_right _ (List.mem_append_left _ (List.mem_of_getElem? h)))))))
theorem zh7 {v : Cond} (i : Nat) (h : tables_1_7[i]? = some v) : v ∈ lw_tbl := List.mem_append_right _ (show v ∈ tables_1_1 ++ (tables_1_2 ++ (tables_1_3 ++ (tables_1_4 ++ (tables_1_5 ++ (tables_1_6 ++ (tables_1_7 ++ (tables_1_8 ++ (tables_1_9 ++ tables_1_10)))))))) from List.mem_append_right _ (List.mem_append_right _ (List.mem_append_right _ (List.mem_append_right _ (List.mem_append_right _ (List.mem_append_right _ (List.mem_append_left _ (List.mem_of_getElem? h))))))))
theorem zh8 {v : Cond} (i : Nat) (h : tables_1_8[i]? = some v) : v ∈ lw_tbl := List.mem_append_right _ (show v ∈ tables_1_1 ++ (tables_1_2 ++ (tables_1_3 ++ (tables_1_4 ++ (tables_1_5 ++ (tables_1_6 ++ (tables_1_7 ++ (tables_1_8 ++ (tables_1_9 ++ tables_1_10)))))))) from List.mem_append_right _ (List.mem_append_right _ (List.mem_append_right _ (List.mem_append_right _ (List.mem_append_right _ (List.mem_append_right _ (List.mem_append_right _ (List.mem_append_left _ (List.mem_of_getElem? h)))))))))
theorem zh9 {v : Cond} (i : Nat) (h : tables_1_9[i]? = some v) : v ∈ lw_tbl := List.mem_append_right _ (show v ∈ tables_1_1 ++ (tables_1_2 ++ (tables_1_3 ++ (tables_1_4 ++ (tables_1_5 ++ (tables_1_6 ++ (tables_1_7 ++ (tables_1_8 ++ (tables_1_9 ++ tables_1_10)))))))) from List.mem_append_right _ (List.mem_append_right _ (List.mem_append_right _ (List.mem_append_right _ (List.mem_append_right _ (List.mem_append_right _ (List.mem_append_right _ (List.mem_append_right _ (List.mem_append_left _ (List.mem_of_getElem? h))))))))))
theorem zh10 {v : Cond} (i : Nat) (h : tables_1_10[i]? = some v) : v ∈ lw_tbl := List.mem_append_right _ (show v ∈ tables_1_1 ++ (tables_1_2 ++ (tables_1_3 ++ (tables_1_4 ++ (tables_1_5 ++ (tables_1_6 ++ (tables_1_7 ++ (tables_1_8 ++ (tables_1_9 ++ tables_1_10)))))))) from List.mem_append_right _ (List.mem_append_right _ (List.mem_append_right _ (List.mem_append_right _ (List.mem_append_right _ (List.mem_append_right _ (List.mem_append_right _ (List.mem_append_right _ (List.mem_append_right _ (List.mem_of_getElem? h))))))))))
theorem zeqR {args : Array Value} {s : State} {t u : Term} {a : Nat} (h : (Cond.eq t u).before args s = true) (ht : t.eval args s none [] s = some (.ref a)) : u.eval args s none [] s = some (.ref a) := by
  cases hu : u.eval args s none [] s with
  | none => simp [Cond.before, Cond.holds, Cond.value, ht, hu] at h
  | some v => cases v <;> simp_all [Cond.before, Cond.holds, Cond.value]
theorem zarrP {args : Array Value} {U : State} {ty : FieldType} (h : (Cond.arrayClass ty).before args U = true) : ∃ cA : ClassId, ArrOfT U cA ty ∧ U.vm.findClass ("[" ++ ty.toString) = some cA := by
  obtain ⟨c, k, comp, h1, h2, h3⟩ := Cond.arrayClass_spec (args := args) (first := U) (o := none) (s := U) (idx := []) h
  exact ⟨c, fun n z => ⟨fun k => by simp [arrV], k, h2, comp, h3⟩, h1⟩
theorem zarrO {args : Array Value} {U : State} {C : String} (h : (Cond.arrayOver (.object C)).before args U = true) : ∃ cA : ClassId, ArrOfT U cA (.object C) ∧ va_RA U cA (.object C) := by
  obtain ⟨comp, cA, kA, h1, -, h2, h3, h4⟩ := Cond.arrayOver_spec (args := args) (first := U) (o := none) (s := U) (idx := []) h
  exact ⟨cA, fun n z => ⟨fun k => by simp [arrV], kA, h2, comp, h3⟩, kA, comp, h2, h3, h1, h4⟩
theorem zarrA {args : Array Value} {U : State} (h : (Cond.arrayOver (.array .byte)).before args U = true) : ∃ cA : ClassId, ArrOfT U cA (.array .byte) ∧ U.vm.findClass ("[" ++ (FieldType.array .byte).toString) = some cA := by
  obtain ⟨comp, cA, kA, h1, -, h2, h3, h4⟩ := arrayOverA_spec (args := args) (first := U) (o := none) (s := U) (idx := []) h
  exact ⟨cA, fun n z => ⟨fun k => by simp [arrV], kA, h2, comp, h3⟩, h4⟩
set_option maxRecDepth 100000 in
theorem zin_0 : (Cond.instantiable RX0 9) ∈ lw_g := zt2 43 rfl rfl
set_option maxRecDepth 100000 in
theorem zin_1 : (Cond.instantiable RX1 2) ∈ lw_g := zt1 123 rfl rfl
set_option maxRecDepth 100000 in
theorem zin_2 : (Cond.instantiable RX2 18) ∈ lw_g := zt2 52 rfl rfl
set_option maxRecDepth 100000 in
theorem zin_3 : (Cond.instantiable RX3 18) ∈ lw_g := zt1 204 rfl rfl
set_option maxRecDepth 100000 in
theorem zin_4 : (Cond.instantiable RX4 7) ∈ lw_g := zt1 43 rfl rfl
set_option maxRecDepth 100000 in
theorem zin_5 : (Cond.instantiable RX5 4) ∈ lw_g := zt1 144 rfl rfl
set_option maxRecDepth 100000 in
theorem zin_6 : (Cond.instantiable RX6 20) ∈ lw_g := zt1 117 rfl rfl
set_option maxRecDepth 100000 in
theorem zin_7 : (Cond.instantiable RX7 7) ∈ lw_g := zt1 34 rfl rfl
set_option maxRecDepth 100000 in
theorem zin_8 : (Cond.instantiable RX8 6) ∈ lw_g := zt5 199 rfl rfl
set_option maxRecDepth 100000 in
theorem zin_9 : (Cond.instantiable RX9 8) ∈ lw_g := zt2 159 rfl rfl
set_option maxRecDepth 100000 in
theorem zin_10 : (Cond.instantiable RX10 2) ∈ lw_g := zt1 185 rfl rfl
set_option maxRecDepth 100000 in
theorem zin_11 : (Cond.instantiable RX11 9) ∈ lw_g := zt1 26 rfl rfl
set_option maxRecDepth 100000 in
theorem zin_12 : (Cond.instantiable RX12 119) ∈ lw_g := zt6 180 rfl rfl
theorem zKc {s : State} {args : Array Value} (hts : ∀ v ∈ lw_g, v.before args s = true) : ∃ D : va_G, ∀ (c : Nat) (q : vw_C), zcl[c]? = some q → u_Kn s q.1 q.2.1 q.2.2 (D.1 c) (D.2 c) := by
  have h0 : ∀ c : Nat, ∃ p : ClassId × (Nat → Nat), ∀ q : vw_C, zcl[c]? = some q → u_Kn s q.1 q.2.1 q.2.2 p.1 p.2 := fun c => by
    match c with
    | 0 =>
      obtain ⟨c0, i0, h⟩ := u_known (C := RX0) (T := TX0) (N := 9) (n := 9) hts uvX0 (hts _ zin_0)
      exact ⟨(c0, i0), fun q hq => by cases hq; exact h⟩
    | 1 =>
      obtain ⟨c0, i0, h⟩ := u_known (C := RX1) (T := TX1) (N := 2) (n := 2) hts uvX1 (hts _ zin_1)
      exact ⟨(c0, i0), fun q hq => by cases hq; exact h⟩
    | 2 =>
      obtain ⟨c0, i0, h⟩ := u_known (C := RX2) (T := TX2) (N := 18) (n := 18) hts uvX2 (hts _ zin_2)
      exact ⟨(c0, i0), fun q hq => by cases hq; exact h⟩
    | 3 =>
      obtain ⟨c0, i0, h⟩ := u_known (C := RX3) (T := TX3) (N := 18) (n := 18) hts uvX3 (hts _ zin_3)
      exact ⟨(c0, i0), fun q hq => by cases hq; exact h⟩
    | 4 =>
      obtain ⟨c0, i0, h⟩ := u_known (C := RX4) (T := TX4) (N := 7) (n := 7) hts uvX4 (hts _ zin_4)
      exact ⟨(c0, i0), fun q hq => by cases hq; exact h⟩
    | 5 =>
      obtain ⟨c0, i0, h⟩ := u_known (C := RX5) (T := TX5) (N := 4) (n := 4) hts uvX5 (hts _ zin_5)
      exact ⟨(c0, i0), fun q hq => by cases hq; exact h⟩
    | 6 =>
      obtain ⟨c0, i0, h⟩ := u_known (C := RX6) (T := TX6) (N := 20) (n := 20) hts uvX6 (hts _ zin_6)
      exact ⟨(c0, i0), fun q hq => by cases hq; exact h⟩
    | 7 =>
      obtain ⟨c0, i0, h⟩ := u_known (C := RX7) (T := TX7) (N := 7) (n := 7) hts uvX7 (hts _ zin_7)
      exact ⟨(c0, i0), fun q hq => by cases hq; exact h⟩
    | 8 =>
      obtain ⟨c0, i0, h⟩ := u_known (C := RX8) (T := TX8) (N := 6) (n := 6) hts uvX8 (hts _ zin_8)
      exact ⟨(c0, i0), fun q hq => by cases hq; exact h⟩
    | 9 =>
      obtain ⟨c0, i0, h⟩ := u_known (C := RX9) (T := TX9) (N := 8) (n := 8) hts uvX9 (hts _ zin_9)
      exact ⟨(c0, i0), fun q hq => by cases hq; exact h⟩
    | 10 =>
      obtain ⟨c0, i0, h⟩ := u_known (C := RX10) (T := TX10) (N := 2) (n := 2) hts uvX10 (hts _ zin_10)
      exact ⟨(c0, i0), fun q hq => by cases hq; exact h⟩
    | 11 =>
      obtain ⟨c0, i0, h⟩ := u_known (C := RX11) (T := TX11) (N := 9) (n := 9) hts uvX11 (hts _ zin_11)
      exact ⟨(c0, i0), fun q hq => by cases hq; exact h⟩
    | 12 =>
      obtain ⟨c0, i0, h⟩ := u_known (C := RX12) (T := TX12) (N := 119) (n := 119) hts uvX12 (hts _ zin_12)
      exact ⟨(c0, i0), fun q hq => by cases hq; exact h⟩
    | c + 13 => exact ⟨(0, fun _ => 0), fun q hq => by simp [zcl] at hq⟩
  obtain ⟨f, hf⟩ := Classical.axiomOfChoice h0
  exact ⟨(fun c => (f c).1, fun c => (f c).2), hf⟩
theorem zKa {s : State} {args : Array Value} (hts : ∀ v ∈ lw_tbl, v.before args s = true) : ∃ cA : Nat → ClassId, ∀ (k : Nat) (q : ClassId × FieldType), (ztys cA)[k]? = some q → ArrOfT s q.1 q.2 ∧ va_RA s q.1 q.2 := by
  obtain ⟨c0, a0, b0⟩ := zarrP (ty := .int) (hts _ (zh1 84 rfl))
  obtain ⟨c1, a1, b1⟩ := zarrP (ty := .byte) (hts _ (zh1 83 rfl))
  obtain ⟨c2, a2, b2⟩ := zarrP (ty := .boolean) (hts _ (zh1 142 rfl))
  obtain ⟨c3, a3, b3⟩ := zarrP (ty := .long) (hts _ (zh2 189 rfl))
  obtain ⟨c4, a4, b4⟩ := zarrO (C := RX4) (hts _ (zh1 40 rfl))
  obtain ⟨c5, a5, b5⟩ := zarrO (C := RX7) (hts _ (zh1 115 rfl))
  obtain ⟨c6, a6, b6⟩ := zarrO (C := RX2) (hts _ (zh2 51 rfl))
  obtain ⟨c7, a7, b7⟩ := zarrA (hts _ (zh1 42 rfl))
  refine ⟨fun k => [c0, c1, c2, c3, c4, c5, c6, c7].getD k 0, fun k q hq => ?_⟩
  match k, hq with
  | 0, hq => cases hq; exact ⟨a0, b0⟩
  | 1, hq => cases hq; exact ⟨a1, b1⟩
  | 2, hq => cases hq; exact ⟨a2, b2⟩
  | 3, hq => cases hq; exact ⟨a3, b3⟩
  | 4, hq => cases hq; exact ⟨a4, b4⟩
  | 5, hq => cases hq; exact ⟨a5, b5⟩
  | 6, hq => cases hq; exact ⟨a6, b6⟩
  | 7, hq => cases hq; exact ⟨a7, b7⟩
  | k + 8, hq => simp [ztys] at hq
def zTm (i : Nat) : Term := match i with
  | 0 => .string "HideSets$Source" 73
  | 1 => .string "HideSets$Page" 73
  | 2 => .string "HideSets$Page" 79
  | 3 => .string "HideSets$Page" 81
  | 4 => .string "HideSets$Page" 83
  | 5 => .string "HideSets$Page" 85
  | 6 => .string "HideSets$Page" 87
  | 7 => .string "HideSets$Runner" 288
  | 8 => .string "HideSets$Runner" 296
  | _ => .string "HideSets$Runner" 301
theorem zx_ex : ∀ i : Nat, i < 10 → (Cond.exactly (zTm i) "java/lang/String") ∈ flatC (Jvm.Cond.and given_1 narrow_1) := by decide +kernel
theorem zx_co : ∀ i : Nat, i < 10 → (Cond.eq (.field (zTm i) "java/lang/String" "coder" "B") (.int 0)) ∈ flatC (Jvm.Cond.and given_1 narrow_1) := by decide +kernel
theorem zx_ar : ∀ i : Nat, i < 10 → (Cond.arrayOf (.field (zTm i) "java/lang/String" "value" "[B") .byte) ∈ flatC (Jvm.Cond.and given_1 narrow_1) := by decide +kernel
theorem zx_le : ∀ i : Nat, i < 10 → (Cond.eq (.length (.field (zTm i) "java/lang/String" "value" "[B")) (.int (Int32.ofNat (zTxl.getD i 0)))) ∈ flatC (Jvm.Cond.and given_1 narrow_1) := by decide +kernel
theorem zx_el : ∀ i : Nat, i < 10 → ∀ j : Nat, j < zTxl.getD i 0 → (Cond.eq (.elem (.field (zTm i) "java/lang/String" "value" "[B") (.int (Int32.ofNat j))) (.int ((zTxb.getD i []).getD j 0))) ∈ flatC (Jvm.Cond.and given_1 narrow_1) := by decide +kernel
theorem zn_0_1 : (Cond.not (Cond.eq (zTm 1) (zTm 0))) ∈ flatC (Jvm.Cond.and given_1 narrow_1) := List.mem_of_getElem? (i := 211) (by decide +kernel)
theorem zn_0_2 : (Cond.not (Cond.eq (zTm 2) (zTm 0))) ∈ flatC (Jvm.Cond.and given_1 narrow_1) := List.mem_of_getElem? (i := 212) (by decide +kernel)
theorem zn_0_3 : (Cond.not (Cond.eq (zTm 3) (zTm 0))) ∈ flatC (Jvm.Cond.and given_1 narrow_1) := List.mem_of_getElem? (i := 213) (by decide +kernel)
theorem zn_0_4 : (Cond.not (Cond.eq (zTm 4) (zTm 0))) ∈ flatC (Jvm.Cond.and given_1 narrow_1) := List.mem_of_getElem? (i := 214) (by decide +kernel)
theorem zn_0_5 : (Cond.not (Cond.eq (zTm 5) (zTm 0))) ∈ flatC (Jvm.Cond.and given_1 narrow_1) := List.mem_of_getElem? (i := 215) (by decide +kernel)
theorem zn_0_6 : (Cond.not (Cond.eq (zTm 6) (zTm 0))) ∈ flatC (Jvm.Cond.and given_1 narrow_1) := List.mem_of_getElem? (i := 216) (by decide +kernel)
theorem zn_0_7 : (Cond.not (Cond.eq (zTm 0) (zTm 7))) ∈ flatC (Jvm.Cond.and given_1 narrow_1) := List.mem_of_getElem? (i := 233) (by decide +kernel)
theorem zn_0_8 : (Cond.not (Cond.eq (zTm 0) (zTm 8))) ∈ flatC (Jvm.Cond.and given_1 narrow_1) := List.mem_of_getElem? (i := 268) (by decide +kernel)
theorem zn_0_9 : (Cond.not (Cond.eq (zTm 0) (zTm 9))) ∈ flatC (Jvm.Cond.and given_1 narrow_1) := List.mem_of_getElem? (i := 288) (by decide +kernel)
theorem zx_ne_0 : ∀ j : Nat, j < 10 → 0 ≠ j → (Cond.not (Cond.eq (zTm 0) (zTm j))) ∈ flatC (Jvm.Cond.and given_1 narrow_1) ∨ (Cond.not (Cond.eq (zTm j) (zTm 0))) ∈ flatC (Jvm.Cond.and given_1 narrow_1) := by
  intro j hj hij
  match j, hij with
  | 0, hij => exact absurd rfl hij
  | 1, hij => exact Or.inr zn_0_1
  | 2, hij => exact Or.inr zn_0_2
  | 3, hij => exact Or.inr zn_0_3
  | 4, hij => exact Or.inr zn_0_4
  | 5, hij => exact Or.inr zn_0_5
  | 6, hij => exact Or.inr zn_0_6
  | 7, hij => exact Or.inl zn_0_7
  | 8, hij => exact Or.inl zn_0_8
  | 9, hij => exact Or.inl zn_0_9
  | j + 10, hij => exact absurd hj (by omega)
theorem zn_1_2 : (Cond.not (Cond.eq (zTm 1) (zTm 2))) ∈ flatC (Jvm.Cond.and given_1 narrow_1) := List.mem_of_getElem? (i := 150) (by decide +kernel)
theorem zn_1_3 : (Cond.not (Cond.eq (zTm 1) (zTm 3))) ∈ flatC (Jvm.Cond.and given_1 narrow_1) := List.mem_of_getElem? (i := 161) (by decide +kernel)
theorem zn_1_4 : (Cond.not (Cond.eq (zTm 1) (zTm 4))) ∈ flatC (Jvm.Cond.and given_1 narrow_1) := List.mem_of_getElem? (i := 171) (by decide +kernel)
theorem zn_1_5 : (Cond.not (Cond.eq (zTm 1) (zTm 5))) ∈ flatC (Jvm.Cond.and given_1 narrow_1) := List.mem_of_getElem? (i := 182) (by decide +kernel)
theorem zn_1_6 : (Cond.not (Cond.eq (zTm 1) (zTm 6))) ∈ flatC (Jvm.Cond.and given_1 narrow_1) := List.mem_of_getElem? (i := 195) (by decide +kernel)
theorem zn_1_7 : (Cond.not (Cond.eq (zTm 1) (zTm 7))) ∈ flatC (Jvm.Cond.and given_1 narrow_1) := List.mem_of_getElem? (i := 227) (by decide +kernel)
theorem zn_1_8 : (Cond.not (Cond.eq (zTm 1) (zTm 8))) ∈ flatC (Jvm.Cond.and given_1 narrow_1) := List.mem_of_getElem? (i := 262) (by decide +kernel)
theorem zn_1_9 : (Cond.not (Cond.eq (zTm 1) (zTm 9))) ∈ flatC (Jvm.Cond.and given_1 narrow_1) := List.mem_of_getElem? (i := 282) (by decide +kernel)
theorem zx_ne_1 : ∀ j : Nat, j < 10 → 1 ≠ j → (Cond.not (Cond.eq (zTm 1) (zTm j))) ∈ flatC (Jvm.Cond.and given_1 narrow_1) ∨ (Cond.not (Cond.eq (zTm j) (zTm 1))) ∈ flatC (Jvm.Cond.and given_1 narrow_1) := by
  intro j hj hij
  match j, hij with
  | 0, hij => exact Or.inl zn_0_1
  | 1, hij => exact absurd rfl hij
  | 2, hij => exact Or.inl zn_1_2
  | 3, hij => exact Or.inl zn_1_3
  | 4, hij => exact Or.inl zn_1_4
  | 5, hij => exact Or.inl zn_1_5
  | 6, hij => exact Or.inl zn_1_6
  | 7, hij => exact Or.inl zn_1_7
  | 8, hij => exact Or.inl zn_1_8
  | 9, hij => exact Or.inl zn_1_9
  | j + 10, hij => exact absurd hj (by omega)
theorem zn_2_3 : (Cond.not (Cond.eq (zTm 2) (zTm 3))) ∈ flatC (Jvm.Cond.and given_1 narrow_1) := List.mem_of_getElem? (i := 162) (by decide +kernel)
theorem zn_2_4 : (Cond.not (Cond.eq (zTm 2) (zTm 4))) ∈ flatC (Jvm.Cond.and given_1 narrow_1) := List.mem_of_getElem? (i := 172) (by decide +kernel)
theorem zn_2_5 : (Cond.not (Cond.eq (zTm 2) (zTm 5))) ∈ flatC (Jvm.Cond.and given_1 narrow_1) := List.mem_of_getElem? (i := 183) (by decide +kernel)
theorem zn_2_6 : (Cond.not (Cond.eq (zTm 2) (zTm 6))) ∈ flatC (Jvm.Cond.and given_1 narrow_1) := List.mem_of_getElem? (i := 196) (by decide +kernel)
theorem zn_2_7 : (Cond.not (Cond.eq (zTm 2) (zTm 7))) ∈ flatC (Jvm.Cond.and given_1 narrow_1) := List.mem_of_getElem? (i := 228) (by decide +kernel)
theorem zn_2_8 : (Cond.not (Cond.eq (zTm 2) (zTm 8))) ∈ flatC (Jvm.Cond.and given_1 narrow_1) := List.mem_of_getElem? (i := 263) (by decide +kernel)
theorem zn_2_9 : (Cond.not (Cond.eq (zTm 2) (zTm 9))) ∈ flatC (Jvm.Cond.and given_1 narrow_1) := List.mem_of_getElem? (i := 283) (by decide +kernel)
theorem zx_ne_2 : ∀ j : Nat, j < 10 → 2 ≠ j → (Cond.not (Cond.eq (zTm 2) (zTm j))) ∈ flatC (Jvm.Cond.and given_1 narrow_1) ∨ (Cond.not (Cond.eq (zTm j) (zTm 2))) ∈ flatC (Jvm.Cond.and given_1 narrow_1) := by
  intro j hj hij
  match j, hij with
  | 0, hij => exact Or.inl zn_0_2
  | 1, hij => exact Or.inr zn_1_2
  | 2, hij => exact absurd rfl hij
  | 3, hij => exact Or.inl zn_2_3
  | 4, hij => exact Or.inl zn_2_4
  | 5, hij => exact Or.inl zn_2_5
  | 6, hij => exact Or.inl zn_2_6
  | 7, hij => exact Or.inl zn_2_7
  | 8, hij => exact Or.inl zn_2_8
  | 9, hij => exact Or.inl zn_2_9
  | j + 10, hij => exact absurd hj (by omega)
theorem zn_3_4 : (Cond.not (Cond.eq (zTm 3) (zTm 4))) ∈ flatC (Jvm.Cond.and given_1 narrow_1) := List.mem_of_getElem? (i := 173) (by decide +kernel)
theorem zn_3_5 : (Cond.not (Cond.eq (zTm 3) (zTm 5))) ∈ flatC (Jvm.Cond.and given_1 narrow_1) := List.mem_of_getElem? (i := 184) (by decide +kernel)
theorem zn_3_6 : (Cond.not (Cond.eq (zTm 3) (zTm 6))) ∈ flatC (Jvm.Cond.and given_1 narrow_1) := List.mem_of_getElem? (i := 197) (by decide +kernel)
theorem zn_3_7 : (Cond.not (Cond.eq (zTm 3) (zTm 7))) ∈ flatC (Jvm.Cond.and given_1 narrow_1) := List.mem_of_getElem? (i := 229) (by decide +kernel)
theorem zn_3_8 : (Cond.not (Cond.eq (zTm 3) (zTm 8))) ∈ flatC (Jvm.Cond.and given_1 narrow_1) := List.mem_of_getElem? (i := 264) (by decide +kernel)
theorem zn_3_9 : (Cond.not (Cond.eq (zTm 3) (zTm 9))) ∈ flatC (Jvm.Cond.and given_1 narrow_1) := List.mem_of_getElem? (i := 284) (by decide +kernel)
theorem zx_ne_3 : ∀ j : Nat, j < 10 → 3 ≠ j → (Cond.not (Cond.eq (zTm 3) (zTm j))) ∈ flatC (Jvm.Cond.and given_1 narrow_1) ∨ (Cond.not (Cond.eq (zTm j) (zTm 3))) ∈ flatC (Jvm.Cond.and given_1 narrow_1) := by
  intro j hj hij
  match j, hij with
  | 0, hij => exact Or.inl zn_0_3
  | 1, hij => exact Or.inr zn_1_3
  | 2, hij => exact Or.inr zn_2_3
  | 3, hij => exact absurd rfl hij
  | 4, hij => exact Or.inl zn_3_4
  | 5, hij => exact Or.inl zn_3_5
  | 6, hij => exact Or.inl zn_3_6
  | 7, hij => exact Or.inl zn_3_7
  | 8, hij => exact Or.inl zn_3_8
  | 9, hij => exact Or.inl zn_3_9
  | j + 10, hij => exact absurd hj (by omega)
theorem zn_4_5 : (Cond.not (Cond.eq (zTm 4) (zTm 5))) ∈ flatC (Jvm.Cond.and given_1 narrow_1) := List.mem_of_getElem? (i := 185) (by decide +kernel)
theorem zn_4_6 : (Cond.not (Cond.eq (zTm 4) (zTm 6))) ∈ flatC (Jvm.Cond.and given_1 narrow_1) := List.mem_of_getElem? (i := 198) (by decide +kernel)
theorem zn_4_7 : (Cond.not (Cond.eq (zTm 4) (zTm 7))) ∈ flatC (Jvm.Cond.and given_1 narrow_1) := List.mem_of_getElem? (i := 230) (by decide +kernel)
theorem zn_4_8 : (Cond.not (Cond.eq (zTm 4) (zTm 8))) ∈ flatC (Jvm.Cond.and given_1 narrow_1) := List.mem_of_getElem? (i := 265) (by decide +kernel)
theorem zn_4_9 : (Cond.not (Cond.eq (zTm 4) (zTm 9))) ∈ flatC (Jvm.Cond.and given_1 narrow_1) := List.mem_of_getElem? (i := 285) (by decide +kernel)
theorem zx_ne_4 : ∀ j : Nat, j < 10 → 4 ≠ j → (Cond.not (Cond.eq (zTm 4) (zTm j))) ∈ flatC (Jvm.Cond.and given_1 narrow_1) ∨ (Cond.not (Cond.eq (zTm j) (zTm 4))) ∈ flatC (Jvm.Cond.and given_1 narrow_1) := by
  intro j hj hij
  match j, hij with
  | 0, hij => exact Or.inl zn_0_4
  | 1, hij => exact Or.inr zn_1_4
  | 2, hij => exact Or.inr zn_2_4
  | 3, hij => exact Or.inr zn_3_4
  | 4, hij => exact absurd rfl hij
  | 5, hij => exact Or.inl zn_4_5
  | 6, hij => exact Or.inl zn_4_6
  | 7, hij => exact Or.inl zn_4_7
  | 8, hij => exact Or.inl zn_4_8
  | 9, hij => exact Or.inl zn_4_9
  | j + 10, hij => exact absurd hj (by omega)
theorem zn_5_6 : (Cond.not (Cond.eq (zTm 5) (zTm 6))) ∈ flatC (Jvm.Cond.and given_1 narrow_1) := List.mem_of_getElem? (i := 199) (by decide +kernel)
theorem zn_5_7 : (Cond.not (Cond.eq (zTm 5) (zTm 7))) ∈ flatC (Jvm.Cond.and given_1 narrow_1) := List.mem_of_getElem? (i := 231) (by decide +kernel)
theorem zn_5_8 : (Cond.not (Cond.eq (zTm 5) (zTm 8))) ∈ flatC (Jvm.Cond.and given_1 narrow_1) := List.mem_of_getElem? (i := 266) (by decide +kernel)
theorem zn_5_9 : (Cond.not (Cond.eq (zTm 5) (zTm 9))) ∈ flatC (Jvm.Cond.and given_1 narrow_1) := List.mem_of_getElem? (i := 286) (by decide +kernel)
theorem zx_ne_5 : ∀ j : Nat, j < 10 → 5 ≠ j → (Cond.not (Cond.eq (zTm 5) (zTm j))) ∈ flatC (Jvm.Cond.and given_1 narrow_1) ∨ (Cond.not (Cond.eq (zTm j) (zTm 5))) ∈ flatC (Jvm.Cond.and given_1 narrow_1) := by
  intro j hj hij
  match j, hij with
  | 0, hij => exact Or.inl zn_0_5
  | 1, hij => exact Or.inr zn_1_5
  | 2, hij => exact Or.inr zn_2_5
  | 3, hij => exact Or.inr zn_3_5
  | 4, hij => exact Or.inr zn_4_5
  | 5, hij => exact absurd rfl hij
  | 6, hij => exact Or.inl zn_5_6
  | 7, hij => exact Or.inl zn_5_7
  | 8, hij => exact Or.inl zn_5_8
  | 9, hij => exact Or.inl zn_5_9
  | j + 10, hij => exact absurd hj (by omega)
theorem zn_6_7 : (Cond.not (Cond.eq (zTm 6) (zTm 7))) ∈ flatC (Jvm.Cond.and given_1 narrow_1) := List.mem_of_getElem? (i := 232) (by decide +kernel)
theorem zn_6_8 : (Cond.not (Cond.eq (zTm 6) (zTm 8))) ∈ flatC (Jvm.Cond.and given_1 narrow_1) := List.mem_of_getElem? (i := 267) (by decide +kernel)
theorem zn_6_9 : (Cond.not (Cond.eq (zTm 6) (zTm 9))) ∈ flatC (Jvm.Cond.and given_1 narrow_1) := List.mem_of_getElem? (i := 287) (by decide +kernel)
theorem zx_ne_6 : ∀ j : Nat, j < 10 → 6 ≠ j → (Cond.not (Cond.eq (zTm 6) (zTm j))) ∈ flatC (Jvm.Cond.and given_1 narrow_1) ∨ (Cond.not (Cond.eq (zTm j) (zTm 6))) ∈ flatC (Jvm.Cond.and given_1 narrow_1) := by
  intro j hj hij
  match j, hij with
  | 0, hij => exact Or.inl zn_0_6
  | 1, hij => exact Or.inr zn_1_6
  | 2, hij => exact Or.inr zn_2_6
  | 3, hij => exact Or.inr zn_3_6
  | 4, hij => exact Or.inr zn_4_6
  | 5, hij => exact Or.inr zn_5_6
  | 6, hij => exact absurd rfl hij
  | 7, hij => exact Or.inl zn_6_7
  | 8, hij => exact Or.inl zn_6_8
  | 9, hij => exact Or.inl zn_6_9
  | j + 10, hij => exact absurd hj (by omega)
theorem zn_7_8 : (Cond.not (Cond.eq (zTm 7) (zTm 8))) ∈ flatC (Jvm.Cond.and given_1 narrow_1) := List.mem_of_getElem? (i := 269) (by decide +kernel)
theorem zn_7_9 : (Cond.not (Cond.eq (zTm 7) (zTm 9))) ∈ flatC (Jvm.Cond.and given_1 narrow_1) := List.mem_of_getElem? (i := 289) (by decide +kernel)
theorem zx_ne_7 : ∀ j : Nat, j < 10 → 7 ≠ j → (Cond.not (Cond.eq (zTm 7) (zTm j))) ∈ flatC (Jvm.Cond.and given_1 narrow_1) ∨ (Cond.not (Cond.eq (zTm j) (zTm 7))) ∈ flatC (Jvm.Cond.and given_1 narrow_1) := by
  intro j hj hij
  match j, hij with
  | 0, hij => exact Or.inr zn_0_7
  | 1, hij => exact Or.inr zn_1_7
  | 2, hij => exact Or.inr zn_2_7
  | 3, hij => exact Or.inr zn_3_7
  | 4, hij => exact Or.inr zn_4_7
  | 5, hij => exact Or.inr zn_5_7
  | 6, hij => exact Or.inr zn_6_7
  | 7, hij => exact absurd rfl hij
  | 8, hij => exact Or.inl zn_7_8
  | 9, hij => exact Or.inl zn_7_9
  | j + 10, hij => exact absurd hj (by omega)
theorem zn_8_9 : (Cond.not (Cond.eq (zTm 8) (zTm 9))) ∈ flatC (Jvm.Cond.and given_1 narrow_1) := List.mem_of_getElem? (i := 291) (by decide +kernel)
theorem zx_ne_8 : ∀ j : Nat, j < 10 → 8 ≠ j → (Cond.not (Cond.eq (zTm 8) (zTm j))) ∈ flatC (Jvm.Cond.and given_1 narrow_1) ∨ (Cond.not (Cond.eq (zTm j) (zTm 8))) ∈ flatC (Jvm.Cond.and given_1 narrow_1) := by
  intro j hj hij
  match j, hij with
  | 0, hij => exact Or.inr zn_0_8
  | 1, hij => exact Or.inr zn_1_8
  | 2, hij => exact Or.inr zn_2_8
  | 3, hij => exact Or.inr zn_3_8
  | 4, hij => exact Or.inr zn_4_8
  | 5, hij => exact Or.inr zn_5_8
  | 6, hij => exact Or.inr zn_6_8
  | 7, hij => exact Or.inr zn_7_8
  | 8, hij => exact absurd rfl hij
  | 9, hij => exact Or.inl zn_8_9
  | j + 10, hij => exact absurd hj (by omega)
theorem zx_ne_9 : ∀ j : Nat, j < 10 → 9 ≠ j → (Cond.not (Cond.eq (zTm 9) (zTm j))) ∈ flatC (Jvm.Cond.and given_1 narrow_1) ∨ (Cond.not (Cond.eq (zTm j) (zTm 9))) ∈ flatC (Jvm.Cond.and given_1 narrow_1) := by
  intro j hj hij
  match j, hij with
  | 0, hij => exact Or.inr zn_0_9
  | 1, hij => exact Or.inr zn_1_9
  | 2, hij => exact Or.inr zn_2_9
  | 3, hij => exact Or.inr zn_3_9
  | 4, hij => exact Or.inr zn_4_9
  | 5, hij => exact Or.inr zn_5_9
  | 6, hij => exact Or.inr zn_6_9
  | 7, hij => exact Or.inr zn_7_9
  | 8, hij => exact Or.inr zn_8_9
  | 9, hij => exact absurd rfl hij
  | j + 10, hij => exact absurd hj (by omega)
theorem zx_ne : ∀ i : Nat, i < 10 → ∀ j : Nat, j < 10 → i ≠ j → (Cond.not (Cond.eq (zTm i) (zTm j))) ∈ flatC (Jvm.Cond.and given_1 narrow_1) ∨ (Cond.not (Cond.eq (zTm j) (zTm i))) ∈ flatC (Jvm.Cond.and given_1 narrow_1) := by
  intro i hi
  match i with
  | 0 => exact zx_ne_0
  | 1 => exact zx_ne_1
  | 2 => exact zx_ne_2
  | 3 => exact zx_ne_3
  | 4 => exact zx_ne_4
  | 5 => exact zx_ne_5
  | 6 => exact zx_ne_6
  | 7 => exact zx_ne_7
  | 8 => exact zx_ne_8
  | 9 => exact zx_ne_9
  | i + 10 => exact absurd hi (by omega)
theorem zx_DEFINED : (Cond.arrayOf (.static "HideSetsModel" "DEFINED" "[B") .byte) ∈ flatC (Jvm.Cond.and given_1 narrow_1) ∧ (Cond.eq (.length (.static "HideSetsModel" "DEFINED" "[B")) (.int (Int32.ofNat 7))) ∈ flatC (Jvm.Cond.and given_1 narrow_1) := by decide +kernel
theorem zy_DEFINED : ∀ j : Nat, j < 7 → (Cond.eq (.elem (.static "HideSetsModel" "DEFINED" "[B") (.int (Int32.ofNat j))) (.int (zDef.getD j 0))) ∈ flatC (Jvm.Cond.and given_1 narrow_1) := by decide +kernel
theorem zx_WORDS : (Cond.arrayOf (.static "HideSetsModel" "WORDS" "[B") .byte) ∈ flatC (Jvm.Cond.and given_1 narrow_1) ∧ (Cond.eq (.length (.static "HideSetsModel" "WORDS" "[B")) (.int (Int32.ofNat 53))) ∈ flatC (Jvm.Cond.and given_1 narrow_1) := by decide +kernel
theorem zy_WORDS : ∀ j : Nat, j < 53 → (Cond.eq (.elem (.static "HideSetsModel" "WORDS" "[B") (.int (Int32.ofNat j))) (.int (zWrd.getD j 0))) ∈ flatC (Jvm.Cond.and given_1 narrow_1) := by decide +kernel
theorem zx_CS : (Cond.eq (.static "java/lang/String" "COMPACT_STRINGS" "Z") (.int 1)) ∈ flatC (Jvm.Cond.and given_1 narrow_1) ∧ (Cond.isRef (.static "jdk/internal/util/Preconditions" "SIOOBE_FORMATTER" "Ljava/util/function/BiFunction;")) ∈ flatC (Jvm.Cond.and given_1 narrow_1) ∧ (Cond.isRef (.static "java/lang/Throwable" "UNASSIGNED_STACK" "[Ljava/lang/StackTraceElement;")) ∈ flatC (Jvm.Cond.and given_1 narrow_1) ∧ (Cond.isRef (.static "java/lang/Throwable" "SUPPRESSED_SENTINEL" "Ljava/util/List;")) ∈ flatC (Jvm.Cond.and given_1 narrow_1) := by decide +kernel
theorem zx_Macros_146 : (Cond.eq (.string "HideSets$Source" 73) (.string "HideSets$Macros" 146)) ∈ flatC (Jvm.Cond.and given_1 narrow_1) := by decide +kernel
theorem zx_Runner_306 : (Cond.eq (.string "HideSets$Page" 73) (.string "HideSets$Runner" 306)) ∈ flatC (Jvm.Cond.and given_1 narrow_1) := by decide +kernel
theorem zx_Runner_308 : (Cond.eq (.string "HideSets$Page" 83) (.string "HideSets$Runner" 308)) ∈ flatC (Jvm.Cond.and given_1 narrow_1) := by decide +kernel
theorem zx_Runner_357 : (Cond.eq (.string "HideSets$Source" 73) (.string "HideSets$Runner" 357)) ∈ flatC (Jvm.Cond.and given_1 narrow_1) := by decide +kernel
theorem zx_Runner_313 : (Cond.eq (.string "HideSets$Page" 79) (.string "HideSets$Runner" 313)) ∈ flatC (Jvm.Cond.and given_1 narrow_1) := by decide +kernel
theorem zx_Runner_319 : (Cond.eq (.string "HideSets$Page" 81) (.string "HideSets$Runner" 319)) ∈ flatC (Jvm.Cond.and given_1 narrow_1) := by decide +kernel
theorem zx_Runner_321 : (Cond.eq (.string "HideSets$Page" 85) (.string "HideSets$Runner" 321)) ∈ flatC (Jvm.Cond.and given_1 narrow_1) := by decide +kernel
theorem zx_Runner_326 : (Cond.eq (.string "HideSets$Page" 87) (.string "HideSets$Runner" 326)) ∈ flatC (Jvm.Cond.and given_1 narrow_1) := by decide +kernel
theorem zWorld (l : Launch) (hflags : l.flags = flags0) {s : State} {args : Array Value} (hts : ∀ v ∈ lw_tbl, v.before args s = true) (hgv : (Jvm.Cond.and given_1 narrow_1).before args s = true) : ∃ w : zWp, w.1 = l ∧ w.2.1 = s.heap.size ∧ zKn w s ∧ zS w s s.heap := by
  have hs := flat_of_before _ hgv
  have htg : ∀ v ∈ lw_g, v.before args s = true := fun v h => hts v (List.mem_filter.mp h).1
  obtain ⟨D, hD⟩ := zKc htg
  obtain ⟨cA, hA⟩ := zKa hts
  have hAA : ∀ a : Nat, a < s.heap.size → ¬ (fun q : Nat => s.heap.size ≤ q) a := fun a h => Nat.not_le.mpr h
  obtain ⟨adK, adV, hvS, hev⟩ := vk_Sof (args := args) (s := s) (N := 10) (tm := zTm) (len := zTxl) (byt := zTxb) (A := fun q : Nat => s.heap.size ≤ q) (by decide) (fun i hi => hs _ (zx_ex i hi)) (fun i hi => hs _ (zx_co i hi)) (fun i hi => hs _ (zx_ar i hi)) (fun i hi => hs _ (zx_le i hi)) (fun i hi j hj => hs _ (zx_el i hi j hj)) (fun i j hi hj hij => (zx_ne i hi j hj hij).elim (fun h => Or.inl (hs _ h)) (fun h => Or.inr (hs _ h))) hAA
  obtain ⟨t0, e0, hT0⟩ := va_Tof (args := args) (s := s) (tm := .static "HideSetsModel" "DEFINED" "[B") (ty := .byte) (N := 7) (f := fun j => .int (zDef.getD j 0)) (A := fun q : Nat => s.heap.size ≤ q) (by decide) (hs _ zx_DEFINED.1) (va_eqt (hs _ zx_DEFINED.2)) (fun j hj => va_eqt (hs _ (zy_DEFINED j hj))) hAA
  obtain ⟨t1, e1, hT1⟩ := va_Tof (args := args) (s := s) (tm := .static "HideSetsModel" "WORDS" "[B") (ty := .byte) (N := 53) (f := fun j => .int (zWrd.getD j 0)) (A := fun q : Nat => s.heap.size ≤ q) (by decide) (hs _ zx_WORDS.1) (va_eqt (hs _ zx_WORDS.2)) (fun j hj => va_eqt (hs _ (zy_WORDS j hj))) hAA
  refine ⟨(l, s.heap.size, D, cA, fun k => if k < 100 then adK k else if k < 200 then adV (k - 100) else if k = 200 then t0 else t1), rfl, rfl, ⟨hD, hA⟩, ⟨?_, ?_⟩⟩
  · refine ⟨va_Zof (hts _ (zh8 113 rfl)) (hts _ (zh1 12 rfl)) e0 hAA, va_Zof (hts _ (zh8 179 rfl)) (hts _ (zh1 12 rfl)) e1 hAA, hT0, hT1, ⟨fun i hi => ?_, fun i j hi hj h => ?_⟩, va_Zof (hts _ (zh3 121 rfl)) (hts _ (zh1 13 rfl)) (va_eqt (hs _ zx_CS.1)) hAA, vx_Zqof (hts _ (zh6 129 rfl)) (hts _ (zh1 20 rfl)) (hs _ zx_CS.2.2.1) hAA, vx_Zqof (hts _ (zh6 131 rfl)) (hts _ (zh1 20 rfl)) (hs _ zx_CS.2.2.2) hAA, va_Zqof (hts _ (zh3 137 rfl)) (hts _ (zh1 15 rfl)) (hs _ zx_CS.2.1) hAA⟩
    · have q1 : i < 100 := by omega
      have q2 : ¬ 100 + i < 100 := by omega
      have q3 : 100 + i < 200 := by omega
      have q4 : 100 + i - 100 = i := by omega
      have h := hvS.1 i hi
      show va_O "java/lang/String" (if i < 100 then adK i else _) _ _ _ ∧ va_OF _ _ _ _ (if i < 100 then adK i else _) _ _ _ ∧ va_OF _ _ _ (.ref (if 100 + i < 100 then adK (100 + i) else if 100 + i < 200 then adV (100 + i - 100) else _)) (if i < 100 then adK i else _) _ _ _ ∧ va_T _ (if 100 + i < 100 then adK (100 + i) else if 100 + i < 200 then adV (100 + i - 100) else _) _ _ _ _ _
      simp only [if_pos q1, if_neg q2, if_pos q3, q4]
      exact h
    · have q1 : i < 100 := by omega
      have q2 : j < 100 := by omega
      have h2 : (if i < 100 then adK i else if i < 200 then adV (i - 100) else if i = 200 then t0 else t1) = (if j < 100 then adK j else if j < 200 then adV (j - 100) else if j = 200 then t0 else t1) := h
      rw [if_pos q1, if_pos q2] at h2
      exact hvS.2 i j hi hj h2
  · refine ⟨zfa_c ⟨"if", vk_R.of (A := args) (hts _ (zh3 108 rfl)) (hev 1 (by decide))⟩ (zfa_c ⟨"ifdef", vk_R.of (A := args) (hts _ (zh3 160 rfl)) (hev 2 (by decide))⟩ (zfa_c ⟨"ifndef", vk_R.of (A := args) (hts _ (zh3 161 rfl)) (hev 3 (by decide))⟩ (zfa_c ⟨"elif", vk_R.of (A := args) (hts _ (zh3 162 rfl)) (hev 4 (by decide))⟩ (zfa_c ⟨"else", vk_R.of (A := args) (hts _ (zh3 163 rfl)) (hev 5 (by decide))⟩ (zfa_c ⟨"endif", vk_R.of (A := args) (hts _ (zh3 164 rfl)) (hev 6 (by decide))⟩ (zfa_c ⟨"defined", vk_R.of (A := args) (hts _ (zh3 206 rfl)) (hev 0 (by decide))⟩ (zfa_c ⟨"define", vk_R.of (A := args) (hts _ (zh4 132 rfl)) (hev 7 (by decide))⟩ (zfa_c ⟨"defined", vk_R.of (A := args) (hts _ (zh4 159 rfl)) (zeqR (hs _ zx_Macros_146) (hev 0 (by decide)))⟩ (zfa_c ⟨"undef", vk_R.of (A := args) (hts _ (zh4 192 rfl)) (hev 8 (by decide))⟩ (zfa_c ⟨"include", vk_R.of (A := args) (hts _ (zh4 209 rfl)) (hev 9 (by decide))⟩ (zfa_c ⟨"if", vk_R.of (A := args) (hts _ (zh4 218 rfl)) (zeqR (hs _ zx_Runner_306) (hev 1 (by decide)))⟩ (zfa_c ⟨"elif", vk_R.of (A := args) (hts _ (zh4 219 rfl)) (zeqR (hs _ zx_Runner_308) (hev 4 (by decide)))⟩ (zfa_c ⟨"defined", vk_R.of (A := args) (hts _ (zh4 224 rfl)) (zeqR (hs _ zx_Runner_357) (hev 0 (by decide)))⟩ (zfa_c ⟨"ifdef", vk_R.of (A := args) (hts _ (zh4 231 rfl)) (zeqR (hs _ zx_Runner_313) (hev 2 (by decide)))⟩ (zfa_c ⟨"ifndef", vk_R.of (A := args) (hts _ (zh5 0 rfl)) (zeqR (hs _ zx_Runner_319) (hev 3 (by decide)))⟩ (zfa_c ⟨"else", vk_R.of (A := args) (hts _ (zh5 1 rfl)) (zeqR (hs _ zx_Runner_321) (hev 5 (by decide)))⟩ (zfa_c ⟨"endif", vk_R.of (A := args) (hts _ (zh5 6 rfl)) (zeqR (hs _ zx_Runner_326) (hev 6 (by decide)))⟩ (zfa_n)))))))))))))))))), zfa_c (va_tabs (A := args) rfl rfl (hts _ (zh6 104 rfl))) (zfa_c (va_tabs (A := args) rfl rfl (hts _ (zh10 127 rfl))) (zfa_c (va_tabs (A := args) rfl rfl (hts _ (zh10 128 rfl))) (zfa_c (va_tabs (A := args) rfl rfl (hts _ (zh10 129 rfl))) (zfa_c (va_tabs (A := args) rfl rfl (hts _ (zh10 130 rfl))) (zfa_c (va_tabs (A := args) rfl rfl (hts _ (zh10 131 rfl))) (zfa_c (va_tabs (A := args) rfl rfl (hts _ (zh10 132 rfl))) (zfa_c (va_tabs (A := args) rfl rfl (hts _ (zh10 133 rfl))) (zfa_c (va_tabs (A := args) rfl rfl (hts _ (zh10 134 rfl))) (zfa_c (va_tabs (A := args) rfl rfl (hts _ (zh10 135 rfl))) (zfa_c (va_tabs (A := args) rfl rfl (hts _ (zh10 136 rfl))) (zfa_c (va_tabs (A := args) rfl rfl (hts _ (zh10 137 rfl))) (zfa_c (va_tabs (A := args) rfl rfl (hts _ (zh10 138 rfl))) (zfa_c (va_tabs (A := args) rfl rfl (hts _ (zh10 139 rfl))) (zfa_c (va_tabs (A := args) rfl rfl (hts _ (zh10 140 rfl))) (zfa_c (va_tabs (A := args) rfl rfl (hts _ (zh10 141 rfl))) (zfa_c (va_tabs (A := args) rfl rfl (hts _ (zh10 142 rfl))) (zfa_n))))))))))))))))), zfa_c (va_tabs (A := args) rfl rfl (hts _ (zh1 44 rfl))) (zfa_c (va_tabs (A := args) rfl rfl (hts _ (zh1 124 rfl))) (zfa_c (va_tabs (A := args) rfl rfl (hts _ (zh2 53 rfl))) (zfa_c (va_tabs (A := args) rfl rfl (hts _ (zh5 200 rfl))) (zfa_n)))), zfa_c (va_tabs (A := args) rfl rfl (hts _ (zh6 105 rfl))) (zfa_c (va_tabs (A := args) rfl rfl (hts _ (zh6 106 rfl))) (zfa_c (va_tabs (A := args) rfl rfl (hts _ (zh6 107 rfl))) (zfa_c (va_tabs (A := args) rfl rfl (hts _ (zh6 108 rfl))) (zfa_c (va_tabs (A := args) rfl rfl (hts _ (zh6 109 rfl))) (zfa_c (va_tabs (A := args) rfl rfl (hts _ (zh6 110 rfl))) (zfa_n)))))), ?_, zfa_c (hts _ (zh1 40 rfl)) (zfa_c (hts _ (zh1 42 rfl)) (zfa_c (hts _ (zh1 115 rfl)) (zfa_c (hts _ (zh2 51 rfl)) (zfa_n))))⟩
    show l.stackTraces = false
    unfold Launch.stackTraces
    rw [hflags]
    decide
