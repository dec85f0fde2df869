/-! what the law's start holds: statics, text constants, kinds -/
abbrev hvF : List Cond := flatC (Jvm.Cond.and given_1 narrow_1)
abbrev tmW (i : Nat) : Term := .string RX2 (wdK.getD i 0)
abbrev tmV (i : Nat) : Term := (tmW i).field "java/lang/String" "value" "[B"
abbrev tmN : Term := .static "OthersShareModel" "NAMES" "[I"
def exB : List Nat := [100, 108, 119, 128, 140, 155, 172, 186, 202, 218, 237]
def neB : List Nat := [0, 118, 126, 137, 151, 167, 180, 195, 210, 228, 246]
theorem hv_ex : ∀ i, i < 11 → hvF[exB.getD i 0]? = some (.exactly (tmW i) "java/lang/String") := by decide +kernel
theorem hv_co : ∀ i, i < 11 → hvF[exB.getD i 0 + 1]? = some (.eq ((tmW i).field "java/lang/String" "coder" "B") (.int 0)) := by decide +kernel
theorem hv_ar : ∀ i, i < 11 → hvF[exB.getD i 0 + 2]? = some (.arrayOf (tmV i) .byte) := by decide +kernel
theorem hv_le : ∀ i, i < 11 → hvF[exB.getD i 0 + 3]? = some (.eq (tmV i).length (.int (Int32.ofNat (wdN.getD i 0)))) := by decide +kernel
theorem hv_by : ∀ i, i < 11 → ∀ j, j < wdN.getD i 0 → hvF[exB.getD i 0 + 4 + j]? = some (.eq ((tmV i).elem (.int (Int32.ofNat j))) (.int ((wdL.getD i []).getD j 0))) := by decide +kernel
theorem hv_ne : ∀ j, j < 11 → ∀ i, i < j → hvF[neB.getD j 0 + i]? = some (.not (.eq (tmW i) (tmW j))) := by decide +kernel
theorem hv_nm : ∀ j, j < 88 → hvF[12 + j]? = some (.eq (tmN.elem (.int (Int32.ofNat j))) (.int (nmL.getD j 0))) := by decide +kernel
theorem hv_na : hvF[10]? = some (.arrayOf tmN .int) := by decide +kernel
theorem hv_nl : hvF[11]? = some (.eq tmN.length (.int (Int32.ofNat 88))) := by decide +kernel
theorem hv_cs : hvF[4]? = some (.eq (.static "java/lang/String" "COMPACT_STRINGS" "Z") (.int 1)) := by decide +kernel
theorem hv_si : hvF[5]? = some (.isRef (.static "jdk/internal/util/Preconditions" "SIOOBE_FORMATTER" "Ljava/util/function/BiFunction;")) := by decide +kernel
theorem tb_sr : ∀ i, i < 11 → Cond.stringRef RX2 (wdK.getD i 0) (wdS.getD i "") ∈ tables_1 := by decide +kernel
theorem gE_start {s : State} {b : Nat} (hts : ∀ w ∈ lw_tbl, w.before #[Value.ref b] s = true) (hgv : (Jvm.Cond.and given_1 narrow_1).before #[Value.ref b] s = true) : ∃ (n : Nat) (a v : Nat → Nat), ∀ D C4, gE (D, C4, n, a, v) (fun q => s.heap.size ≤ q) s s.heap := by
  have hm : ∀ (k : Nat) (w : Cond), hvF[k]? = some w → w.before #[Value.ref b] s = true := fun k w h => flat_of_before _ hgv w (List.mem_of_getElem? h)
  have ht : ∀ w ∈ tables_1, w.before #[Value.ref b] s = true := fun w h => hts w (List.mem_append_right _ h)
  have hA : ∀ a : Nat, a < s.heap.size → ¬ (fun q : Nat => s.heap.size ≤ q) a := fun a h => Nat.not_le.mpr h
  obtain ⟨n, e1, e2⟩ := va_Tof (tm := tmN) (ty := .int) (N := 88) (f := fun j => .int (nmL.getD j 0)) (A := fun q : Nat => s.heap.size ≤ q) (by decide) (hm 10 _ hv_na) (va_eqt (hm 11 _ hv_nl)) (fun j hj => va_eqt (hm (12 + j) _ (hv_nm j hj))) hA
  obtain ⟨a, v, e3, e4⟩ := vk_Sof (N := 11) (tm := tmW) (len := wdN) (byt := wdL) (A := fun q : Nat => s.heap.size ≤ q) (by decide) (fun i hi => hm _ _ (hv_ex i hi)) (fun i hi => hm _ _ (hv_co i hi)) (fun i hi => hm _ _ (hv_ar i hi)) (fun i hi => hm _ _ (hv_le i hi)) (fun i hi j hj => hm _ _ (hv_by i hi j hj)) (fun i j hi hj hij => by
    rcases Nat.lt_or_ge i j with h | h
    · exact Or.inl (hm _ _ (hv_ne j hj i h))
    · exact Or.inr (hm _ _ (hv_ne i hi j (by omega)))) hA
  refine ⟨n, a, v, fun D C4 => ⟨?_, e2, ?_, ?_, e3, fun i hi => vk_R.of (ht _ (tb_sr i hi)) (e4 i hi)⟩⟩
  · exact va_Zof (ht _ (List.mem_of_getElem? (i := 889) (by decide +kernel))) (ht _ (List.mem_of_getElem? (i := 6) (by decide +kernel))) e1 hA
  · exact va_Zof (ht _ (List.mem_of_getElem? (i := 451) (by decide +kernel))) (ht _ (List.mem_of_getElem? (i := 10) (by decide +kernel))) (va_eqi (hm 4 _ hv_cs)) hA
  · exact va_Zqof (ht _ (List.mem_of_getElem? (i := 467) (by decide +kernel))) (ht _ (List.mem_of_getElem? (i := 12) (by decide +kernel))) (hm 5 _ hv_si) hA
theorem arr_start {s : State} {b : Nat} {ty : FieldType} (h : (Cond.arrayClass ty).before #[Value.ref b] s = true) (hty : ∀ C, ty ≠ .object C) : ∃ c, ArrOfT s c ty ∧ va_RA s c ty := by
  obtain ⟨c, k, comp, h1, h2, h3⟩ := Cond.arrayClass_spec h
  refine ⟨c, fun n z => ⟨fun k h => (by cases h), k, h2, comp, h3⟩, ?_⟩
  unfold va_RA
  cases ty with
  | object C => exact absurd rfl (hty C)
  | _ => exact h1
theorem K_start {s : State} {b : Nat} (hts : ∀ w ∈ lw_tbl, w.before #[Value.ref b] s = true) : ∃ (D : va_G) (cI cJ cB cS : ClassId), va_K D vwCl [(cI, .int), (cJ, .long), (cB, .byte), (cS, .object "OthersShare$Sheet")] s := by
  have ht : ∀ w ∈ tables_1, w.before #[Value.ref b] s = true := fun w h => hts w (List.mem_append_right _ h)
  obtain ⟨c0, i0, k0⟩ := u_known (C := RX1) (T := TX1) (N := 10) (n := 10) hts inX1 (ht _ (List.mem_of_getElem? (i := 23) (by decide +kernel)))
  obtain ⟨c1, i1, k1⟩ := u_known (C := RX2) (T := TX2) (N := 5) (n := 5) hts inX2 (ht _ (List.mem_of_getElem? (i := 89) (by decide +kernel)))
  obtain ⟨c2, i2, k2⟩ := u_known (C := RX3) (T := TX3) (N := 3) (n := 3) hts inX3 (ht _ (List.mem_of_getElem? (i := 112) (by decide +kernel)))
  obtain ⟨c3, i3, k3⟩ := u_known (C := RX4) (T := TX4) (N := 2) (n := 2) hts inX4 (ht _ (List.mem_of_getElem? (i := 73) (by decide +kernel)))
  obtain ⟨c4, i4, k4⟩ := u_known (C := RX5) (T := TX5) (N := 8) (n := 8) hts inX5 (ht _ (List.mem_of_getElem? (i := 15) (by decide +kernel)))
  obtain ⟨c5, i5, k5⟩ := u_known (C := RX6) (T := TX6) (N := 16) (n := 16) hts inX6 (ht _ (List.mem_of_getElem? (i := 601) (by decide +kernel)))
  obtain ⟨cI, hI1, hI2⟩ := arr_start (ty := .int) (ht _ (List.mem_of_getElem? (i := 71) (by decide +kernel))) (fun C h => by cases h)
  obtain ⟨cJ, hJ1, hJ2⟩ := arr_start (ty := .long) (ht _ (List.mem_of_getElem? (i := 130) (by decide +kernel))) (fun C h => by cases h)
  obtain ⟨cB, hB1, hB2⟩ := arr_start (ty := .byte) (ht _ (List.mem_of_getElem? (i := 87) (by decide +kernel))) (fun C h => by cases h)
  obtain ⟨comp, cS, kS, s1, s2, s3, s4, s5⟩ := Cond.arrayOver_spec (n := "OthersShare$Sheet") (ht (.arrayOver (.object "OthersShare$Sheet")) (List.mem_of_getElem? (i := 111) (by decide +kernel)))
  refine ⟨(fun k => match k with | 0 => c0 | 1 => c1 | 2 => c2 | 3 => c3 | 4 => c4 | _ => c5, fun k => match k with | 0 => i0 | 1 => i1 | 2 => i2 | 3 => i3 | 4 => i4 | _ => i5), cI, cJ, cB, cS, ?_, ?_⟩
  · intro k q hq
    match k, hq with
    | 0, hq => cases hq; exact k0
    | 1, hq => cases hq; exact k1
    | 2, hq => cases hq; exact k2
    | 3, hq => cases hq; exact k3
    | 4, hq => cases hq; exact k4
    | 5, hq => cases hq; exact k5
    | k + 6, hq => simp [vwCl] at hq
  · intro k q hq
    match k, hq with
    | 0, hq => cases hq; exact ⟨hI1, hI2⟩
    | 1, hq => cases hq; exact ⟨hJ1, hJ2⟩
    | 2, hq => cases hq; exact ⟨hB1, hB2⟩
    | 3, hq => cases hq; exact ⟨fun n z => ⟨fun k h => (by cases h), kS, s3, comp, s4⟩, by unfold va_RA; exact ⟨kS, comp, s3, s4, s1, s5⟩⟩
    | k + 4, hq => simp at hq
theorem xE_start {s : State} {b : Nat} (hts : ∀ w ∈ lw_tbl, w.before #[Value.ref b] s = true) : xE s := by
  have ht : ∀ w ∈ tables_1, w.before #[Value.ref b] s = true := fun w h => hts w (List.mem_append_right _ h)
  exact ⟨va_Nw.of rfl (ht _ (List.mem_of_getElem? (i := 74) (by decide +kernel))), va_Nw.of rfl (ht _ (List.mem_of_getElem? (i := 113) (by decide +kernel))), va_AO.of (ht _ (List.mem_of_getElem? (i := 111) (by decide +kernel)))⟩
