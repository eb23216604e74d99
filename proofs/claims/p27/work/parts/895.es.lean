/-! what the start gives of the static things -/
def ESa (a0 a1 a2 : Nat) (A : Nat → Prop) (U : State) (H : Heap) : Prop :=
  va_Z "TurningTown" "BY_NUMBERS" "[I" (.ref a0) A U H ∧ (va_X a0 6 bn U H ∧ a0 < H.size ∧ ¬ A a0) ∧ vk_R "TurningTown$Page" 37 "hetsc" a1 U ∧ va_O "java/lang/String" a1 A U H ∧ va_OF "java/lang/String" "coder" "B" (.int 0) a1 A U H ∧ va_OF "java/lang/String" "value" "[B" (.ref a2) a1 A U H ∧ va_T .byte a2 5 (fun j => .int (kb j)) A U H ∧ va_Z "java/lang/String" "COMPACT_STRINGS" "Z" (.int 1) A U H
theorem va_Xof6 {args : Array Value} {s : State} {tm : Term} (harr : (Cond.arrayOf tm .int).before args s = true) (hlen : (Term.length tm).eval args s none [] s = some (.int (Int32.ofNat 6))) (hel : ∀ j : Nat, j < 6 → (Term.elem tm (.int (Int32.ofNat j))).eval args s none [] s = some (.int (bn j))) : ∃ t : Nat, tm.eval args s none [] s = some (.ref t) ∧ va_X t 6 bn s s.heap ∧ t < s.heap.size := by
  obtain ⟨t, ht, cell, hcell, hof, hkn, hle, hsz, hj, -⟩ := va_Tof (N := 6) (f := fun j => .int (bn j)) (A := fun q : Nat => s.heap.size ≤ q) (by decide) harr hlen hel (fun a h => Nat.not_le.mpr h)
  obtain ⟨t2, cell2, ht2, hat, -⟩ := Term.length_spec hlen
  have hs31 : cell2.slots.size < 2 ^ 31 := by
    simp only [Term.eval, ht2, hat, Option.bind_eq_bind, Option.bind_some] at hlen
    by_cases hlt : cell2.slots.size < 2147483648
    · exact hlt
    · simp [hlt] at hlen
  cases ht.symm.trans ht2
  obtain ⟨hc2, -, -, -⟩ := State.arrayAt?_spec hat
  cases hcell.symm.trans hc2
  refine ⟨t, ht, ⟨cell, hcell, hof, hkn, ?_, hj⟩, (Array.getElem?_eq_some_iff.mp hcell).1⟩
  have e1 : (Int32.ofNat cell.slots.size).toInt = (Int32.ofNat 6).toInt := congrArg Int32.toInt hsz
  rw [Int32.toInt_ofNat_of_lt hs31, Int32.toInt_ofNat_of_lt (by decide)] at e1
  omega
theorem es_start {s : State} {b : Nat} (hts : ∀ w ∈ lw_tbl, w.before #[Value.ref b] s = true) (hgv : (Jvm.Cond.and given_1 narrow_1).before #[Value.ref b] s = true) : ∃ a0 a1 a2, ESa a0 a1 a2 (fun q : Nat => s.heap.size ≤ q) s s.heap := by
  have g := flat_of_before _ hgv
  have hA : ∀ a : Nat, a < s.heap.size → ¬ (fun q : Nat => s.heap.size ≤ q) a := fun a h => Nat.not_le.mpr h
  have p0 : (Cond.arrayOf (.static "TurningTown" "BY_NUMBERS" "[I") .int).before #[Value.ref b] s = true := (g _ (List.mem_of_getElem? (i := 10) rfl))
  have p1 : (Cond.eq (.length (.static "TurningTown" "BY_NUMBERS" "[I")) (.int (Int32.ofNat 6))).before #[Value.ref b] s = true := (g _ (List.mem_of_getElem? (i := 11) rfl))
  have p2 : ∀ j : Nat, j < 6 → (Cond.eq (.elem (.static "TurningTown" "BY_NUMBERS" "[I") (.int (Int32.ofNat j))) (.int (bn j))).before #[Value.ref b] s = true := fun j hj => by
    have : j = 0 ∨ j = 1 ∨ j = 2 ∨ j = 3 ∨ j = 4 ∨ j = 5 := by omega
    rcases this with rfl | rfl | rfl | rfl | rfl | rfl
    · exact (g _ (List.mem_of_getElem? (i := 12) rfl))
    · exact (g _ (List.mem_of_getElem? (i := 13) rfl))
    · exact (g _ (List.mem_of_getElem? (i := 14) rfl))
    · exact (g _ (List.mem_of_getElem? (i := 15) rfl))
    · exact (g _ (List.mem_of_getElem? (i := 16) rfl))
    · exact (g _ (List.mem_of_getElem? (i := 17) rfl))
  obtain ⟨a0, h0, hX0, hl0⟩ := va_Xof6 p0 (va_eqt p1) (fun j hj => va_eqt (p2 j hj))
  have q0 : (Cond.exactly (.string "TurningTown$Page" 37) "java/lang/String").before #[Value.ref b] s = true := (g _ (List.mem_of_getElem? (i := 18) rfl))
  have q1 : (Cond.eq (.field (.string "TurningTown$Page" 37) "java/lang/String" "coder" "B") (.int 0)).before #[Value.ref b] s = true := (g _ (List.mem_of_getElem? (i := 19) rfl))
  have q2 : (Cond.arrayOf (.field (.string "TurningTown$Page" 37) "java/lang/String" "value" "[B") .byte).before #[Value.ref b] s = true := (g _ (List.mem_of_getElem? (i := 20) rfl))
  have q3 : (Cond.eq (.length (.field (.string "TurningTown$Page" 37) "java/lang/String" "value" "[B")) (.int (Int32.ofNat 5))).before #[Value.ref b] s = true := (g _ (List.mem_of_getElem? (i := 21) rfl))
  have q4 : ∀ j : Nat, j < 5 → (Cond.eq (.elem (.field (.string "TurningTown$Page" 37) "java/lang/String" "value" "[B") (.int (Int32.ofNat j))) (.int (kb j))).before #[Value.ref b] s = true := fun j hj => by
    have : j = 0 ∨ j = 1 ∨ j = 2 ∨ j = 3 ∨ j = 4 := by omega
    rcases this with rfl | rfl | rfl | rfl | rfl
    · exact (g _ (List.mem_of_getElem? (i := 22) rfl))
    · exact (g _ (List.mem_of_getElem? (i := 23) rfl))
    · exact (g _ (List.mem_of_getElem? (i := 24) rfl))
    · exact (g _ (List.mem_of_getElem? (i := 25) rfl))
    · exact (g _ (List.mem_of_getElem? (i := 26) rfl))
  obtain ⟨a1, c, cA, kA, r1, r2, r3, r4, r5, r6, -⟩ := Cond.exactly_spec (args := #[Value.ref b]) (first := s) (o := none) (s := s) (idx := []) (t := .string "TurningTown$Page" 37) (cls := "java/lang/String") q0
  obtain ⟨a2, ht, hT⟩ := va_Tof (N := 5) (f := fun j => .int (kb j)) (A := fun q : Nat => s.heap.size ≤ q) (by decide) q2 (va_eqt q3) (fun j hj => va_eqt (q4 j hj)) hA
  refine ⟨a0, a1, a2, va_Zof (hts _ (in_2 (List.mem_of_getElem? (i := 169) rfl))) (hts _ (in_1 (List.mem_of_getElem? (i := 1) rfl))) h0 hA, ⟨hX0, hl0, hA _ hl0⟩, vk_R.of (hts _ (in_2 (List.mem_of_getElem? (i := 47) rfl))) r1, va_Oof q0 r1 hA, vk_OFof r1 (va_eqt q1) hA, vk_OFof r1 ht hA, hT, va_Zof (hts _ (in_2 (List.mem_of_getElem? (i := 61) rfl))) (hts _ (in_1 (List.mem_of_getElem? (i := 12) rfl))) (va_eqt (g _ (List.mem_of_getElem? (i := 4) rfl))) hA⟩
