theorem nz01 {v : Int32} (h : ¬ ¬ (v = 0 ∨ v = 1)) : narrow .boolean (.int v) = .int v := by
  rcases Decidable.not_not.mp h with rfl | rfl <;> rfl
section KC
variable {p : Program} {l : Launch} {e : Env} {R : Room} {s : State} {m : MethodId} {args : Array Value} {below : List Frame} {meth : Method} {c : Code} {H : Heap} {locs : List Loc} {cells slots : Nat} {Q : State → Prop}
variable {cc : ByteArray} {pc nL : Nat} {ls : Array Slot} {rest : List Value} {D : va_G} {A : Nat → Prop} {a : Nat} {tys : List (ClassId × FieldType)} {ws : va_W} {own : String}
theorem kcopy {index : Nat} {a0 n0 n1 : Nat} {cI : ClassId} {f g : Nat → Int32} {n : Int32} (X : CX p s m args c cc nL own D tys A) (hw : WD D A ws s.heap H locs) (hsz : ls.size = nL) (hl : Cond.methodLink own index arraycopyName ∈ TT) (hnat : Cond.native arraycopyName ∈ TT) (hst : Cond.static arraycopyName ∈ TT) (hini : Cond.initialized "java/lang/System" ∈ TT) (q0 q1 : Nat) (ha0 : ws[q0]? = some (a0, .inl (cI, n0, .inl f))) (ha1 : ws[q1]? = some (a, .inl (cI, n1, .inl g))) (ht : tys[0]? = some (cI, .int)) (hg : ¬ (n < 0 ∨ n0 < n.toNatClampNeg ∨ n1 < n.toNatClampNeg)) (hf : 1 ≤ R.frames) (hlo : (rest.map fun v => v.category).sum + (nativeFrameWords "java/lang/System" "arraycopy" 5 + 11) ≤ R.locals) (hdg : decode cc pc = .ok (.invokestatic index, 3))
    (kk : ∀ (H1 : Heap) (locs1 : List Loc), WD D A (ws.set q1 (a, .inl (cI, n1, .inl (va_cpy f g 0 0 n.toNatClampNeg)))) s.heap H1 locs1 → W p l e R s m args below meth c H1 locs1 cells slots Q (F0 m (pc + 3) ls rest)) : W p l e R s m args below meth c H locs cells slots Q (F0 m pc ls (.int n :: .int 0 :: .ref a :: .int 0 :: .ref a0 :: rest)) := by
  have e0 : (0 : Int32).toNatClampNeg = 0 := rfl
  refine va_copyi X.1.1 X.1.2.1 (X.1.2.2.1.trans hsz.symm) X.1.2.2.2.1 (X.1.2.2.2.2 _ hl) (X.1.2.2.2.2 _ hnat) (X.1.2.2.2.2 _ hst) (X.1.2.2.2.2 _ hini) X.2.1.1 hw.1 hw.2.1 hw.2.2 q0 q1 0 0 ha0 ha1 ht ht rfl (by decide) (by decide) (fun h => hg (Or.inl h)) (by rw [e0]; omega) (by rw [e0]; omega) (fun i _ => rfl) hf hlo hdg (fun H1 locs1 h1 h2 h3 => kk H1 locs1 ⟨?_, ?_, h3⟩)
  · rw [e0] at h1; exact h1
  · rw [e0] at h2; exact h2
theorem kaald {cI cZ cG : ClassId} {n : Nat} {f : Nat → Option Nat} {i : Int32} {v : Value} (X : CX p s m args c cc nL own D (TY cI cZ cG) A) (hw : WD D A ws s.heap H locs) (q0 : Nat) (ha : ws[q0]? = some (a, .inl (cG, n, .inr (.inr (.inr (.inr f)))))) (hin : ¬ (i < 0 ∨ n ≤ i.toNatClampNeg)) (hv : va_rf (f i.toNatClampNeg) = v) (hdg : decode cc pc = .ok (.aaload, 1))
    (kk : W p l e R s m args below meth c H locs cells slots Q (F0 m (pc + 1) ls (v :: rest))) : W p l e R s m args below meth c H locs cells slots Q (F0 m pc ls (.int i :: .ref a :: rest)) := by
  have hlt : i.toNatClampNeg < n := Nat.not_le.mp fun q => hin (Or.inr q)
  exact W.aald (v := v) (ty := .array .int) X.1.1 X.1.2.1 (hw.1 q0 _ ha) ((X.2.1.1.2 2 (cG, .array .int) rfl).1 n (fun j => va_rf (f j))) rfl (fun q => by cases q) (by show ¬ (i < 0 ∨ (arrV _ _ _).slots.size ≤ _); rw [arrV_size]; exact hin) (by show (arrV _ _ _).slots[_]? = _; rw [arrV_read _ _ hlt, hv]) rfl rfl hdg kk
theorem kcopyS {cI cZ cG : ClassId} {index n1 : Nat} {g : Nat → Int32} {n : Int32} (X : CX p s m args c cc nL own D (TY cI cZ cG) A) (hw : WD D A ws s.heap H locs) (hsz : ls.size = nL) (hl : Cond.methodLink own index arraycopyName ∈ TT) (hnat : Cond.native arraycopyName ∈ TT) (hst : Cond.static arraycopyName ∈ TT) (hini : Cond.initialized "java/lang/System" ∈ TT) (q1 : Nat) (ha1 : ws[q1]? = some (a, .inl (cI, n1, .inl g))) (ht : (TY cI cZ cG)[0]? = some (cI, .int)) (hg : ¬ (n < 0 ∨ 6 < n.toNatClampNeg ∨ n1 < n.toNatClampNeg)) (hf : 1 ≤ R.frames) (hlo : (rest.map fun v => v.category).sum + (nativeFrameWords "java/lang/System" "arraycopy" 5 + 11) ≤ R.locals) (hdg : decode cc pc = .ok (.invokestatic index, 3))
    (kk : ∀ (H1 : Heap) (locs1 : List Loc), WD D A (ws.set q1 (a, .inl (cI, n1, .inl (va_cpy bn g 0 0 n.toNatClampNeg)))) s.heap H1 locs1 → W p l e R s m args below meth c H1 locs1 cells slots Q (F0 m (pc + 3) ls rest)) : W p l e R s m args below meth c H locs cells slots Q (F0 m pc ls (.int n :: .int 0 :: .ref a :: .int 0 :: .ref (D.2 100 0) :: rest)) := by
  have e0 : (0 : Int32).toNatClampNeg = 0 := rfl
  refine va_copyx X.1.1 X.1.2.1 (X.1.2.2.1.trans hsz.symm) X.1.2.2.2.1 (X.1.2.2.2.2 _ hl) (X.1.2.2.2.2 _ hnat) (X.1.2.2.2.2 _ hst) (X.1.2.2.2.2 _ hini) X.2.1.1 hw.1 hw.2.1 hw.2.2 X.2.2.2.2.1.1 X.2.2.2.2.1.2.1 X.2.2.2.2.1.2.2 q1 0 ha1 ht (by decide) (by decide) (fun h => hg (Or.inl h)) (by rw [e0]; omega) (by rw [e0]; omega) hf hlo hdg (fun H1 locs1 h1 h2 h3 => kk H1 locs1 ⟨?_, ?_, h3⟩)
  · rw [e0] at h1; exact h1
  · rw [e0] at h2; exact h2
end KC
theorem arrK {ty : FieldType} {args : Array Value} {s : State} (h : (Cond.arrayClass ty).before args s = true) : ∃ cA : ClassId, ArrOfT s cA ty ∧ s.vm.findClass ("[" ++ ty.toString) = some cA := by
  obtain ⟨cA, kA, comp, h1, h2, h3⟩ := Cond.arrayClass_spec h
  exact ⟨cA, fun n z => ⟨fun k h => (by cases h), kA, h2, comp, h3⟩, h1⟩
theorem arrG {s : State} (h : ov s) : ∃ cA : ClassId, ArrOfT s cA (.array .int) ∧ s.vm.findClass ("[" ++ (FieldType.array .int).toString) = some cA := by
  unfold ov Cond.before Cond.holds at h
  simp only [Cond.value, beq_iff_eq] at h
  cases hc : s.vm.findClass (FieldType.array .int).toString with
  | none => rw [hc] at h; simp at h
  | some comp =>
    rw [hc, Option.bind_some, Option.bind_eq_some_iff] at h
    obtain ⟨c, hi, h2⟩ := h
    obtain ⟨k, hk, hb⟩ := Option.map_eq_some_iff.mp h2
    cases hkk : k.kind with
    | array cm ty =>
      rw [hkk] at hb
      simp only [Bool.and_eq_true, decide_eq_true_eq] at hb
      obtain ⟨rfl, hf⟩ := hb
      exact ⟨c, fun n z => ⟨fun k h => (by cases h), k, hk, cm, hkk⟩, hf⟩
    | _ => rw [hkk] at hb; simp at hb
theorem nestM_in : ∀ q ∈ nestM, Cond.methodLinkNest q.1 q.2.1 q.2.2.1 q.2.2.2 ∈ lw_tbl := List.forall_mem_cons.mpr ⟨in_1 (List.mem_of_getElem? (i := 28) rfl), List.forall_mem_cons.mpr ⟨in_1 (List.mem_of_getElem? (i := 44) rfl), List.forall_mem_cons.mpr ⟨in_1 (List.mem_of_getElem? (i := 64) rfl), List.forall_mem_cons.mpr ⟨in_1 (List.mem_of_getElem? (i := 70) rfl), List.forall_mem_cons.mpr ⟨in_1 (List.mem_of_getElem? (i := 164) rfl), List.forall_mem_cons.mpr ⟨in_1 (List.mem_of_getElem? (i := 167) rfl), List.forall_mem_cons.mpr ⟨in_1 (List.mem_of_getElem? (i := 189) rfl), List.forall_mem_cons.mpr ⟨in_1 (List.mem_of_getElem? (i := 194) rfl), List.forall_mem_cons.mpr ⟨in_1 (List.mem_of_getElem? (i := 212) rfl), List.forall_mem_cons.mpr ⟨in_1 (List.mem_of_getElem? (i := 219) rfl), List.forall_mem_cons.mpr ⟨in_3 (List.mem_of_getElem? (i := 38) rfl), List.forall_mem_cons.mpr ⟨in_3 (List.mem_of_getElem? (i := 128) rfl), fun _ h => absurd h List.not_mem_nil⟩⟩⟩⟩⟩⟩⟩⟩⟩⟩⟩⟩
theorem nestF_in : ∀ q ∈ nestF, Cond.fieldLinkNest q.1 q.2.1 q.2.2.1 q.2.2.2.1 q.2.2.2.2.1 q.2.2.2.2.2 ∈ lw_tbl := List.forall_mem_cons.mpr ⟨in_2 (List.mem_of_getElem? (i := 168) rfl), List.forall_mem_cons.mpr ⟨in_3 (List.mem_of_getElem? (i := 175) rfl), fun _ h => absurd h List.not_mem_nil⟩⟩
theorem ov_in : Cond.arrayOver (.array .int) ∈ lw_tbl := in_1 (List.mem_of_getElem? (i := 217) rfl)
