/-! ===== BEGIN new T[n][m]: the outer array a place, the inner ones among the pooled ===== -/
/-- f, but v at every address of l -/
def vr_up {α : Type} (f : Nat → α) (l : List Nat) (v : α) : Nat → α := fun a => if a ∈ l then v else f a
theorem vr_up_in {α : Type} {f : Nat → α} {l : List Nat} {v : α} {a : Nat} (h : a ∈ l) : vr_up f l v a = v := if_pos h
theorem vr_up_ne {α : Type} {f : Nat → α} {l : List Nat} {v : α} {a : Nat} (h : a ∉ l) : vr_up f l v a = f a := if_neg h
theorem vr_rows {L l : List Nat} {f : Nat → va_E} {e : va_E} (h : ∀ a, a ∈ l → a ∉ L) : va_pl L f ++ l.map (fun a => (a, e)) = va_pl (L ++ l) (vr_up f l e) := by
  unfold va_pl
  rw [List.map_append]
  congr 1
  · apply List.map_congr_left
    intro a ha
    rw [vr_up_ne (fun q => h a q ha)]
  · apply List.map_congr_left
    intro a ha
    rw [vr_up_in ha]
theorem vr_lay {X rows : va_W} {x : Nat × va_E} {pl : va_W} {D : va_G} {cl : List vw_C} {H : Heap} (hP : va_P D cl (((X ++ pl) ++ [x]) ++ rows) H) : va_P D cl ((X ++ [x]) ++ (pl ++ rows)) H := by
  rw [List.append_assoc (X ++ pl)] at hP
  have h := va_P.swap hP
  rw [← List.append_assoc X] at h
  have h2 := va_P.swap h
  rw [List.append_assoc (X ++ [x])] at h2
  exact h2
theorem vr_layD {X rows : va_W} {x : Nat × va_E} {pl : va_W} {A : Nat → Prop} (hD : va_D A (((X ++ pl) ++ [x]) ++ rows)) : va_D A ((X ++ [x]) ++ (pl ++ rows)) := by
  rw [List.append_assoc (X ++ pl)] at hD
  have h := va_D.swap hD
  rw [← List.append_assoc X] at h
  have h2 := va_D.swap h
  rw [List.append_assoc (X ++ [x])] at h2
  exact h2
theorem vr_outer (c : ClassId) (N h0 : Nat) : ∀ i : Nat, Jvm.Free.Multi.outerC c N h0 i = arrV c N (fun j => va_rf (if j < i then some (h0 + 1 + j) else none))
  | 0 => by
    show ({ cls := c, slots := Array.replicate N .null, vm := .none } : Cell) = _
    rw [arrV_new]
    refine congrArg (arrV c N) (funext fun j => ?_)
    simp [va_rf]
  | i + 1 => by
    show (Jvm.Free.Multi.outerC c N h0 i).setSlot i (.ref (h0 + 1 + i)) = _
    rw [vr_outer c N h0 i, arrV_store]
    refine congrArg (arrV c N) (funext fun j => ?_)
    by_cases e : j = i
    · subst e
      simp [updV, va_rf]
    · by_cases h : j < i
      · simp [updV, e, h, Nat.lt_succ_of_lt h]
      · simp [updV, e, h, show ¬ j < i + 1 by omega]
section VGM
variable {p : Program} {l : Launch} {e : Env} {R : Room} {s : State} {m : MethodId} {args : Array Value} {below : List Frame} {meth : Method} {c : Code} {H : Heap} {locs : List Loc} {cells slots : Nat} {Q : State → Prop}
variable {cc : ByteArray} {pc : Nat} {ls : Array Slot} {rest : List Value} {D : va_G} {cl : List vw_C} {A : Nat → Prop} {a : Nat} {tys : List (ClassId × FieldType)} {ws : va_W} {H0 : Heap}
theorem va_mna {X : va_W} {L : List Nat} {f : Nat → va_E} {cc : ByteArray} (hexec : p.tables.exec = Jvm.exec) (hb : c.code = cc) {own : String} {index : Nat} {ty : FieldType} {cy : ClassId} (hown : s.vm.findClass own = some m.cls) (hclink : (Cond.classLink own index ("[" ++ (FieldType.array ty).toString)).before args s = true) (hover : (Cond.arrayOver (.array ty)).before args s = true) (harr : (Cond.arrayClass ty).before args s = true) (hcy : s.vm.findClass (FieldType.array ty).toString = some cy)
    (hK : va_K D cl tys s) (hP : va_P D cl (X ++ va_pl L f) H) (hD : va_D A (X ++ va_pl L f)) (hS : va_S A H0 H locs) (hA : ∀ q, H0.size ≤ q → A q) {n k : Int32} {N' K' : Nat} {z : vp_A} (hn : ¬ n < 0) (hk : ¬ k < 0) (hN : n.toNatClampNeg = N') (hM : k.toNatClampNeg = K')
    (hb1 : N' * 4 ≤ 536870912) (hb2 : K' * componentBytes ty ≤ 536870912) (hb3 : K' ≤ 536870912) (hdf : fits ty (defaultValue ty) = true) (hdd : (defaultValue ty).isDefault = true) (hcells : cells + (1 + N') ≤ R.cells) (hslots : slots + (N' + N' * K') ≤ R.slots) (hz : ∀ c : ClassId, Jvm.Free.Multi.innerC c K' (defaultValue ty) = vp_cell c z) (hdg : decode cc pc = .ok (.multianewarray index 2, 4))
    (kk : ∀ (q : Nat) (r : Nat → Nat) (cA : ClassId) (H1 : Heap), (∀ i j : Nat, i < N' → j < N' → r i = r j → i = j) → (∀ i : Nat, i < N' → r i ∉ L) → va_K D cl (tys ++ [(cA, .array ty)]) s →
      va_P D cl ((X ++ [(q, .inl (cA, N', .inr (.inr (.inr (.inr (fun i => if i < N' then some (r i) else none))))))]) ++ va_pl (L ++ (List.range N').map r) (vr_up f ((List.range N').map r) (.inl (cy, z)))) H1 → va_D A ((X ++ [(q, .inl (cA, N', .inr (.inr (.inr (.inr (fun i => if i < N' then some (r i) else none))))))]) ++ va_pl (L ++ (List.range N').map r) (vr_up f ((List.range N').map r) (.inl (cy, z)))) → va_S A H0 H1 locs →
      W p l e R s m args below meth c H1 locs (cells + 1 + N') (slots + N' + N' * K') Q (F0 m (pc + 4) ls (.ref q :: rest))) : W p l e R s m args below meth c H locs cells slots Q (F0 m pc ls (.int k :: .int n :: rest)) := by
  subst hN
  subst hM
  intro T hT Xs
  obtain ⟨vm₁, cA, comp, -, fA, fC, hO, -, X', step⟩ := Xs.multianewarray2F hexec hown hclink hover harr (g := F0 m pc ls (.int k :: .int n :: rest)) rfl (by rw [hb]; exact hdg) rfl hn hk hb1 hb2 hb3 hdf hdd hcells hslots
  have ec : some cy = some comp := hcy.symm.trans fC
  cases ec
  generalize hF : Jvm.Free.Multi.fill (T.setVm vm₁) cA cy n.toNatClampNeg k.toNatClampNeg (defaultValue ty) n.toNatClampNeg = F at X' step
  have hTh : (T.setVm vm₁).heap = H := hT
  obtain ⟨f1, f2, -, -⟩ := Jvm.Free.Multi.fill_facts (T.setVm vm₁) cA cy n.toNatClampNeg k.toNatClampNeg (defaultValue ty) n.toNatClampNeg
  rw [hF, hTh] at f1 f2
  have hold : ∀ x : Nat, x < H.size → F.heap[x]? = H[x]? := fun x hx => by
    have := Jvm.Free.Multi.fill_old (T.setVm vm₁) cA cy n.toNatClampNeg k.toNatClampNeg (defaultValue ty) (a := x) (by rw [hTh]; exact hx) n.toNatClampNeg
    rw [hF, hTh] at this
    exact this
  have hrow : ∀ j : Nat, j < n.toNatClampNeg → F.heap[H.size + 1 + j]? = some (vp_cell cy z) := fun j hj => by
    have := Jvm.Free.Multi.fill_inner (T.setVm vm₁) cA cy n.toNatClampNeg k.toNatClampNeg (defaultValue ty) n.toNatClampNeg j hj
    rw [hF, hTh, hz] at this
    exact this
  have hout : Jvm.Free.Multi.outerC cA n.toNatClampNeg H.size n.toNatClampNeg = vp_cell cA (n.toNatClampNeg, .inr (.inr (.inr (.inr (fun i => if i < n.toNatClampNeg then some (H.size + 1 + i) else none))))) := by
    rw [vp_cell_q]
    exact vr_outer cA n.toNatClampNeg H.size n.toNatClampNeg
  rw [hout] at f2
  have hlt : ∀ a, a ∈ L → a < H.size := fun a ha => by
    obtain ⟨k9, hk9⟩ := va_pl_get (X := X) (f := f) ha
    exact (hP k9 _ hk9).lt
  have hnl : ∀ i : Nat, i < n.toNatClampNeg → H.size + 1 + i ∉ L := fun i _ h => by
    have := hlt _ h
    omega
  have hnm : ∀ a, a ∈ (List.range n.toNatClampNeg).map (fun i => H.size + 1 + i) → a ∉ L := fun a ha h => by
    obtain ⟨i, -, rfl⟩ := List.mem_map.mp ha
    have := hlt _ h
    omega
  have hP0 : va_P D cl (X ++ va_pl L f) F.heap := hP.kept (fun k9 x hx => hold x.1 ((hP k9 x hx).lt))
  have hP1 : va_P D cl ((X ++ va_pl L f) ++ [(H.size, .inl (cA, n.toNatClampNeg, .inr (.inr (.inr (.inr (fun i => if i < n.toNatClampNeg then some (H.size + 1 + i) else none))))))]) F.heap := hP0.app (fun k9 x hx => by
    have h0 : k9 < 1 := (List.getElem?_eq_some_iff.mp hx).1
    rw [show k9 = 0 by omega] at hx
    cases hx
    exact f2)
  have hP2 : va_P D cl (((X ++ va_pl L f) ++ [(H.size, .inl (cA, n.toNatClampNeg, .inr (.inr (.inr (.inr (fun i => if i < n.toNatClampNeg then some (H.size + 1 + i) else none))))))]) ++ ((List.range n.toNatClampNeg).map (fun i => H.size + 1 + i)).map (fun a => (a, .inl (cy, z)))) F.heap := hP1.app (fun k9 x hx => by
    obtain ⟨a, ha, rfl⟩ := List.mem_map.mp (List.mem_of_getElem? hx)
    obtain ⟨i, hi, rfl⟩ := List.mem_map.mp ha
    exact hrow i (List.mem_range.mp hi))
  have hD2 : va_D A (((X ++ va_pl L f) ++ [(H.size, .inl (cA, n.toNatClampNeg, .inr (.inr (.inr (.inr (fun i => if i < n.toNatClampNeg then some (H.size + 1 + i) else none))))))]) ++ ((List.range n.toNatClampNeg).map (fun i => H.size + 1 + i)).map (fun a => (a, .inl (cy, z)))) := by
    have hD1 := hD.push (e := .inl (cA, n.toNatClampNeg, .inr (.inr (.inr (.inr (fun i => if i < n.toNatClampNeg then some (H.size + 1 + i) else none)))))) hP rfl (hA _ hS.1)
    generalize hW1 : (X ++ va_pl L f) ++ [(H.size, .inl (cA, n.toNatClampNeg, .inr (.inr (.inr (.inr (fun i => if i < n.toNatClampNeg then some (H.size + 1 + i) else none))))))] = W1 at hD1 hP1 ⊢
    have hle : ∀ (k9 : Nat) (x : Nat × va_E), W1[k9]? = some x → x.1 ≤ H.size := fun k9 x hx => by
      rw [← hW1] at hx
      by_cases hl : k9 < (X ++ va_pl L f).length
      · rw [List.getElem?_append_left hl] at hx
        exact Nat.le_of_lt ((hP k9 x hx).lt)
      · rw [List.getElem?_append_right (by omega)] at hx
        have h0 : k9 - (X ++ va_pl L f).length < 1 := (List.getElem?_eq_some_iff.mp hx).1
        rw [show k9 - (X ++ va_pl L f).length = 0 by omega] at hx
        cases hx
        exact Nat.le_refl _
    have hr : ∀ (k9 : Nat) (x : Nat × va_E), (((List.range n.toNatClampNeg).map (fun i => H.size + 1 + i)).map (fun a => ((a, .inl (cy, z)) : Nat × va_E)))[k9]? = some x → x.1 = H.size + 1 + k9 := fun k9 x hx => by
      rw [List.getElem?_map, List.getElem?_map] at hx
      by_cases h9 : k9 < n.toNatClampNeg
      · rw [List.getElem?_range h9] at hx
        cases hx
        rfl
      · have hn0 : (List.range n.toNatClampNeg)[k9]? = none := List.getElem?_eq_none (by rw [List.length_range]; omega)
        rw [hn0] at hx
        cases hx
    refine ⟨fun i j x y hi hj hxy => ?_, fun k9 x hx => ?_⟩
    · by_cases h1 : i < W1.length <;> by_cases h2 : j < W1.length
      · rw [List.getElem?_append_left h1] at hi
        rw [List.getElem?_append_left h2] at hj
        exact hD1.1 i j x y hi hj hxy
      · rw [List.getElem?_append_left h1] at hi
        rw [List.getElem?_append_right (by omega)] at hj
        have := hle _ _ hi
        have := hr _ _ hj
        omega
      · rw [List.getElem?_append_right (by omega)] at hi
        rw [List.getElem?_append_left h2] at hj
        have := hle _ _ hj
        have := hr _ _ hi
        omega
      · rw [List.getElem?_append_right (by omega)] at hi hj
        have := hr _ _ hi
        have := hr _ _ hj
        omega
    · by_cases h1 : k9 < W1.length
      · rw [List.getElem?_append_left h1] at hx
        exact hD1.2 k9 x hx
      · rw [List.getElem?_append_right (by omega)] at hx
        have := hr _ _ hx
        exact hA _ (by have := hS.1; omega)
  have hAr : ArrOfT s cA (.array ty) := fun N9 z9 => by
    obtain ⟨-, k9, hk9, cm9, hkk9⟩ := (hO 0 0 0).1
    exact ⟨(fun q hq => by cases hq), k9, hk9, cm9, hkk9⟩
  have hK2 : va_K D cl (tys ++ [(cA, .array ty)]) s := ⟨hK.1, fun k9 x hx => by
    by_cases hl : k9 < tys.length
    · rw [List.getElem?_append_left hl] at hx
      exact hK.2 k9 x hx
    · rw [List.getElem?_append_right (by omega)] at hx
      have h0 : k9 - tys.length < 1 := (List.getElem?_eq_some_iff.mp hx).1
      rw [show k9 - tys.length = 0 by omega] at hx
      cases hx
      exact ⟨hAr, fA⟩⟩
  obtain ⟨t, a1, b1⟩ := kk H.size (fun i => H.size + 1 + i) cA F.heap (fun i j _ _ h => by have h9 : H.size + 1 + i = H.size + 1 + j := h; omega) hnl hK2 (by rw [← vr_rows hnm]; exact vr_lay hP2) (by rw [← vr_rows hnm]; exact vr_layD hD2) ⟨by rw [f1]; have := hS.1; omega, fun x h1 h2 => (hold x (Nat.lt_of_lt_of_le h1 hS.1)).trans (hS.2.1 x h1 h2), hS.2.2⟩ F rfl X'
  refine ⟨t, step t ?_, b1⟩
  have e : T.heap.size = H.size := by rw [hT]
  rw [e]
  exact a1
end VGM
/-! ===== END ===== -/
def RX0 : String := "TurningTown$Ground"
def TX0 : u_T := fun k => match k with
  | 0 => ("TurningTown$Ground", "worth", "[I", true)
  | 1 => ("TurningTown$Ground", "liked", "[I", true)
  | _ => ("TurningTown$Ground", "houses", "I", false)
def tyX0 : Nat → FieldType := fun k => match k with
  | 0 => .array .int
  | 1 => .array .int
  | _ => .int
theorem nmX0 : ∀ a, a < 3 → ∀ b, b < 3 → a ≠ b → (TX0 a).2.1 ≠ (TX0 b).2.1 := by decide +kernel
theorem tyX0_ok : ∀ k, k < 3 → parseFieldDescriptor (TX0 k).2.2.1 = some (tyX0 k) := by decide +kernel
abbrev cX0_init : ByteArray := prog_2_method_1_code
def yX0_init : MethodName := ⟨RX0, "<init>", "()V"⟩
abbrev cX0_readFrom : ByteArray := prog_2_method_2_code
def yX0_readFrom : MethodName := ⟨RX0, "readFrom", "(LTurningTown$Page;)V"⟩
abbrev cX0_likersOf : ByteArray := prog_2_method_3_code
def yX0_likersOf : MethodName := ⟨RX0, "likersOf", "(I)I"⟩
abbrev cX0_worthUnder : ByteArray := prog_2_method_4_code
def yX0_worthUnder : MethodName := ⟨RX0, "worthUnder", "(LTurningTown$Town;I)I"⟩
abbrev cX0_worthUnderAll : ByteArray := prog_2_method_5_code
def yX0_worthUnderAll : MethodName := ⟨RX0, "worthUnderAll", "(LTurningTown$Town;)I"⟩
def RX1 : String := "TurningTown$Guess"
def TX1 : u_T := fun k => match k with
  | 0 => ("TurningTown$Guess", "track", "[[I", true)
  | _ => ("TurningTown$Guess", "town", "LTurningTown$Town;", true)
def tyX1 : Nat → FieldType := fun k => match k with
  | 0 => .array (.array .int)
  | _ => .object "TurningTown$Town"
theorem nmX1 : ∀ a, a < 2 → ∀ b, b < 2 → a ≠ b → (TX1 a).2.1 ≠ (TX1 b).2.1 := by decide +kernel
theorem tyX1_ok : ∀ k, k < 2 → parseFieldDescriptor (TX1 k).2.2.1 = some (tyX1 k) := by decide +kernel
abbrev cX1_init : ByteArray := prog_3_method_1_code
def yX1_init : MethodName := ⟨RX1, "<init>", "()V"⟩
abbrev cX1_kindsOf : ByteArray := prog_3_method_2_code
def yX1_kindsOf : MethodName := ⟨RX1, "kindsOf", "(ILTurningTown$Story;)I"⟩
abbrev cX1_nightToLook : ByteArray := prog_3_method_3_code
def yX1_nightToLook : MethodName := ⟨RX1, "nightToLook", "(ILTurningTown$Story;)I"⟩
abbrev cX1_follow : ByteArray := prog_3_method_4_code
def yX1_follow : MethodName := ⟨RX1, "follow", "(ILTurningTown$Town;I)V"⟩
abbrev cX1_kindsByTracks : ByteArray := prog_3_method_5_code
def yX1_kindsByTracks : MethodName := ⟨RX1, "kindsByTracks", "(ILTurningTown$Notes;)I"⟩
abbrev cX1_agrees : ByteArray := prog_3_method_6_code
def yX1_agrees : MethodName := ⟨RX1, "agrees", "(IILTurningTown$Notes;)Z"⟩
abbrev cX1_leftAtWorst : ByteArray := prog_3_method_7_code
def yX1_leftAtWorst : MethodName := ⟨RX1, "leftAtWorst", "(II)I"⟩
abbrev cX1_seenAlike : ByteArray := prog_3_method_8_code
def yX1_seenAlike : MethodName := ⟨RX1, "seenAlike", "(III)I"⟩
abbrev cX1_has : ByteArray := prog_3_method_9_code
def yX1_has : MethodName := ⟨RX1, "has", "(II)Z"⟩
def RX2 : String := "TurningTown$Notes"
def TX2 : u_T := fun k => match k with
  | 0 => ("TurningTown$Notes", "house", "[I", true)
  | 1 => ("TurningTown$Notes", "plot", "[I", true)
  | 2 => ("TurningTown$Notes", "night", "[I", true)
  | _ => ("TurningTown$Notes", "size", "I", false)
def tyX2 : Nat → FieldType := fun k => match k with
  | 0 => .array .int
  | 1 => .array .int
  | 2 => .array .int
  | _ => .int
theorem nmX2 : ∀ a, a < 4 → ∀ b, b < 4 → a ≠ b → (TX2 a).2.1 ≠ (TX2 b).2.1 := by decide +kernel
theorem tyX2_ok : ∀ k, k < 4 → parseFieldDescriptor (TX2 k).2.2.1 = some (tyX2 k) := by decide +kernel
abbrev cX2_init : ByteArray := prog_4_method_1_code
def yX2_init : MethodName := ⟨RX2, "<init>", "(I)V"⟩
abbrev cX2_add : ByteArray := prog_4_method_2_code
def yX2_add : MethodName := ⟨RX2, "add", "(III)I"⟩
abbrev cX2_clear : ByteArray := prog_4_method_3_code
def yX2_clear : MethodName := ⟨RX2, "clear", "()I"⟩
abbrev cX2_copyFrom : ByteArray := prog_4_method_4_code
def yX2_copyFrom : MethodName := ⟨RX2, "copyFrom", "(LTurningTown$Notes;)V"⟩
abbrev cX2_lastNight : ByteArray := prog_4_method_5_code
def yX2_lastNight : MethodName := ⟨RX2, "lastNight", "()I"⟩
abbrev cX2_trueBehind : ByteArray := prog_4_method_6_code
def yX2_trueBehind : MethodName := ⟨RX2, "trueBehind", "(ILTurningTown$Town;)I"⟩
def RX3 : String := "TurningTown$Page"
def TX3 : u_T := fun k => match k with
  | 0 => ("TurningTown$Page", "letters", "[I", true)
  | _ => ("TurningTown$Page", "size", "I", false)
def tyX3 : Nat → FieldType := fun k => match k with
  | 0 => .array .int
  | _ => .int
theorem nmX3 : ∀ a, a < 2 → ∀ b, b < 2 → a ≠ b → (TX3 a).2.1 ≠ (TX3 b).2.1 := by decide +kernel
theorem tyX3_ok : ∀ k, k < 2 → parseFieldDescriptor (TX3 k).2.2.1 = some (tyX3 k) := by decide +kernel
abbrev cX3_init : ByteArray := prog_5_method_1_code
def yX3_init : MethodName := ⟨RX3, "<init>", "()V"⟩
abbrev cX3_write : ByteArray := prog_5_method_2_code
def yX3_write : MethodName := ⟨RX3, "write", "(I)V"⟩
abbrev cX3_firstWrong : ByteArray := prog_5_method_3_code
def yX3_firstWrong : MethodName := ⟨RX3, "firstWrong", "()I"⟩
abbrev cX3_isSquare : ByteArray := prog_5_method_4_code
def yX3_isSquare : MethodName := ⟨RX3, "isSquare", "()Z"⟩
abbrev cX3_houses : ByteArray := prog_5_method_5_code
def yX3_houses : MethodName := ⟨RX3, "houses", "()I"⟩
abbrev cX3_worthWritten : ByteArray := prog_5_method_6_code
def yX3_worthWritten : MethodName := ⟨RX3, "worthWritten", "(I)I"⟩
abbrev cX3_kindWritten : ByteArray := prog_5_method_7_code
def yX3_kindWritten : MethodName := ⟨RX3, "kindWritten", "(I)I"⟩
abbrev cX3_likeWritten : ByteArray := prog_5_method_8_code
def yX3_likeWritten : MethodName := ⟨RX3, "likeWritten", "(I)I"⟩
abbrev cX3_fits : ByteArray := prog_5_method_9_code
def yX3_fits : MethodName := ⟨RX3, "fits", "(II)Z"⟩
abbrev cX3_kindBy : ByteArray := prog_5_method_10_code
def yX3_kindBy : MethodName := ⟨RX3, "kindBy", "(I)I"⟩
def RX4 : String := "TurningTown$Plan"
def TX4 : u_T := fun k => match k with
  | 0 => ("TurningTown$Plan", "best", "[I", true)
  | 1 => ("TurningTown$Plan", "trial", "[I", true)
  | 2 => ("TurningTown$Plan", "town", "LTurningTown$Town;", true)
  | _ => ("TurningTown$Plan", "most", "I", false)
def tyX4 : Nat → FieldType := fun k => match k with
  | 0 => .array .int
  | 1 => .array .int
  | 2 => .object "TurningTown$Town"
  | _ => .int
theorem nmX4 : ∀ a, a < 4 → ∀ b, b < 4 → a ≠ b → (TX4 a).2.1 ≠ (TX4 b).2.1 := by decide +kernel
theorem tyX4_ok : ∀ k, k < 4 → parseFieldDescriptor (TX4 k).2.2.1 = some (tyX4 k) := by decide +kernel
abbrev cX4_init : ByteArray := prog_6_method_1_code
def yX4_init : MethodName := ⟨RX4, "<init>", "()V"⟩
abbrev cX4_make : ByteArray := prog_6_method_2_code
def yX4_make : MethodName := ⟨RX4, "make", "(LTurningTown$Town;LTurningTown$Notes;)V"⟩
abbrev cX4_grantedBy : ByteArray := prog_6_method_3_code
def yX4_grantedBy : MethodName := ⟨RX4, "grantedBy", "(ILTurningTown$Notes;)I"⟩
abbrev cX4_goToNextTrial : ByteArray := prog_6_method_4_code
def yX4_goToNextTrial : MethodName := ⟨RX4, "goToNextTrial", "(I)Z"⟩
abbrev cX4_exchange : ByteArray := prog_6_method_5_code
def yX4_exchange : MethodName := ⟨RX4, "exchange", "(II)V"⟩
def RX5 : String := "TurningTown$Story"
def TX5 : u_T := fun k => match k with
  | 0 => ("TurningTown$Story", "town", "LTurningTown$Town;", true)
  | 1 => ("TurningTown$Story", "had", "[I", true)
  | 2 => ("TurningTown$Story", "wishes", "LTurningTown$Notes;", true)
  | 3 => ("TurningTown$Story", "seen", "LTurningTown$Notes;", true)
  | _ => ("TurningTown$Story", "nights", "I", false)
def tyX5 : Nat → FieldType := fun k => match k with
  | 0 => .object "TurningTown$Town"
  | 1 => .array .int
  | 2 => .object "TurningTown$Notes"
  | 3 => .object "TurningTown$Notes"
  | _ => .int
theorem nmX5 : ∀ a, a < 5 → ∀ b, b < 5 → a ≠ b → (TX5 a).2.1 ≠ (TX5 b).2.1 := by decide +kernel
theorem tyX5_ok : ∀ k, k < 5 → parseFieldDescriptor (TX5 k).2.2.1 = some (tyX5 k) := by decide +kernel
abbrev cX5_init : ByteArray := prog_7_method_1_code
def yX5_init : MethodName := ⟨RX5, "<init>", "()V"⟩
abbrev cX5_beginFrom : ByteArray := prog_7_method_2_code
def yX5_beginFrom : MethodName := ⟨RX5, "beginFrom", "(LTurningTown$Page;)V"⟩
abbrev cX5_copyFrom : ByteArray := prog_7_method_3_code
def yX5_copyFrom : MethodName := ⟨RX5, "copyFrom", "(LTurningTown$Story;)V"⟩
abbrev cX5_endNight : ByteArray := prog_7_method_4_code
def yX5_endNight : MethodName := ⟨RX5, "endNight", "(LTurningTown$Ground;)V"⟩
abbrev cX5_hadByAll : ByteArray := prog_7_method_5_code
def yX5_hadByAll : MethodName := ⟨RX5, "hadByAll", "()I"⟩
def RX6 : String := "TurningTown$Town"
def TX6 : u_T := fun k => match k with
  | 0 => ("TurningTown$Town", "kindOf", "[I", true)
  | 1 => ("TurningTown$Town", "plotOf", "[I", true)
  | 2 => ("TurningTown$Town", "row", "[I", true)
  | 3 => ("TurningTown$Town", "standsOn", "[I", true)
  | 4 => ("TurningTown$Town", "houses", "I", false)
  | 5 => ("TurningTown$Town", "front", "I", false)
  | _ => ("TurningTown$Town", "downFor", "I", false)
def tyX6 : Nat → FieldType := fun k => match k with
  | 0 => .array .int
  | 1 => .array .int
  | 2 => .array .int
  | 3 => .array .int
  | 4 => .int
  | 5 => .int
  | _ => .int
theorem nmX6 : ∀ a, a < 7 → ∀ b, b < 7 → a ≠ b → (TX6 a).2.1 ≠ (TX6 b).2.1 := by decide +kernel
theorem tyX6_ok : ∀ k, k < 7 → parseFieldDescriptor (TX6 k).2.2.1 = some (tyX6 k) := by decide +kernel
abbrev cX6_init : ByteArray := prog_8_method_1_code
def yX6_init : MethodName := ⟨RX6, "<init>", "()V"⟩
abbrev cX6_beginWith : ByteArray := prog_8_method_2_code
def yX6_beginWith : MethodName := ⟨RX6, "beginWith", "([II)V"⟩
abbrev cX6_copyFrom : ByteArray := prog_8_method_3_code
def yX6_copyFrom : MethodName := ⟨RX6, "copyFrom", "(LTurningTown$Town;)V"⟩
abbrev cX6_turn : ByteArray := prog_8_method_4_code
def yX6_turn : MethodName := ⟨RX6, "turn", "()I"⟩
abbrev cX6_nightsFor : ByteArray := prog_8_method_5_code
def yX6_nightsFor : MethodName := ⟨RX6, "nightsFor", "(I)I"⟩
abbrev cX6_takeDown : ByteArray := prog_8_method_6_code
def yX6_takeDown : MethodName := ⟨RX6, "takeDown", "(I)V"⟩
abbrev cX6_moveFirst : ByteArray := prog_8_method_7_code
def yX6_moveFirst : MethodName := ⟨RX6, "moveFirst", "()V"⟩
abbrev cX6_leavePlot : ByteArray := prog_8_method_8_code
def yX6_leavePlot : MethodName := ⟨RX6, "leavePlot", "(I)V"⟩
abbrev cX6_freeBeyond : ByteArray := prog_8_method_9_code
def yX6_freeBeyond : MethodName := ⟨RX6, "freeBeyond", "(I)I"⟩
abbrev cX6_exchange : ByteArray := prog_8_method_10_code
def yX6_exchange : MethodName := ⟨RX6, "exchange", "(II)V"⟩
abbrev cX6_isDown : ByteArray := prog_8_method_11_code
def yX6_isDown : MethodName := ⟨RX6, "isDown", "(I)Z"⟩
abbrev cX6_areBeside : ByteArray := prog_8_method_12_code
def yX6_areBeside : MethodName := ⟨RX6, "areBeside", "(II)Z"⟩
abbrev cX6_placeInRow : ByteArray := prog_8_method_13_code
def yX6_placeInRow : MethodName := ⟨RX6, "placeInRow", "(I)I"⟩
abbrev cX6_standing : ByteArray := prog_8_method_14_code
def yX6_standing : MethodName := ⟨RX6, "standing", "()I"⟩
abbrev cX6_standsLike : ByteArray := prog_8_method_15_code
def yX6_standsLike : MethodName := ⟨RX6, "standsLike", "(LTurningTown$Town;)Z"⟩
def RX7 : String := "TurningTown$Trade"
def TX7 : u_T := fun k => match k with
  | 0 => ("TurningTown$Trade", "gets", "[I", true)
  | 1 => ("TurningTown$Trade", "pointsTo", "[I", true)
  | 2 => ("TurningTown$Trade", "isLeft", "[Z", true)
  | _ => ("TurningTown$Trade", "rings", "I", false)
def tyX7 : Nat → FieldType := fun k => match k with
  | 0 => .array .int
  | 1 => .array .int
  | 2 => .array .boolean
  | _ => .int
theorem nmX7 : ∀ a, a < 4 → ∀ b, b < 4 → a ≠ b → (TX7 a).2.1 ≠ (TX7 b).2.1 := by decide +kernel
theorem tyX7_ok : ∀ k, k < 4 → parseFieldDescriptor (TX7 k).2.2.1 = some (tyX7 k) := by decide +kernel
abbrev cX7_init : ByteArray := prog_9_method_1_code
def yX7_init : MethodName := ⟨RX7, "<init>", "()V"⟩
abbrev cX7_close : ByteArray := prog_9_method_2_code
def yX7_close : MethodName := ⟨RX7, "close", "(LTurningTown$Town;LTurningTown$Ground;)V"⟩
abbrev cX7_firstLeft : ByteArray := prog_9_method_3_code
def yX7_firstLeft : MethodName := ⟨RX7, "firstLeft", "(I)I"⟩
abbrev cX7_pointAll : ByteArray := prog_9_method_4_code
def yX7_pointAll : MethodName := ⟨RX7, "pointAll", "(LTurningTown$Town;LTurningTown$Ground;)V"⟩
abbrev cX7_nearestOwner : ByteArray := prog_9_method_5_code
def yX7_nearestOwner : MethodName := ⟨RX7, "nearestOwner", "(LTurningTown$Town;II)I"⟩
abbrev cX7_onRing : ByteArray := prog_9_method_6_code
def yX7_onRing : MethodName := ⟨RX7, "onRing", "(II)I"⟩
abbrev cX7_closeRing : ByteArray := prog_9_method_7_code
def yX7_closeRing : MethodName := ⟨RX7, "closeRing", "(ILTurningTown$Town;)V"⟩
def RX8 : String := "TurningTown"
def TX8 : u_T := fun k => match k with
  | 0 => ("TurningTown", "page", "LTurningTown$Page;", true)
  | 1 => ("TurningTown", "ground", "LTurningTown$Ground;", true)
  | 2 => ("TurningTown", "now", "LTurningTown$Story;", true)
  | 3 => ("TurningTown", "kept", "LTurningTown$Story;", true)
  | 4 => ("TurningTown", "ahead", "LTurningTown$Town;", true)
  | 5 => ("TurningTown", "trade", "LTurningTown$Trade;", true)
  | 6 => ("TurningTown", "plan", "LTurningTown$Plan;", true)
  | 7 => ("TurningTown", "guess", "LTurningTown$Guess;", true)
  | 8 => ("TurningTown", "isKept", "Z", false)
  | 9 => ("TurningTown", "squaresRead", "I", false)
  | _ => ("TurningTown", "ordersDone", "I", false)
def tyX8 : Nat → FieldType := fun k => match k with
  | 0 => .object "TurningTown$Page"
  | 1 => .object "TurningTown$Ground"
  | 2 => .object "TurningTown$Story"
  | 3 => .object "TurningTown$Story"
  | 4 => .object "TurningTown$Town"
  | 5 => .object "TurningTown$Trade"
  | 6 => .object "TurningTown$Plan"
  | 7 => .object "TurningTown$Guess"
  | 8 => .boolean
  | 9 => .int
  | _ => .int
theorem nmX8 : ∀ a, a < 11 → ∀ b, b < 11 → a ≠ b → (TX8 a).2.1 ≠ (TX8 b).2.1 := by decide +kernel
theorem tyX8_ok : ∀ k, k < 11 → parseFieldDescriptor (TX8 k).2.2.1 = some (tyX8 k) := by decide +kernel
abbrev cX8_init : ByteArray := prog_1_method_1_code
def yX8_init : MethodName := ⟨RX8, "<init>", "()V"⟩
abbrev cX8_letter : ByteArray := prog_1_method_2_code
def yX8_letter : MethodName := ⟨RX8, "letter", "(I)I"⟩
abbrev cX8_blank : ByteArray := prog_1_method_3_code
def yX8_blank : MethodName := ⟨RX8, "blank", "()I"⟩
abbrev cX8_fault : ByteArray := prog_1_method_4_code
def yX8_fault : MethodName := ⟨RX8, "fault", "()I"⟩
abbrev cX8_square : ByteArray := prog_1_method_5_code
def yX8_square : MethodName := ⟨RX8, "square", "()I"⟩
abbrev cX8_house : ByteArray := prog_1_method_6_code
def yX8_house : MethodName := ⟨RX8, "house", "(II)I"⟩
abbrev cX8_as : ByteArray := prog_1_method_7_code
def yX8_as : MethodName := ⟨RX8, "as", "(II)I"⟩
abbrev cX8_plot : ByteArray := prog_1_method_8_code
def yX8_plot : MethodName := ⟨RX8, "plot", "(II)I"⟩
abbrev cX8_night : ByteArray := prog_1_method_9_code
def yX8_night : MethodName := ⟨RX8, "night", "()I"⟩
abbrev cX8_snow : ByteArray := prog_1_method_10_code
def yX8_snow : MethodName := ⟨RX8, "snow", "()I"⟩
abbrev cX8_build : ByteArray := prog_1_method_11_code
def yX8_build : MethodName := ⟨RX8, "build", "(II)I"⟩
abbrev cX8_swap : ByteArray := prog_1_method_12_code
def yX8_swap : MethodName := ⟨RX8, "swap", "(II)I"⟩
abbrev cX8_where : ByteArray := prog_1_method_13_code
def yX8_where : MethodName := ⟨RX8, "where", "(II)I"⟩
abbrev cX8_when : ByteArray := prog_1_method_14_code
def yX8_when : MethodName := ⟨RX8, "when", "(II)I"⟩
abbrev cX8_neighbours : ByteArray := prog_1_method_15_code
def yX8_neighbours : MethodName := ⟨RX8, "neighbours", "(II)I"⟩
abbrev cX8_again : ByteArray := prog_1_method_16_code
def yX8_again : MethodName := ⟨RX8, "again", "()I"⟩
abbrev cX8_post : ByteArray := prog_1_method_17_code
def yX8_post : MethodName := ⟨RX8, "post", "(II)I"⟩
abbrev cX8_will : ByteArray := prog_1_method_18_code
def yX8_will : MethodName := ⟨RX8, "will", "(II)I"⟩
abbrev cX8_rings : ByteArray := prog_1_method_19_code
def yX8_rings : MethodName := ⟨RX8, "rings", "()I"⟩
abbrev cX8_wish : ByteArray := prog_1_method_20_code
def yX8_wish : MethodName := ⟨RX8, "wish", "(III)I"⟩
abbrev cX8_give : ByteArray := prog_1_method_21_code
def yX8_give : MethodName := ⟨RX8, "give", "()I"⟩
abbrev cX8_order : ByteArray := prog_1_method_22_code
def yX8_order : MethodName := ⟨RX8, "order", "(I)I"⟩
abbrev cX8_see : ByteArray := prog_1_method_23_code
def yX8_see : MethodName := ⟨RX8, "see", "(III)I"⟩
abbrev cX8_forget : ByteArray := prog_1_method_24_code
def yX8_forget : MethodName := ⟨RX8, "forget", "()I"⟩
abbrev cX8_years : ByteArray := prog_1_method_25_code
def yX8_years : MethodName := ⟨RX8, "years", "(III)I"⟩
abbrev cX8_image : ByteArray := prog_1_method_26_code
def yX8_image : MethodName := ⟨RX8, "image", "()I"⟩
abbrev cX8_restore : ByteArray := prog_1_method_27_code
def yX8_restore : MethodName := ⟨RX8, "restore", "()I"⟩
abbrev cX8_count : ByteArray := prog_1_method_28_code
def yX8_count : MethodName := ⟨RX8, "count", "(I)I"⟩
abbrev cX8_digest : ByteArray := prog_1_method_29_code
def yX8_digest : MethodName := ⟨RX8, "digest", "()J"⟩
abbrev cX8_withPlots : ByteArray := prog_1_method_30_code
def yX8_withPlots : MethodName := ⟨RX8, "withPlots", "(J)J"⟩
abbrev cX8_hasSquare : ByteArray := prog_1_method_31_code
def yX8_hasSquare : MethodName := ⟨RX8, "hasSquare", "()Z"⟩
abbrev cX8_isHouse : ByteArray := prog_1_method_32_code
def yX8_isHouse : MethodName := ⟨RX8, "isHouse", "(I)Z"⟩
abbrev cX8_areTwoHouses : ByteArray := prog_1_method_33_code
def yX8_areTwoHouses : MethodName := ⟨RX8, "areTwoHouses", "(II)Z"⟩
abbrev cX8_isPlot : ByteArray := prog_1_method_34_code
def yX8_isPlot : MethodName := ⟨RX8, "isPlot", "(I)Z"⟩
abbrev cX8_isKind : ByteArray := prog_1_method_35_code
def yX8_isKind : MethodName := ⟨RX8, "isKind", "(I)Z"⟩
abbrev cX8_isNoteNight : ByteArray := prog_1_method_36_code
def yX8_isNoteNight : MethodName := ⟨RX8, "isNoteNight", "(I)Z"⟩
abbrev cX8_wayRound : ByteArray := prog_1_method_37_code
def yX8_wayRound : MethodName := ⟨RX8, "wayRound", "(II)I"⟩
abbrev cX8_seedBehind : ByteArray := prog_1_method_38_code
def yX8_seedBehind : MethodName := ⟨RX8, "seedBehind", "(I)I"⟩
abbrev cX8_snowsBy : ByteArray := prog_1_method_39_code
def yX8_snowsBy : MethodName := ⟨RX8, "snowsBy", "(I)Z"⟩
def RX9 : String := "TurningTownModel"
def TX9 : u_T := fun k => match k with
  | 0 => ("TurningTownModel", "page", "[I", true)
  | 1 => ("TurningTownModel", "pageMany", "I", false)
  | 2 => ("TurningTownModel", "houses", "I", false)
  | 3 => ("TurningTownModel", "nights", "I", false)
  | 4 => ("TurningTownModel", "squaresRead", "I", false)
  | 5 => ("TurningTownModel", "worths", "[I", true)
  | 6 => ("TurningTownModel", "kinds", "[I", true)
  | 7 => ("TurningTownModel", "likes", "[I", true)
  | 8 => ("TurningTownModel", "had", "[I", true)
  | 9 => ("TurningTownModel", "plots", "[I", true)
  | 10 => ("TurningTownModel", "row", "[I", true)
  | 11 => ("TurningTownModel", "front", "I", false)
  | 12 => ("TurningTownModel", "down", "I", false)
  | 13 => ("TurningTownModel", "plotsThen", "[I", true)
  | 14 => ("TurningTownModel", "rowThen", "[I", true)
  | 15 => ("TurningTownModel", "frontThen", "I", false)
  | 16 => ("TurningTownModel", "downThen", "I", false)
  | 17 => ("TurningTownModel", "traded", "[I", true)
  | 18 => ("TurningTownModel", "points", "[I", true)
  | 19 => ("TurningTownModel", "ringsMany", "I", false)
  | 20 => ("TurningTownModel", "ringLong", "[I", true)
  | 21 => ("TurningTownModel", "wishesMany", "I", false)
  | 22 => ("TurningTownModel", "wishes", "[I", true)
  | 23 => ("TurningTownModel", "ordersDone", "I", false)
  | 24 => ("TurningTownModel", "order", "[I", true)
  | 25 => ("TurningTownModel", "bestOrder", "[I", true)
  | 26 => ("TurningTownModel", "seenMany", "I", false)
  | 27 => ("TurningTownModel", "sights", "[I", true)
  | 28 => ("TurningTownModel", "ways", "[I", true)
  | 29 => ("TurningTownModel", "seedNow", "I", false)
  | 30 => ("TurningTownModel", "keptSquare", "I", false)
  | 31 => ("TurningTownModel", "keptFront", "I", false)
  | 32 => ("TurningTownModel", "keptDown", "I", false)
  | 33 => ("TurningTownModel", "keptNights", "I", false)
  | 34 => ("TurningTownModel", "keptWishesMany", "I", false)
  | 35 => ("TurningTownModel", "keptSeen", "I", false)
  | 36 => ("TurningTownModel", "keptKinds", "[I", true)
  | 37 => ("TurningTownModel", "keptPlots", "[I", true)
  | 38 => ("TurningTownModel", "keptRow", "[I", true)
  | 39 => ("TurningTownModel", "keptHad", "[I", true)
  | 40 => ("TurningTownModel", "keptWishes", "[I", true)
  | 41 => ("TurningTownModel", "keptSights", "[I", true)
  | _ => ("TurningTownModel", "hash", "J", false)
def tyX9 : Nat → FieldType := fun k => match k with
  | 0 => .array .int
  | 1 => .int
  | 2 => .int
  | 3 => .int
  | 4 => .int
  | 5 => .array .int
  | 6 => .array .int
  | 7 => .array .int
  | 8 => .array .int
  | 9 => .array .int
  | 10 => .array .int
  | 11 => .int
  | 12 => .int
  | 13 => .array .int
  | 14 => .array .int
  | 15 => .int
  | 16 => .int
  | 17 => .array .int
  | 18 => .array .int
  | 19 => .int
  | 20 => .array .int
  | 21 => .int
  | 22 => .array .int
  | 23 => .int
  | 24 => .array .int
  | 25 => .array .int
  | 26 => .int
  | 27 => .array .int
  | 28 => .array .int
  | 29 => .int
  | 30 => .int
  | 31 => .int
  | 32 => .int
  | 33 => .int
  | 34 => .int
  | 35 => .int
  | 36 => .array .int
  | 37 => .array .int
  | 38 => .array .int
  | 39 => .array .int
  | 40 => .array .int
  | 41 => .array .int
  | _ => .long
theorem nmX9 : ∀ a, a < 43 → ∀ b, b < 43 → a ≠ b → (TX9 a).2.1 ≠ (TX9 b).2.1 := by decide +kernel
theorem tyX9_ok : ∀ k, k < 43 → parseFieldDescriptor (TX9 k).2.2.1 = some (tyX9 k) := by decide +kernel
abbrev cX9_init : ByteArray := prog_11_method_1_code
def yX9_init : MethodName := ⟨RX9, "<init>", "()V"⟩
abbrev cX9_in : ByteArray := prog_11_method_2_code
def yX9_in : MethodName := ⟨RX9, "in", "(JJJ)Z"⟩
abbrev cX9_copy : ByteArray := prog_11_method_3_code
def yX9_copy : MethodName := ⟨RX9, "copy", "([I[I)V"⟩
abbrev cX9_round : ByteArray := prog_11_method_4_code
def yX9_round : MethodName := ⟨RX9, "round", "(II)I"⟩
abbrev cX9_letter : ByteArray := prog_11_method_5_code
def yX9_letter : MethodName := ⟨RX9, "letter", "(I)I"⟩
abbrev cX9_blank : ByteArray := prog_11_method_6_code
def yX9_blank : MethodName := ⟨RX9, "blank", "()I"⟩
abbrev cX9_kindBy : ByteArray := prog_11_method_7_code
def yX9_kindBy : MethodName := ⟨RX9, "kindBy", "(I)I"⟩
abbrev cX9_isGood : ByteArray := prog_11_method_8_code
def yX9_isGood : MethodName := ⟨RX9, "isGood", "(II)Z"⟩
abbrev cX9_faultOf : ByteArray := prog_11_method_9_code
def yX9_faultOf : MethodName := ⟨RX9, "faultOf", "()I"⟩
abbrev cX9_fault : ByteArray := prog_11_method_10_code
def yX9_fault : MethodName := ⟨RX9, "fault", "()I"⟩
abbrev cX9_square : ByteArray := prog_11_method_11_code
def yX9_square : MethodName := ⟨RX9, "square", "()I"⟩
abbrev cX9_lacks : ByteArray := prog_11_method_12_code
def yX9_lacks : MethodName := ⟨RX9, "lacks", "()Z"⟩
abbrev cX9_isHouse : ByteArray := prog_11_method_13_code
def yX9_isHouse : MethodName := ⟨RX9, "isHouse", "(I)Z"⟩
abbrev cX9_areTwo : ByteArray := prog_11_method_14_code
def yX9_areTwo : MethodName := ⟨RX9, "areTwo", "(II)Z"⟩
abbrev cX9_isPlot : ByteArray := prog_11_method_15_code
def yX9_isPlot : MethodName := ⟨RX9, "isPlot", "(I)Z"⟩
abbrev cX9_begin : ByteArray := prog_11_method_16_code
def yX9_begin : MethodName := ⟨RX9, "begin", "()V"⟩
abbrev cX9_takeThen : ByteArray := prog_11_method_17_code
def yX9_takeThen : MethodName := ⟨RX9, "takeThen", "()V"⟩
abbrev cX9_onThen : ByteArray := prog_11_method_18_code
def yX9_onThen : MethodName := ⟨RX9, "onThen", "(I)I"⟩
abbrev cX9_putUp : ByteArray := prog_11_method_19_code
def yX9_putUp : MethodName := ⟨RX9, "putUp", "()V"⟩
abbrev cX9_goOn : ByteArray := prog_11_method_20_code
def yX9_goOn : MethodName := ⟨RX9, "goOn", "()I"⟩
abbrev cX9_worthOf : ByteArray := prog_11_method_21_code
def yX9_worthOf : MethodName := ⟨RX9, "worthOf", "(I)I"⟩
abbrev cX9_have : ByteArray := prog_11_method_22_code
def yX9_have : MethodName := ⟨RX9, "have", "()V"⟩
abbrev cX9_night : ByteArray := prog_11_method_23_code
def yX9_night : MethodName := ⟨RX9, "night", "()I"⟩
abbrev cX9_snow : ByteArray := prog_11_method_24_code
def yX9_snow : MethodName := ⟨RX9, "snow", "()I"⟩
abbrev cX9_build : ByteArray := prog_11_method_25_code
def yX9_build : MethodName := ⟨RX9, "build", "(II)I"⟩
abbrev cX9_swap : ByteArray := prog_11_method_26_code
def yX9_swap : MethodName := ⟨RX9, "swap", "(II)I"⟩
abbrev cX9_placeOf : ByteArray := prog_11_method_27_code
def yX9_placeOf : MethodName := ⟨RX9, "placeOf", "(I)I"⟩
abbrev cX9_tellHouse : ByteArray := prog_11_method_28_code
def yX9_tellHouse : MethodName := ⟨RX9, "tellHouse", "(II)I"⟩
abbrev cX9_house : ByteArray := prog_11_method_29_code
def yX9_house : MethodName := ⟨RX9, "house", "(II)I"⟩
abbrev cX9_as : ByteArray := prog_11_method_30_code
def yX9_as : MethodName := ⟨RX9, "as", "(II)I"⟩
abbrev cX9_standsOn : ByteArray := prog_11_method_31_code
def yX9_standsOn : MethodName := ⟨RX9, "standsOn", "(I)I"⟩
abbrev cX9_likeIt : ByteArray := prog_11_method_32_code
def yX9_likeIt : MethodName := ⟨RX9, "likeIt", "(I)I"⟩
abbrev cX9_tellPlot : ByteArray := prog_11_method_33_code
def yX9_tellPlot : MethodName := ⟨RX9, "tellPlot", "(II)I"⟩
abbrev cX9_plot : ByteArray := prog_11_method_34_code
def yX9_plot : MethodName := ⟨RX9, "plot", "(II)I"⟩
abbrev cX9_goNights : ByteArray := prog_11_method_35_code
def yX9_goNights : MethodName := ⟨RX9, "goNights", "(I)V"⟩
abbrev cX9_whereOf : ByteArray := prog_11_method_36_code
def yX9_whereOf : MethodName := ⟨RX9, "whereOf", "(II)I"⟩
abbrev cX9_where : ByteArray := prog_11_method_37_code
def yX9_where : MethodName := ⟨RX9, "where", "(II)I"⟩
abbrev cX9_when : ByteArray := prog_11_method_38_code
def yX9_when : MethodName := ⟨RX9, "when", "(II)I"⟩
abbrev cX9_neighbours : ByteArray := prog_11_method_39_code
def yX9_neighbours : MethodName := ⟨RX9, "neighbours", "(II)I"⟩
abbrev cX9_isAsNow : ByteArray := prog_11_method_40_code
def yX9_isAsNow : MethodName := ⟨RX9, "isAsNow", "()Z"⟩
abbrev cX9_againOf : ByteArray := prog_11_method_41_code
def yX9_againOf : MethodName := ⟨RX9, "againOf", "()I"⟩
abbrev cX9_again : ByteArray := prog_11_method_42_code
def yX9_again : MethodName := ⟨RX9, "again", "()I"⟩
abbrev cX9_post : ByteArray := prog_11_method_43_code
def yX9_post : MethodName := ⟨RX9, "post", "(II)I"⟩
abbrev cX9_willOf : ByteArray := prog_11_method_44_code
def yX9_willOf : MethodName := ⟨RX9, "willOf", "(II)I"⟩
abbrev cX9_will : ByteArray := prog_11_method_45_code
def yX9_will : MethodName := ⟨RX9, "will", "(II)I"⟩
abbrev cX9_isLeft : ByteArray := prog_11_method_46_code
def yX9_isLeft : MethodName := ⟨RX9, "isLeft", "(I)Z"⟩
abbrev cX9_pointsTo : ByteArray := prog_11_method_47_code
def yX9_pointsTo : MethodName := ⟨RX9, "pointsTo", "(I)I"⟩
abbrev cX9_ringOf : ByteArray := prog_11_method_48_code
def yX9_ringOf : MethodName := ⟨RX9, "ringOf", "(I)I"⟩
abbrev cX9_leftMany : ByteArray := prog_11_method_49_code
def yX9_leftMany : MethodName := ⟨RX9, "leftMany", "()I"⟩
abbrev cX9_trade : ByteArray := prog_11_method_50_code
def yX9_trade : MethodName := ⟨RX9, "trade", "()V"⟩
abbrev cX9_isLeastOn : ByteArray := prog_11_method_51_code
def yX9_isLeastOn : MethodName := ⟨RX9, "isLeastOn", "(I)Z"⟩
abbrev cX9_rings : ByteArray := prog_11_method_52_code
def yX9_rings : MethodName := ⟨RX9, "rings", "()I"⟩
abbrev cX9_wish : ByteArray := prog_11_method_53_code
def yX9_wish : MethodName := ⟨RX9, "wish", "(III)I"⟩
abbrev cX9_give : ByteArray := prog_11_method_54_code
def yX9_give : MethodName := ⟨RX9, "give", "()I"⟩
abbrev cX9_comeTrue : ByteArray := prog_11_method_55_code
def yX9_comeTrue : MethodName := ⟨RX9, "comeTrue", "()I"⟩
abbrev cX9_nextOrder : ByteArray := prog_11_method_56_code
def yX9_nextOrder : MethodName := ⟨RX9, "nextOrder", "()Z"⟩
abbrev cX9_orderOf : ByteArray := prog_11_method_57_code
def yX9_orderOf : MethodName := ⟨RX9, "orderOf", "(I)I"⟩
abbrev cX9_order : ByteArray := prog_11_method_58_code
def yX9_order : MethodName := ⟨RX9, "order", "(I)I"⟩
abbrev cX9_see : ByteArray := prog_11_method_59_code
def yX9_see : MethodName := ⟨RX9, "see", "(III)I"⟩
abbrev cX9_forget : ByteArray := prog_11_method_60_code
def yX9_forget : MethodName := ⟨RX9, "forget", "()I"⟩
abbrev cX9_layWays : ByteArray := prog_11_method_61_code
def yX9_layWays : MethodName := ⟨RX9, "layWays", "(I)V"⟩
abbrev cX9_kindsLaid : ByteArray := prog_11_method_62_code
def yX9_kindsLaid : MethodName := ⟨RX9, "kindsLaid", "(I)I"⟩
abbrev cX9_kindsOf : ByteArray := prog_11_method_63_code
def yX9_kindsOf : MethodName := ⟨RX9, "kindsOf", "(I)I"⟩
abbrev cX9_lookOf : ByteArray := prog_11_method_64_code
def yX9_lookOf : MethodName := ⟨RX9, "lookOf", "(I)I"⟩
abbrev cX9_draw : ByteArray := prog_11_method_65_code
def yX9_draw : MethodName := ⟨RX9, "draw", "(I)I"⟩
abbrev cX9_worthThen : ByteArray := prog_11_method_66_code
def yX9_worthThen : MethodName := ⟨RX9, "worthThen", "()I"⟩
abbrev cX9_years : ByteArray := prog_11_method_67_code
def yX9_years : MethodName := ⟨RX9, "years", "(III)I"⟩
abbrev cX9_image : ByteArray := prog_11_method_68_code
def yX9_image : MethodName := ⟨RX9, "image", "()I"⟩
abbrev cX9_restore : ByteArray := prog_11_method_69_code
def yX9_restore : MethodName := ⟨RX9, "restore", "()I"⟩
abbrev cX9_standing : ByteArray := prog_11_method_70_code
def yX9_standing : MethodName := ⟨RX9, "standing", "()I"⟩
abbrev cX9_worthNow : ByteArray := prog_11_method_71_code
def yX9_worthNow : MethodName := ⟨RX9, "worthNow", "()I"⟩
abbrev cX9_hadAll : ByteArray := prog_11_method_72_code
def yX9_hadAll : MethodName := ⟨RX9, "hadAll", "()I"⟩
abbrev cX9_countOf : ByteArray := prog_11_method_73_code
def yX9_countOf : MethodName := ⟨RX9, "countOf", "(I)I"⟩
abbrev cX9_count : ByteArray := prog_11_method_74_code
def yX9_count : MethodName := ⟨RX9, "count", "(I)I"⟩
abbrev cX9_say : ByteArray := prog_11_method_75_code
def yX9_say : MethodName := ⟨RX9, "say", "(J)V"⟩
abbrev cX9_sayHouse : ByteArray := prog_11_method_76_code
def yX9_sayHouse : MethodName := ⟨RX9, "sayHouse", "(I)V"⟩
abbrev cX9_saySquare : ByteArray := prog_11_method_77_code
def yX9_saySquare : MethodName := ⟨RX9, "saySquare", "()V"⟩
abbrev cX9_digest : ByteArray := prog_11_method_78_code
def yX9_digest : MethodName := ⟨RX9, "digest", "()J"⟩
def RJ11 : String := "java/lang/Character"
abbrev cJ11_isValidCodePoint_9a6ad : ByteArray := prog_12_method_11_code
def yJ11_isValidCodePoint_9a6ad : MethodName := ⟨RJ11, "isValidCodePoint", "(I)Z"⟩
abbrev cJ11_highSurrogate_5068e : ByteArray := prog_12_method_28_code
def yJ11_highSurrogate_5068e : MethodName := ⟨RJ11, "highSurrogate", "(I)C"⟩
abbrev cJ11_lowSurrogate_5068e : ByteArray := prog_12_method_29_code
def yJ11_lowSurrogate_5068e : MethodName := ⟨RJ11, "lowSurrogate", "(I)C"⟩
def RJ9 : String := "java/lang/Math"
abbrev cJ9_abs_0f7a4 : ByteArray := prog_13_method_59_code
def yJ9_abs_0f7a4 : MethodName := ⟨RJ9, "abs", "(I)I"⟩
abbrev cJ9_max_7cf53 : ByteArray := prog_13_method_65_code
def yJ9_max_7cf53 : MethodName := ⟨RJ9, "max", "(II)I"⟩
abbrev cJ9_min_7cf53 : ByteArray := prog_13_method_69_code
def yJ9_min_7cf53 : MethodName := ⟨RJ9, "min", "(II)I"⟩
def RJ0 : String := "java/lang/String"
abbrev cJ0_length_8abf5 : ByteArray := prog_14_method_54_code
def yJ0_length_8abf5 : MethodName := ⟨RJ0, "length", "()I"⟩
abbrev cJ0_indexOf_0f7a4 : ByteArray := prog_14_method_79_code
def yJ0_indexOf_0f7a4 : MethodName := ⟨RJ0, "indexOf", "(I)I"⟩
abbrev cJ0_indexOf_7cf53 : ByteArray := prog_14_method_80_code
def yJ0_indexOf_7cf53 : MethodName := ⟨RJ0, "indexOf", "(II)I"⟩
abbrev cJ0_coder_7d493 : ByteArray := prog_14_method_152_code
def yJ0_coder_7d493 : MethodName := ⟨RJ0, "coder", "()B"⟩
abbrev cJ0_isLatin1_aae02 : ByteArray := prog_14_method_154_code
def yJ0_isLatin1_aae02 : MethodName := ⟨RJ0, "isLatin1", "()Z"⟩
abbrev cJ0_checkBoundsBeginEnd_23922 : ByteArray := prog_14_method_158_code
def yJ0_checkBoundsBeginEnd_23922 : MethodName := ⟨RJ0, "checkBoundsBeginEnd", "(III)V"⟩
def RJ1 : String := "java/lang/StringLatin1"
abbrev cJ1_canEncode_9a6ad : ByteArray := prog_15_method_4_code
def yJ1_canEncode_9a6ad : MethodName := ⟨RJ1, "canEncode", "(I)Z"⟩
abbrev cJ1_indexOf_4cfef : ByteArray := prog_15_method_22_code
def yJ1_indexOf_4cfef : MethodName := ⟨RJ1, "indexOf", "([BIII)I"⟩
abbrev cJ1_indexOfChar_4cfef : ByteArray := prog_15_method_23_code
def yJ1_indexOfChar_4cfef : MethodName := ⟨RJ1, "indexOfChar", "([BIII)I"⟩
def RJ2 : String := "java/lang/StringUTF16"
abbrev cJ2_getChar_3b067 : ByteArray := prog_16_method_5_code
def yJ2_getChar_3b067 : MethodName := ⟨RJ2, "getChar", "([BI)C"⟩
abbrev cJ2_length_9d52b : ByteArray := prog_16_method_6_code
def yJ2_length_9d52b : MethodName := ⟨RJ2, "length", "([B)I"⟩
abbrev cJ2_indexOf_4cfef : ByteArray := prog_16_method_40_code
def yJ2_indexOf_4cfef : MethodName := ⟨RJ2, "indexOf", "([BIII)I"⟩
abbrev cJ2_indexOfChar_4cfef : ByteArray := prog_16_method_47_code
def yJ2_indexOfChar_4cfef : MethodName := ⟨RJ2, "indexOfChar", "([BIII)I"⟩
abbrev cJ2_indexOfCharUnsafe_4cfef : ByteArray := prog_16_method_48_code
def yJ2_indexOfCharUnsafe_4cfef : MethodName := ⟨RJ2, "indexOfCharUnsafe", "([BIII)I"⟩
abbrev cJ2_indexOfSupplementary_4cfef : ByteArray := prog_16_method_49_code
def yJ2_indexOfSupplementary_4cfef : MethodName := ⟨RJ2, "indexOfSupplementary", "([BIII)I"⟩
abbrev cJ2_checkBoundsBeginEnd_d044e : ByteArray := prog_16_method_93_code
def yJ2_checkBoundsBeginEnd_d044e : MethodName := ⟨RJ2, "checkBoundsBeginEnd", "(II[B)V"⟩
def RJ10 : String := "java/lang/System"
def RJ3 : String := "jdk/internal/util/Preconditions"
abbrev cJ3_checkFromToIndex_8c36e : ByteArray := prog_18_method_12_code
def yJ3_checkFromToIndex_8c36e : MethodName := ⟨RJ3, "checkFromToIndex", "(IIILjava/util/function/BiFunction;)I"⟩
def RL : String := "TurningTownLaw"
abbrev cL_law : ByteArray := code
def yL_law : MethodName := ⟨RL, "law", "([I)Z"⟩
abbrev vwCl : List vw_C := [(RX0, TX0, 3), (RX1, TX1, 2), (RX2, TX2, 4), (RX3, TX3, 2), (RX4, TX4, 4), (RX5, TX5, 5), (RX6, TX6, 7), (RX7, TX7, 4), (RX8, TX8, 11), (RX9, TX9, 43)]
