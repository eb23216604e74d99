def nestM : List (String × Nat × MethodName × String) := [("TurningTown", 9, ⟨"TurningTown$Page", "<init>", "()V"⟩, "TurningTown"), ("TurningTown", 18, ⟨"TurningTown$Ground", "<init>", "()V"⟩, "TurningTown"), ("TurningTown", 25, ⟨"TurningTown$Story", "<init>", "()V"⟩, "TurningTown"), ("TurningTown$Story", 11, ⟨"TurningTown$Town", "<init>", "()V"⟩, "TurningTown"), ("TurningTown", 35, ⟨"TurningTown$Town", "<init>", "()V"⟩, "TurningTown"), ("TurningTown", 42, ⟨"TurningTown$Trade", "<init>", "()V"⟩, "TurningTown"), ("TurningTown", 49, ⟨"TurningTown$Plan", "<init>", "()V"⟩, "TurningTown"), ("TurningTown$Plan", 20, ⟨"TurningTown$Town", "<init>", "()V"⟩, "TurningTown"), ("TurningTown", 56, ⟨"TurningTown$Guess", "<init>", "()V"⟩, "TurningTown"), ("TurningTown$Guess", 18, ⟨"TurningTown$Town", "<init>", "()V"⟩, "TurningTown"), ("TurningTown$Trade", 63, ⟨"TurningTown", "wayRound", "(II)I"⟩, "TurningTown"), ("TurningTown$Town", 67, ⟨"TurningTown", "wayRound", "(II)I"⟩, "TurningTown")]
def nestF : List (String × Nat × String × String × String × String) := [("TurningTown$Story", 47, "TurningTown", "BY_NUMBERS", "[I", "TurningTown"), ("TurningTown$Plan", 25, "TurningTown", "BY_NUMBERS", "[I", "TurningTown")]
/-! BASE: one list of words for all methods, one world, one context; calls in one row -/
def TT : List Cond := lw_tbl.filter goodWord
theorem tt_in {w : Cond} (h : w ∈ lw_tbl) (g : goodWord w = true) : w ∈ TT := List.mem_filter.mpr ⟨h, g⟩
theorem tt_ok {w : Cond} (h : w ∈ TT) : w ∈ TT ∧ ((w.onTables && w.keeps) = true ∨ ∃ ty, w = .arrayClass ty) := ⟨h, good_of_word (List.mem_filter.mp h).2⟩
def wz (y : MethodName) (b : ByteArray) (n : Nat) (r : Option FieldType) : List Cond := .code y b n r :: TT
theorem wz_good {y : MethodName} {b : ByteArray} {n : Nat} {r : Option FieldType} (h : Cond.code y b n r ∈ TT) : GoodIn TT (wz y b n r) := fun w hw => by
  rcases List.mem_cons.mp hw with h2 | h2
  · subst h2
    exact tt_ok h
  · exact tt_ok h2
theorem wz_app {y : MethodName} {b : ByteArray} {n : Nat} {r : Option FieldType} {l : List Cond} (hl : ∀ w ∈ l, w ∈ TT) (h : Cond.code y b n r ∈ TT) : GoodIn TT (l ++ wz y b n r) := fun w hw => by
  rcases List.mem_append.mp hw with h2 | h2
  · exact tt_ok (hl w h2)
  · exact wz_good h w h2
theorem fm_of_map {α β : Type} {f : α → Option β} : ∀ {l : List α} {w : List β}, l.map f = w.map some → l.filterMap f = w
  | [], [], _ => rfl
  | [], _ :: _, h => by cases h
  | _ :: _, [], h => by cases h
  | x :: l, y :: w, h => by
    have h1 : f x = some y ∧ l.map f = w.map some := List.cons.inj h
    rw [List.filterMap_cons, h1.1]
    exact congrArg (y :: ·) (fm_of_map h1.2)
def ov (U : State) : Prop := (Cond.arrayOver (.array .int)).before #[] U = true
theorem ov_moved {u U : State} (hvm : u.vm.Alike U.vm) (h : ov u) : ov U := by
  unfold ov Cond.before Cond.holds at h ⊢
  simp only [Cond.value, beq_iff_eq] at h ⊢
  cases hc : u.vm.findClass (FieldType.array .int).toString with
  | none => rw [hc] at h; simp at h
  | some comp =>
    rw [hc, Option.bind_some, Option.bind_eq_some_iff] at h
    obtain ⟨c, hi, h2⟩ := h
    obtain ⟨k, hk, hb⟩ := Option.map_eq_some_iff.mp h2
    obtain ⟨k', hk', he⟩ := hvm.2.2 _ _ hk
    have hi' : (U.vm.classes.findIdx? fun (x : Class) => match x.kind with | .array component _ => component == comp | _ => false) = some c := by
      have hbe : U.vm.bare = u.vm.bare := by first | exact hvm.bare_eq | exact hvm.bare_eq.symm
      have e1 := va_idx_bare U.vm comp
      have e2 := va_idx_bare u.vm comp
      rw [hbe] at e1
      exact (e1.symm.trans e2).trans hi
    have hkk : k'.kind = k.kind := by rw [he]
    have f1 : U.vm.findClass (FieldType.array .int).toString = some comp := by rw [hvm.findClass]; exact hc
    rw [f1, Option.bind_some, Option.bind_eq_some_iff]
    refine ⟨c, hi', ?_⟩
    rw [hk', Option.map_some, hkk, hvm.findClass]
    exact congrArg some hb
def NW (U : State) : Prop := (∀ q ∈ nestM, va_Nw (.methodLinkNest q.1 q.2.1 q.2.2.1 q.2.2.2) U) ∧ (∀ q ∈ nestF, va_Nw (.fieldLinkNest q.1 q.2.1 q.2.2.1 q.2.2.2.1 q.2.2.2.2.1 q.2.2.2.2.2) U) ∧ ov U
theorem NW.warm {s U : State} (hW : s.WarmedH U.vm) (h : NW s) : NW U := ⟨fun q hq => va_Nw.warmM hW (h.1 q hq), fun q hq => va_Nw.warmF hW (h.2.1 q hq), ov_moved hW.alike h.2.2⟩
def EV (D : va_G) (tys : List (ClassId × FieldType)) (U : State) : Prop := va_K D vwCl tys U ∧ NW U
theorem EV.warm {D : va_G} {tys : List (ClassId × FieldType)} {s U : State} (hW : s.WarmedH U.vm) (h : EV D tys s) : EV D tys U := ⟨va_K.moved hW.alike h.1, h.2.warm hW⟩
/-- what stays as it was at the start, outside all that is written: the static row, the text of the kinds -/
def bn : Nat → Int32 := fun j => nI j
def kb : Nat → Int32 := fun j => [104, 101, 116, 115, 99].getD j 0
def ES (D : va_G) (A : Nat → Prop) (U : State) (H : Heap) : Prop :=
  va_Z "TurningTown" "BY_NUMBERS" "[I" (.ref (D.2 100 0)) A U H ∧ (va_X (D.2 100 0) 6 bn U H ∧ D.2 100 0 < H.size ∧ ¬ A (D.2 100 0)) ∧ vk_R "TurningTown$Page" 37 "hetsc" (D.2 100 1) U ∧ va_O "java/lang/String" (D.2 100 1) A U H ∧ va_OF "java/lang/String" "coder" "B" (.int 0) (D.2 100 1) A U H ∧ va_OF "java/lang/String" "value" "[B" (.ref (D.2 100 2)) (D.2 100 1) A U H ∧ va_T .byte (D.2 100 2) 5 (fun j => .int (kb j)) A U H ∧ va_Z "java/lang/String" "COMPACT_STRINGS" "Z" (.int 1) A U H
theorem ES.call {D : va_G} {A B : Nat → Prop} {s U : State} {H : Heap} {locs : List Loc} (hS : va_S A s.heap H locs) (hW : s.WarmedH U.vm) (hU : U.heap = H) (hAB : ∀ q, B q → A q) (h : ES D A s s.heap) : ES D B U U.heap := by
  obtain ⟨h1, ⟨h2, h3, h4⟩, h5, h6, h7, h8, h9, h10⟩ := h
  rw [hU]
  have kp : ∀ a : Nat, a < s.heap.size → ¬ A a → H[a]? = s.heap[a]? := hS.2.1
  exact ⟨((h1.kept kp).moved hW.alike).narrow hAB, ⟨(h2.kept (kp _ h3 h4)).moved hW.alike, Nat.lt_of_lt_of_le h3 hS.1, fun q => h4 (hAB _ q)⟩, h5.warm hW, ((h6.kept kp).moved hW.alike).narrow hAB, ((h7.kept kp).moved hW.alike).narrow hAB, ((h8.kept kp).moved hW.alike).narrow hAB, ((h9.kept kp).moved hW.alike).narrow hAB, ((h10.kept kp).moved hW.alike).narrow hAB⟩
theorem ES.same {D : va_G} {A : Nat → Prop} {u U : State} (hv : U.vm = u.vm) (hh : U.heap = u.heap) (h : ES D A u u.heap) : ES D A U U.heap := by
  have al : u.vm.Alike U.vm := by rw [hv]; exact Vm.Alike.refl u.vm
  obtain ⟨h1, ⟨h2, h3, h4⟩, h5, h6, h7, h8, h9, h10⟩ := h
  rw [hh]
  exact ⟨h1.moved al, ⟨h2.moved al, h3, h4⟩, h5.same hv, h6.moved al, h7.moved al, h8.moved al, h9.moved al, h10.moved al⟩
def cPre (D : va_G) (tys : List (ClassId × FieldType)) (av : List Value) (w : va_W) (sz : Nat) : Array Value → State → Prop :=
  va_Pc av (fun U => U.heap.size = sz ∧ va_P D vwCl w U.heap ∧ EV D tys U ∧ va_D (fun _ => True) w ∧ ES D (va_A w sz) U U.heap)
theorem cPre_blind {D : va_G} {tys : List (ClassId × FieldType)} {av : List Value} {w : va_W} {sz : Nat} : FrameBlind (cPre D tys av w sz) := fun a U g mk q => by
  obtain ⟨q0, q1, qP, ⟨qK, qN⟩, qD, qE⟩ := q
  exact ⟨q0, q1, qP, ⟨va_K.moved (u := U) (U := U.calling g mk a) (Vm.Alike.refl U.vm) qK, fun q hq => va_Nw.same rfl (u := U) (U := U.calling g mk a) rfl (qN.1 q hq), fun q hq => va_Nw.same rfl (u := U) (U := U.calling g mk a) rfl (qN.2.1 q hq), ov_moved (u := U) (U := U.calling g mk a) (Vm.Alike.refl U.vm) qN.2.2⟩, qD, qE.same (U := U.calling g mk a) rfl rfl⟩
def cB (D : va_G) (w w1 : va_W) (sz : Nat) : Unit → State → Prop := fun _ t => va_P D vwCl w1 t.heap ∧ va_D (va_A w sz) w1
def cQi (D : va_G) (r : Int32) (w w1 : va_W) (sz : Nat) : Array Value → State → Outcome → State → Prop := va_Qi (fun r' (_ : Unit) => r' = r) (cB D w w1 sz) (va_A w sz)
def cQl (D : va_G) (r : Int64) (w w1 : va_W) (sz : Nat) : Array Value → State → Outcome → State → Prop := va_Ql (fun r' (_ : Unit) => r' = r) (cB D w w1 sz) (va_A w sz)
def cQv (D : va_G) (w w1 : va_W) (sz : Nat) : Array Value → State → Outcome → State → Prop := va_Qv (fun (_ : Unit) => True) (cB D w w1 sz) (va_A w sz)
def cQn (D : va_G) {S : Type} (w : va_W) (w1 : S → va_W) (sz : Nat) : Array Value → State → Outcome → State → Prop := va_Qv (fun (_ : S) => True) (fun u t => va_P D vwCl (w1 u) t.heap ∧ va_D (va_A w sz) (w1 u)) (va_A w sz)
abbrev cRm (f n : Nat) : Room := { frames := f, cells := 0, slots := 0, locals := n }
abbrev cRn (f n mc ms : Nat) : Room := { frames := f, cells := mc, slots := ms, locals := n }
def WD (D : va_G) (A : Nat → Prop) (ws : va_W) (H0 H : Heap) (locs : List Loc) : Prop := va_P D vwCl ws H ∧ va_D A ws ∧ va_S A H0 H locs
def CX (p : Program) (s : State) (m : MethodId) (args : Array Value) (c : Code) (cc : ByteArray) (nL : Nat) (own : String) (D : va_G) (tys : List (ClassId × FieldType)) (A : Nat → Prop) : Prop := CallFix p m c cc nL s args TT own ∧ EV D tys s ∧ (∀ q, s.heap.size ≤ q → A q) ∧ ES D A s s.heap
/-- a method's own facts: instance method -/
def MV (y : MethodName) (C : String) (b : ByteArray) (n : Nat) (r : Option FieldType) (k : Nat) : Prop := Cond.code y b n r ∈ TT ∧ Cond.instanceMethod y ∈ TT ∧ Cond.selects C y y ∈ TT ∧ Cond.initialized C ∈ TT ∧ (y.cls = C ∧ y.cls ≠ "java/lang/invoke/MethodHandle" ∧ y.cls ≠ "java/lang/invoke/VarHandle" ∧ (parseMethodDescriptor y.desc).map (fun d => d.parameters.length) = some k)
def MS (y : MethodName) (b : ByteArray) (n : Nat) (r : Option FieldType) (k : Nat) : Prop := Cond.code y b n r ∈ TT ∧ Cond.static y ∈ TT ∧ Cond.initialized y.cls ∈ TT ∧ (y.cls ≠ "java/lang/invoke/MethodHandle" ∧ y.cls ≠ "java/lang/invoke/VarHandle" ∧ (parseMethodDescriptor y.desc).map (fun d => d.parameters.length) = some k)
def MI (y : MethodName) (b : ByteArray) (n : Nat) (k : Nat) : Prop := Cond.code y b n none ∈ TT ∧ Cond.instanceMethod y ∈ TT ∧ Cond.initialized y.cls ∈ TT ∧ y.name = "<init>" ∧ (y.cls ≠ "java/lang/invoke/MethodHandle" ∧ y.cls ≠ "java/lang/invoke/VarHandle" ∧ (parseMethodDescriptor y.desc).map (fun d => d.parameters.length) = some k)
theorem in4 {a b c d : Cond} (ha : a ∈ TT) (hb : b ∈ TT) (hc : c ∈ TT) (hd : d ∈ TT) : ∀ w ∈ [a, b, c, d], w ∈ TT := List.forall_mem_cons.mpr ⟨ha, List.forall_mem_cons.mpr ⟨hb, List.forall_mem_cons.mpr ⟨hc, List.forall_mem_cons.mpr ⟨hd, fun _ h => absurd h List.not_mem_nil⟩⟩⟩⟩
theorem in3 {a b c : Cond} (ha : a ∈ TT) (hb : b ∈ TT) (hc : c ∈ TT) : ∀ w ∈ [a, b, c], w ∈ TT := List.forall_mem_cons.mpr ⟨ha, List.forall_mem_cons.mpr ⟨hb, List.forall_mem_cons.mpr ⟨hc, fun _ h => absurd h List.not_mem_nil⟩⟩⟩
theorem gV {own C : String} {index n k : Nat} {y : MethodName} {b : ByteArray} {r : Option FieldType} (h : Cond.methodLink own index y ∈ TT) (hm : MV y C b n r k) : GoodIn TT (wsV own index C y (wz y b n r)) := wz_app (l := [.methodLink own index y, .instanceMethod y, .selects C y y, .initialized C]) (in4 h hm.2.1 hm.2.2.1 hm.2.2.2.1) hm.1
theorem gS {own : String} {index n k : Nat} {y : MethodName} {b : ByteArray} {r : Option FieldType} (h : Cond.methodLink own index y ∈ TT) (hm : MS y b n r k) : GoodIn TT (va_wsS own index y (wz y b n r)) := wz_app (l := [.methodLink own index y, .static y, .initialized y.cls]) (in3 h hm.2.1 hm.2.2.1) hm.1
theorem ift {α : Type} {c : Prop} [Decidable c] {x y z : α} (hc : c) (h : (if c then x else y) = z) : x = z := by rw [if_pos hc] at h; exact h
theorem iff_ {α : Type} {c : Prop} [Decidable c] {x y z : α} (hc : ¬ c) (h : (if c then x else y) = z) : y = z := by rw [if_neg hc] at h; exact h
theorem gd {α : Type} {c : Prop} [Decidable c] {x : Option α} {z : α} (h : (if c then none else x) = some z) : ¬ c ∧ x = some z := by
  by_cases hc : c
  · rw [if_pos hc] at h; cases h
  · rw [if_neg hc] at h; exact ⟨hc, h⟩
theorem obd {α β : Type} {x : Option α} {f : α → Option β} {z : β} (h : x.bind f = some z) : ∃ a, x = some a ∧ f a = some z := Option.bind_eq_some_iff.mp h
theorem nn {α : Type} {z : α} {P : Prop} (h : (none : Option α) = some z) : P := by cases h
/-- a loop, with fuel -/
noncomputable def lfix {α ρ : Type} (step : (α → Option ρ) → α → Option ρ) : Nat → α → Option ρ
  | 0, _ => none
  | n + 1, a => step (lfix step n) a
theorem lfix_s {α ρ : Type} (step : (α → Option ρ) → α → Option ρ) (n : Nat) (a : α) : lfix step (n + 1) a = step (lfix step n) a := rfl
theorem lfix_W {α ρ : Type} {step : (α → Option ρ) → α → Option ρ} {r : ρ} {P : α → Prop} (hs : ∀ K : α → Option ρ, (∀ a, K a = some r → P a) → ∀ a, step K a = some r → P a) : ∀ (n : Nat) (a : α), lfix step n a = some r → P a
  | 0, _, h => by cases h
  | n + 1, a, h => hs (lfix step n) (lfix_W hs n) a h
theorem WD.sub {D : va_G} {A : Nat → Prop} {ws ws' : va_W} {H0 H : Heap} {locs : List Loc} (hw : WD D A ws H0 H locs) (is : List Nat) (hn : va_nd is = true) (hs : is.map (fun i => ws[i]?) = ws'.map some) : WD D A ws' H0 H locs := ⟨hw.1.sub is (fm_of_map hs), hw.2.1.sub is hn hs, hw.2.2⟩
abbrev TY (cI cZ cG : ClassId) : List (ClassId × FieldType) := [(cI, .int), (cZ, .boolean), (cG, .array .int)]
def RM (R : Room) (f n cells slots : Nat) : Prop := f ≤ R.frames ∧ n ≤ R.locals ∧ cells ≤ R.cells ∧ slots ≤ R.slots
theorem RM.call {R : Room} {F N cells slots f n maxL : Nat} (h : RM R F N cells slots) (hf : f + 1 ≤ F) (hn : 8 + (maxL + 11) + n ≤ N) : f + 1 ≤ R.frames ∧ 8 + (maxL + 11) + n ≤ R.locals := ⟨Nat.le_trans hf h.1, Nat.le_trans hn h.2.1⟩
section MK
variable {l : Launch} {y : MethodName} {cc : ByteArray} {maxL F n sz : Nat} {D : va_G} {tys : List (ClassId × FieldType)} {av : List Value} {w w1 : va_W}
theorem mk_i {r : Int32} (hy : plainName y.cls = true) (hlen : (lg_sl av).length ≤ maxL)
    (body : ∀ {p : Program} {e : Env} {s : State} {m : MethodId} {below : List Frame} {meth : Method} {c : Code} {Q : State → Prop} {R : Room} {ls : Array Slot}, CX p s m av.toArray c cc maxL y.cls D tys (va_A w sz) → RM R F n 0 0 → (∀ (pc : Nat) (H : Heap) (locs : List Loc) (ls : Array Slot), decode cc pc = .ok (.ireturn, 1) → WD D (va_A w sz) w1 s.heap H locs → W p l e R s m av.toArray below meth c H locs 0 0 Q (F0 m pc ls [.int r])) → WD D (va_A w sz) w s.heap s.heap [] → lv_has ls maxL (lv_args 0 av) → W p l e R s m av.toArray below meth c s.heap [] 0 0 Q (F0 m 0 ls [])) :
    Met l y (wz y cc maxL (some .int)) (cRm F n) (cPre D tys av w sz) (cQi D r w w1 sz) 0 0 (va_A w sz) := by
  refine Met.ofW (cc := cc) (maxL := maxL) (ret := some .int) hy rfl ?_
  intro p e s m args below meth c s₁ B hml hv
  obtain ⟨rfl, hsz, hP, hE, hD0, hES⟩ := hv
  subst hsz
  have hts0 := atoms_spec (ws := wz y cc maxL (some .int)) B.pre
  have hlocks := B.notSynchronized
  have X : CX p s m av.toArray c cc maxL y.cls D tys (va_A w s.heap.size) := ⟨⟨B.exec, B.bytes, hml, findClass_of_methodNamed B.named, fun v h => hts0 v (List.mem_cons_of_mem _ h)⟩, hE, fun q h => Or.inr h, hES⟩
  rw [lg_entry_eq]
  exact body X ⟨Nat.le_refl _, Nat.le_refl _, Nat.zero_le _, Nat.zero_le _⟩ (fun pc H locs ls hd hw => W.iret B.exec B.bytes B.returns (fun t ht hW => ⟨⟨r, (), rfl, rfl, by rw [ht]; exact hw.1, hw.2.1⟩, hw.2.2.F ht⟩) hw.2.2.2.2 hd) ⟨hP, hD0.self, va_S.rf⟩ (lv_entry av hlen)
theorem mk_z {r : Int32} (hy : plainName y.cls = true) (hlen : (lg_sl av).length ≤ maxL)
    (body : ∀ {p : Program} {e : Env} {s : State} {m : MethodId} {below : List Frame} {meth : Method} {c : Code} {Q : State → Prop} {R : Room} {ls : Array Slot}, CX p s m av.toArray c cc maxL y.cls D tys (va_A w sz) → RM R F n 0 0 → (∀ (pc : Nat) (H : Heap) (locs : List Loc) (ls : Array Slot), narrow .boolean (.int r) = .int r → decode cc pc = .ok (.ireturn, 1) → WD D (va_A w sz) w1 s.heap H locs → W p l e R s m av.toArray below meth c H locs 0 0 Q (F0 m pc ls [.int r])) → WD D (va_A w sz) w s.heap s.heap [] → lv_has ls maxL (lv_args 0 av) → W p l e R s m av.toArray below meth c s.heap [] 0 0 Q (F0 m 0 ls [])) :
    Met l y (wz y cc maxL (some .boolean)) (cRm F n) (cPre D tys av w sz) (cQi D r w w1 sz) 0 0 (va_A w sz) := by
  refine Met.ofW (cc := cc) (maxL := maxL) (ret := some .boolean) hy rfl ?_
  intro p e s m args below meth c s₁ B hml hv
  obtain ⟨rfl, hsz, hP, hE, hD0, hES⟩ := hv
  subst hsz
  have hts0 := atoms_spec (ws := wz y cc maxL (some .boolean)) B.pre
  have hlocks := B.notSynchronized
  have X : CX p s m av.toArray c cc maxL y.cls D tys (va_A w s.heap.size) := ⟨⟨B.exec, B.bytes, hml, findClass_of_methodNamed B.named, fun v h => hts0 v (List.mem_cons_of_mem _ h)⟩, hE, fun q h => Or.inr h, hES⟩
  rw [lg_entry_eq]
  exact body X ⟨Nat.le_refl _, Nat.le_refl _, Nat.zero_le _, Nat.zero_le _⟩ (fun pc H locs ls hz hd hw => W.zret B.exec B.bytes B.returns hz (fun t ht hW => ⟨⟨r, (), rfl, rfl, by rw [ht]; exact hw.1, hw.2.1⟩, hw.2.2.F ht⟩) hw.2.2.2.2 hd) ⟨hP, hD0.self, va_S.rf⟩ (lv_entry av hlen)
theorem mk_b {r : Int32} (hy : plainName y.cls = true) (hlen : (lg_sl av).length ≤ maxL)
    (body : ∀ {p : Program} {e : Env} {s : State} {m : MethodId} {below : List Frame} {meth : Method} {c : Code} {Q : State → Prop} {R : Room} {ls : Array Slot}, CX p s m av.toArray c cc maxL y.cls D tys (va_A w sz) → RM R F n 0 0 → (∀ (pc : Nat) (H : Heap) (locs : List Loc) (ls : Array Slot), narrow .byte (.int r) = .int r → decode cc pc = .ok (.ireturn, 1) → WD D (va_A w sz) w1 s.heap H locs → W p l e R s m av.toArray below meth c H locs 0 0 Q (F0 m pc ls [.int r])) → WD D (va_A w sz) w s.heap s.heap [] → lv_has ls maxL (lv_args 0 av) → W p l e R s m av.toArray below meth c s.heap [] 0 0 Q (F0 m 0 ls [])) :
    Met l y (wz y cc maxL (some .byte)) (cRm F n) (cPre D tys av w sz) (cQi D r w w1 sz) 0 0 (va_A w sz) := by
  refine Met.ofW (cc := cc) (maxL := maxL) (ret := some .byte) hy rfl ?_
  intro p e s m args below meth c s₁ B hml hv
  obtain ⟨rfl, hsz, hP, hE, hD0, hES⟩ := hv
  subst hsz
  have hts0 := atoms_spec (ws := wz y cc maxL (some .byte)) B.pre
  have hlocks := B.notSynchronized
  have X : CX p s m av.toArray c cc maxL y.cls D tys (va_A w s.heap.size) := ⟨⟨B.exec, B.bytes, hml, findClass_of_methodNamed B.named, fun v h => hts0 v (List.mem_cons_of_mem _ h)⟩, hE, fun q h => Or.inr h, hES⟩
  rw [lg_entry_eq]
  exact body X ⟨Nat.le_refl _, Nat.le_refl _, Nat.zero_le _, Nat.zero_le _⟩ (fun pc H locs ls hz hd hw => W.zret B.exec B.bytes B.returns hz (fun t ht hW => ⟨⟨r, (), rfl, rfl, by rw [ht]; exact hw.1, hw.2.1⟩, hw.2.2.F ht⟩) hw.2.2.2.2 hd) ⟨hP, hD0.self, va_S.rf⟩ (lv_entry av hlen)
theorem mk_l {r : Int64} (hy : plainName y.cls = true) (hlen : (lg_sl av).length ≤ maxL)
    (body : ∀ {p : Program} {e : Env} {s : State} {m : MethodId} {below : List Frame} {meth : Method} {c : Code} {Q : State → Prop} {R : Room} {ls : Array Slot}, CX p s m av.toArray c cc maxL y.cls D tys (va_A w sz) → RM R F n 0 0 → (∀ (pc : Nat) (H : Heap) (locs : List Loc) (ls : Array Slot), decode cc pc = .ok (.lreturn, 1) → WD D (va_A w sz) w1 s.heap H locs → W p l e R s m av.toArray below meth c H locs 0 0 Q (F0 m pc ls [.long r])) → WD D (va_A w sz) w s.heap s.heap [] → lv_has ls maxL (lv_args 0 av) → W p l e R s m av.toArray below meth c s.heap [] 0 0 Q (F0 m 0 ls [])) :
    Met l y (wz y cc maxL (some .long)) (cRm F n) (cPre D tys av w sz) (cQl D r w w1 sz) 0 0 (va_A w sz) := by
  refine Met.ofW (cc := cc) (maxL := maxL) (ret := some .long) hy rfl ?_
  intro p e s m args below meth c s₁ B hml hv
  obtain ⟨rfl, hsz, hP, hE, hD0, hES⟩ := hv
  subst hsz
  have hts0 := atoms_spec (ws := wz y cc maxL (some .long)) B.pre
  have hlocks := B.notSynchronized
  have X : CX p s m av.toArray c cc maxL y.cls D tys (va_A w s.heap.size) := ⟨⟨B.exec, B.bytes, hml, findClass_of_methodNamed B.named, fun v h => hts0 v (List.mem_cons_of_mem _ h)⟩, hE, fun q h => Or.inr h, hES⟩
  rw [lg_entry_eq]
  exact body X ⟨Nat.le_refl _, Nat.le_refl _, Nat.zero_le _, Nat.zero_le _⟩ (fun pc H locs ls hd hw => W.lret B.exec B.bytes B.returns (fun t ht hW => ⟨⟨r, (), rfl, rfl, by rw [ht]; exact hw.1, hw.2.1⟩, hw.2.2.F ht⟩) hw.2.2.2.2 hd) ⟨hP, hD0.self, va_S.rf⟩ (lv_entry av hlen)
theorem mk_v (hy : plainName y.cls = true) (hlen : (lg_sl av).length ≤ maxL)
    (body : ∀ {p : Program} {e : Env} {s : State} {m : MethodId} {below : List Frame} {meth : Method} {c : Code} {Q : State → Prop} {R : Room} {ls : Array Slot}, CX p s m av.toArray c cc maxL y.cls D tys (va_A w sz) → RM R F n 0 0 → (∀ (pc : Nat) (H : Heap) (locs : List Loc) (ls : Array Slot), decode cc pc = .ok (.return_, 1) → WD D (va_A w sz) w1 s.heap H locs → W p l e R s m av.toArray below meth c H locs 0 0 Q (F0 m pc ls [])) → WD D (va_A w sz) w s.heap s.heap [] → lv_has ls maxL (lv_args 0 av) → W p l e R s m av.toArray below meth c s.heap [] 0 0 Q (F0 m 0 ls [])) :
    Met l y (wz y cc maxL none) (cRm F n) (cPre D tys av w sz) (cQv D w w1 sz) 0 0 (va_A w sz) := by
  refine Met.ofW (cc := cc) (maxL := maxL) (ret := none) hy rfl ?_
  intro p e s m args below meth c s₁ B hml hv
  obtain ⟨rfl, hsz, hP, hE, hD0, hES⟩ := hv
  subst hsz
  have hts0 := atoms_spec (ws := wz y cc maxL none) B.pre
  have hlocks := B.notSynchronized
  have X : CX p s m av.toArray c cc maxL y.cls D tys (va_A w s.heap.size) := ⟨⟨B.exec, B.bytes, hml, findClass_of_methodNamed B.named, fun v h => hts0 v (List.mem_cons_of_mem _ h)⟩, hE, fun q h => Or.inr h, hES⟩
  rw [lg_entry_eq]
  exact body X ⟨Nat.le_refl _, Nat.le_refl _, Nat.zero_le _, Nat.zero_le _⟩ (fun pc H locs ls hd hw => W.vret B.exec B.bytes B.returns (fun t ht hW => ⟨⟨(), rfl, trivial, by rw [ht]; exact hw.1, hw.2.1⟩, hw.2.2.F ht⟩) hw.2.2.2.2 hd) ⟨hP, hD0.self, va_S.rf⟩ (lv_entry av hlen)
theorem mk_n {S : Type} {w2 : S → va_W} {mc ms : Nat} (hy : plainName y.cls = true) (hi : y.name = "<init>") (hlen : (lg_sl av).length ≤ maxL)
    (body : ∀ {p : Program} {e : Env} {s : State} {m : MethodId} {below : List Frame} {meth : Method} {c : Code} {Q : State → Prop} {R : Room} {ls : Array Slot}, CX p s m av.toArray c cc maxL y.cls D tys (va_A w sz) → RM R F n mc ms → meth.name = "<init>" → (∀ (u : S) (pc : Nat) (H : Heap) (locs : List Loc) (ls : Array Slot), decode cc pc = .ok (.return_, 1) → WD D (va_A w sz) (w2 u) s.heap H locs → W p l e R s m av.toArray below meth c H locs mc ms Q (F0 m pc ls [])) → WD D (va_A w sz) w s.heap s.heap [] → lv_has ls maxL (lv_args 0 av) → W p l e R s m av.toArray below meth c s.heap [] 0 0 Q (F0 m 0 ls [])) :
    Met l y (wz y cc maxL none) (cRn F n mc ms) (cPre D tys av w sz) (cQn D w w2 sz) mc ms (va_A w sz) := by
  refine Met.ofW (cc := cc) (maxL := maxL) (ret := none) hy rfl ?_
  intro p e s m args below meth c s₁ B hml hv
  obtain ⟨rfl, hsz, hP, hE, hD0, hES⟩ := hv
  subst hsz
  have hts0 := atoms_spec (ws := wz y cc maxL none) B.pre
  have hlocks := B.notSynchronized
  have hin : meth.name = y.name := (name_of_methodNamed B.named B.method).1
  have X : CX p s m av.toArray c cc maxL y.cls D tys (va_A w s.heap.size) := ⟨⟨B.exec, B.bytes, hml, findClass_of_methodNamed B.named, fun v h => hts0 v (List.mem_cons_of_mem _ h)⟩, hE, fun q h => Or.inr h, hES⟩
  rw [lg_entry_eq]
  exact body X ⟨Nat.le_refl _, Nat.le_refl _, Nat.le_refl _, Nat.le_refl _⟩ (hin.trans hi) (fun u pc H locs ls hd hw => W.vret B.exec B.bytes B.returns (fun t ht hW => ⟨⟨u, rfl, trivial, by rw [ht]; exact hw.1, hw.2.1⟩, hw.2.2.F ht⟩) hw.2.2.2.2 hd) ⟨hP, hD0.self, va_S.rf⟩ (lv_entry av hlen)
end MK
section KB
variable {p : Program} {l : Launch} {e : Env} {R : Room} {s : State} {m : MethodId} {args : Array Value} {below : List Frame} {meth : Method} {c : Code} {H : Heap} {locs : List Loc} {cells slots : Nat} {Q : State → Prop}
variable {cc : ByteArray} {pc nL : Nat} {ls : Array Slot} {rest : List Value} {D : va_G} {A : Nat → Prop} {a : Nat} {tys : List (ClassId × FieldType)} {ws : va_W} {own : String}
theorem kget {C : String} {T : u_T} {N ci index : Nat} {fs : List Value} {v : Value} (X : CX p s m args c cc nL own D tys A) (hw : WD D A ws s.heap H locs) (hin : ∀ w ∈ u_ws C T N, w ∈ TT) (q0 : Nat) (he : ws[q0]? = some (a, .inr (ci, fs))) (hc : vwCl[ci]? = some (C, T, N)) (k : Nat) (hk : k < N) (hl : Cond.fieldLink own index (T k).1 (T k).2.1 (T k).2.2.1 ∈ TT) (hv : fs[k]? = some v) (hdg : decode cc pc = .ok (.getfield index, 3))
    (kk : W p l e R s m args below meth c H locs cells slots Q (F0 m (pc + 3) ls (v :: rest))) : W p l e R s m args below meth c H locs cells slots Q (F0 m pc ls (.ref a :: rest)) :=
  va_get X.1.1 X.1.2.1 X.1.2.2.2.2 hin X.1.2.2.2.1 X.2.1.1 hw.1 q0 he hc k hk (X.1.2.2.2.2 _ hl) (fun _ h => h) hv hdg kk
theorem kput {C : String} {T : u_T} {N ci index : Nat} {fs : List Value} {v : Value} {ty : FieldType} {ty0 : Nat → FieldType} (X : CX p s m args c cc nL own D tys A) (hw : WD D A ws s.heap H locs) (hin : ∀ w ∈ u_ws C T N, w ∈ TT) (hty : ∀ k, k < N → parseFieldDescriptor (T k).2.2.1 = some (ty0 k)) (hnm : ∀ a, a < N → ∀ b, b < N → a ≠ b → (T a).2.1 ≠ (T b).2.1) (q0 : Nat) (he : ws[q0]? = some (a, .inr (ci, fs))) (hc : vwCl[ci]? = some (C, T, N)) (k : Nat) (hk : k < N) (hl : Cond.fieldLink own index (T k).1 (T k).2.1 (T k).2.2.1 ∈ TT) (hfin : (T k).2.2.2 = false) (hd : ty0 k = ty) (hn : narrow ty v = v) (hfit : fits ty v = true) (hlen : k < fs.length) (hdg : decode cc pc = .ok (.putfield index, 3))
    (kk : ∀ (H1 : Heap) (locs1 : List Loc), WD D A (ws.set q0 (a, .inr (ci, fs.set k v))) s.heap H1 locs1 → W p l e R s m args below meth c H1 locs1 cells slots Q (F0 m (pc + 3) ls rest)) : W p l e R s m args below meth c H locs cells slots Q (F0 m pc ls (v :: .ref a :: rest)) :=
  va_put X.1.1 X.1.2.1 X.1.2.2.2.2 hin ty0 hty hnm X.1.2.2.2.1 X.2.1.1 hw.1 hw.2.1 hw.2.2 q0 he hc k hk (X.1.2.2.2.2 _ hl) (fun _ h => h) hfin (by rw [← hd]; exact hty k hk) hn hfit hlen hdg (fun H1 locs1 h1 h2 h3 => kk H1 locs1 ⟨h1, h2, h3⟩)
theorem kputF {C : String} {T : u_T} {N ci index : Nat} {fs : List Value} {v : Value} {ty : FieldType} {ty0 : Nat → FieldType} (X : CX p s m args c cc nL own D tys A) (hw : WD D A ws s.heap H locs) (hin : ∀ w ∈ u_ws C T N, w ∈ TT) (hty : ∀ k, k < N → parseFieldDescriptor (T k).2.2.1 = some (ty0 k)) (hnm : ∀ a, a < N → ∀ b, b < N → a ≠ b → (T a).2.1 ≠ (T b).2.1) (hi : meth.name = "<init>") (q0 : Nat) (he : ws[q0]? = some (a, .inr (ci, fs))) (hc : vwCl[ci]? = some (C, T, N)) (k : Nat) (hk : k < N) (hl : Cond.fieldLink own index (T k).1 (T k).2.1 (T k).2.2.1 ∈ TT) (hfin : (T k).2.2.2 = true) (hdc : (T k).1 = own) (hd : ty0 k = ty) (hn : narrow ty v = v) (hfit : fits ty v = true) (hlen : k < fs.length) (hdg : decode cc pc = .ok (.putfield index, 3))
    (kk : ∀ (H1 : Heap) (locs1 : List Loc), WD D A (ws.set q0 (a, .inr (ci, fs.set k v))) s.heap H1 locs1 → W p l e R s m args below meth c H1 locs1 cells slots Q (F0 m (pc + 3) ls rest)) : W p l e R s m args below meth c H locs cells slots Q (F0 m pc ls (v :: .ref a :: rest)) :=
  va_putF X.1.1 X.1.2.1 X.1.2.2.2.2 hin ty0 hty hnm X.1.2.2.2.1 X.2.1.1 hw.1 hw.2.1 hw.2.2 q0 he hc k hk (X.1.2.2.2.2 _ hl) (fun _ h => h) hfin hi hdc (by rw [← hd]; exact hty k hk) hn hfit hlen hdg (fun H1 locs1 h1 h2 h3 => kk H1 locs1 ⟨h1, h2, h3⟩)
theorem kiald {cA : ClassId} {n : Nat} {f : Nat → Int32} {i : Int32} (X : CX p s m args c cc nL own D tys A) (hw : WD D A ws s.heap H locs) (q0 : Nat) (ha : ws[q0]? = some (a, .inl (cA, n, .inl f))) (ht : tys[0]? = some (cA, .int)) (hin : ¬ (i < 0 ∨ n ≤ i.toNatClampNeg)) (hdg : decode cc pc = .ok (.iaload, 1))
    (kk : W p l e R s m args below meth c H locs cells slots Q (F0 m (pc + 1) ls (.int (f i.toNatClampNeg) :: rest))) : W p l e R s m args below meth c H locs cells slots Q (F0 m pc ls (.int i :: .ref a :: rest)) :=
  va_iald X.1.1 X.1.2.1 X.2.1.1 hw.1 q0 0 ha ht hin hdg kk
theorem kiast {cA : ClassId} {n : Nat} {f : Nat → Int32} {i x : Int32} (X : CX p s m args c cc nL own D tys A) (hw : WD D A ws s.heap H locs) (q0 : Nat) (ha : ws[q0]? = some (a, .inl (cA, n, .inl f))) (ht : tys[0]? = some (cA, .int)) (hin : ¬ (i < 0 ∨ n ≤ i.toNatClampNeg)) (hdg : decode cc pc = .ok (.iastore, 1))
    (kk : ∀ (H1 : Heap) (locs1 : List Loc), WD D A (ws.set q0 (a, .inl (cA, n, .inl (upd f i.toNatClampNeg x)))) s.heap H1 locs1 → W p l e R s m args below meth c H1 locs1 cells slots Q (F0 m (pc + 1) ls rest)) : W p l e R s m args below meth c H locs cells slots Q (F0 m pc ls (.int x :: .int i :: .ref a :: rest)) :=
  va_iast X.1.1 X.1.2.1 X.2.1.1 hw.1 hw.2.1 hw.2.2 q0 0 ha ht hin hdg (fun H1 locs1 h1 h2 h3 => kk H1 locs1 ⟨h1, h2, h3⟩)
theorem kzald {cA : ClassId} {n : Nat} {f : Nat → Int32} {i : Int32} (X : CX p s m args c cc nL own D tys A) (hw : WD D A ws s.heap H locs) (q0 : Nat) (ha : ws[q0]? = some (a, .inl (cA, n, .inl f))) (ht : tys[1]? = some (cA, .boolean)) (hin : ¬ (i < 0 ∨ n ≤ i.toNatClampNeg)) (hdg : decode cc pc = .ok (.baload, 1))
    (kk : W p l e R s m args below meth c H locs cells slots Q (F0 m (pc + 1) ls (.int (f i.toNatClampNeg) :: rest))) : W p l e R s m args below meth c H locs cells slots Q (F0 m pc ls (.int i :: .ref a :: rest)) :=
  va_zald X.1.1 X.1.2.1 X.2.1.1 hw.1 q0 1 ha ht hin hdg kk
theorem kzast {cA : ClassId} {n : Nat} {f : Nat → Int32} {i x : Int32} (X : CX p s m args c cc nL own D tys A) (hw : WD D A ws s.heap H locs) (q0 : Nat) (ha : ws[q0]? = some (a, .inl (cA, n, .inl f))) (ht : tys[1]? = some (cA, .boolean)) (hin : ¬ (i < 0 ∨ n ≤ i.toNatClampNeg)) (hdg : decode cc pc = .ok (.bastore, 1))
    (kk : ∀ (H1 : Heap) (locs1 : List Loc), WD D A (ws.set q0 (a, .inl (cA, n, .inl (upd f i.toNatClampNeg (vp_nar .boolean x))))) s.heap H1 locs1 → W p l e R s m args below meth c H1 locs1 cells slots Q (F0 m (pc + 1) ls rest)) : W p l e R s m args below meth c H locs cells slots Q (F0 m pc ls (.int x :: .int i :: .ref a :: rest)) :=
  va_zast X.1.1 X.1.2.1 X.2.1.1 hw.1 hw.2.1 hw.2.2 q0 1 ha ht hin hdg (fun H1 locs1 h1 h2 h3 => kk H1 locs1 ⟨h1, h2, h3⟩)
theorem kalen {cA : ClassId} {x : vp_A} {v : Int32} (X : CX p s m args c cc nL own D tys A) (hw : WD D A ws s.heap H locs) (q0 : Nat) (ha : ws[q0]? = some (a, .inl (cA, x))) (ht : tys[0]? = some (cA, .int)) (hv : Int32.ofNat x.1 = v) (hdg : decode cc pc = .ok (.arraylength, 1))
    (kk : W p l e R s m args below meth c H locs cells slots Q (F0 m (pc + 1) ls (.int v :: rest))) : W p l e R s m args below meth c H locs cells slots Q (F0 m pc ls (.ref a :: rest)) :=
  va_alen X.1.1 X.1.2.1 X.2.1.1 hw.1 q0 0 ha ht hv hdg kk
theorem kmin {index : Nat} {x y : Int32} (X : CX p s m args c cc nL own D tys A) (hsz : ls.size = nL) (hl : Cond.methodLink own index Lib.Math.min.name ∈ TT) (h2 : Cond.static Lib.Math.min.name ∈ TT) (h3 : Cond.initialized "java/lang/Math" ∈ TT) (h4 : Cond.code Lib.Math.min.name Lib.Math.min.code 2 (some .int) ∈ TT) (hf : 1 ≤ R.frames) (hlo : (rest.map fun v => v.category).sum + 13 ≤ R.locals) (hcs : cells ≤ R.cells ∧ slots ≤ R.slots) (hdg : decode cc pc = .ok (.invokestatic index, 3))
    (kk : W p l e R s m args below meth c H locs cells slots Q (F0 m (pc + 3) ls (.int (if y < x then y else x) :: rest))) : W p l e R s m args below meth c H locs cells slots Q (F0 m pc ls (.int y :: .int x :: rest)) :=
  va_mmin X.1.1 X.1.2.1 (X.1.2.2.1.trans hsz.symm) X.1.2.2.2.1 (X.1.2.2.2.2 _ hl) (X.1.2.2.2.2 _ h2) (X.1.2.2.2.2 _ h3) (X.1.2.2.2.2 _ h4) hf hlo hcs.1 hcs.2 hdg kk
theorem kmax {index : Nat} {x y : Int32} (X : CX p s m args c cc nL own D tys A) (hsz : ls.size = nL) (hl : Cond.methodLink own index Lib.Math.max.name ∈ TT) (h2 : Cond.static Lib.Math.max.name ∈ TT) (h3 : Cond.initialized "java/lang/Math" ∈ TT) (h4 : Cond.code Lib.Math.max.name Lib.Math.max.code 2 (some .int) ∈ TT) (hf : 1 ≤ R.frames) (hlo : (rest.map fun v => v.category).sum + 13 ≤ R.locals) (hcs : cells ≤ R.cells ∧ slots ≤ R.slots) (hdg : decode cc pc = .ok (.invokestatic index, 3))
    (kk : W p l e R s m args below meth c H locs cells slots Q (F0 m (pc + 3) ls (.int (if x < y then y else x) :: rest))) : W p l e R s m args below meth c H locs cells slots Q (F0 m pc ls (.int y :: .int x :: rest)) :=
  va_mmax X.1.1 X.1.2.1 (X.1.2.2.1.trans hsz.symm) X.1.2.2.2.1 (X.1.2.2.2.2 _ hl) (X.1.2.2.2.2 _ h2) (X.1.2.2.2.2 _ h3) (X.1.2.2.2.2 _ h4) hf hlo hcs.1 hcs.2 hdg kk
theorem kabs {index : Nat} {x : Int32} (X : CX p s m args c cc nL own D tys A) (hsz : ls.size = nL) (hl : Cond.methodLink own index Lib.Math.abs.name ∈ TT) (h2 : Cond.static Lib.Math.abs.name ∈ TT) (h3 : Cond.initialized "java/lang/Math" ∈ TT) (h4 : Cond.code Lib.Math.abs.name Lib.Math.abs.code 1 (some .int) ∈ TT) (hf : 1 ≤ R.frames) (hlo : (rest.map fun v => v.category).sum + 13 ≤ R.locals) (hcs : cells ≤ R.cells ∧ slots ≤ R.slots) (hdg : decode cc pc = .ok (.invokestatic index, 3))
    (kk : W p l e R s m args below meth c H locs cells slots Q (F0 m (pc + 3) ls (.int (if 0 ≤ x then x else 0 - x) :: rest))) : W p l e R s m args below meth c H locs cells slots Q (F0 m pc ls (.int x :: rest)) :=
  va_mabs X.1.1 X.1.2.1 (X.1.2.2.1.trans hsz.symm) X.1.2.2.2.1 (X.1.2.2.2.2 _ hl) (X.1.2.2.2.2 _ h2) (X.1.2.2.2.2 _ h3) (X.1.2.2.2.2 _ h4) hf hlo hcs.1 hcs.2 hdg kk
theorem knewi {cI cZ cG : ClassId} {n : Int32} {N : Nat} (X : CX p s m args c cc nL own D (TY cI cZ cG) A) (hw : WD D A ws s.heap H locs) (harr : Cond.arrayClass .int ∈ TT) (hn : ¬ n < 0) (hN : n.toNatClampNeg = N) (hbytes : N * 4 ≤ 536870912) (hcells : cells + 1 ≤ R.cells) (hslots : slots + N ≤ R.slots) (hdg : decode cc pc = .ok (.newarray .int, 2))
    (kk : ∀ (q : Nat) (H1 : Heap), WD D A (ws ++ [(q, .inl (cI, N, .inl (fun _ => 0)))]) s.heap H1 locs → W p l e R s m args below meth c H1 locs (cells + 1) (slots + N) Q (F0 m (pc + 2) ls (.ref q :: rest))) : W p l e R s m args below meth c H locs cells slots Q (F0 m pc ls (.int n :: rest)) := by
  refine va_newa (atype := .int) (a0 := (N, .inl (fun _ => 0))) X.1.1 X.1.2.1 (X.1.2.2.2.2 _ harr) rfl X.2.1.1 hw.1 hw.2.1 hw.2.2 X.2.2.1 (fun cA => vp_cell_i _ _ _) hn hN hbytes hcells hslots hdg (fun q cA H1 h1 h2 h3 h4 => ?_)
  have e1 : s.vm.findClass ("[" ++ FieldType.int.toString) = some cI := (X.2.1.1.2 0 (cI, .int) rfl).2
  have e2 : s.vm.findClass ("[" ++ FieldType.int.toString) = some cA := (h1.2 3 (cA, .int) rfl).2
  obtain rfl : cA = cI := Option.some.inj (e2.symm.trans e1)
  exact kk q H1 ⟨h2, h3, h4⟩
theorem knewz {cI cZ cG : ClassId} {n : Int32} {N : Nat} (X : CX p s m args c cc nL own D (TY cI cZ cG) A) (hw : WD D A ws s.heap H locs) (harr : Cond.arrayClass .boolean ∈ TT) (hn : ¬ n < 0) (hN : n.toNatClampNeg = N) (hbytes : N * 1 ≤ 536870912) (hcells : cells + 1 ≤ R.cells) (hslots : slots + N ≤ R.slots) (hdg : decode cc pc = .ok (.newarray .boolean, 2))
    (kk : ∀ (q : Nat) (H1 : Heap), WD D A (ws ++ [(q, .inl (cZ, N, .inl (fun _ => 0)))]) s.heap H1 locs → W p l e R s m args below meth c H1 locs (cells + 1) (slots + N) Q (F0 m (pc + 2) ls (.ref q :: rest))) : W p l e R s m args below meth c H locs cells slots Q (F0 m pc ls (.int n :: rest)) := by
  refine va_newa (atype := .boolean) (a0 := (N, .inl (fun _ => 0))) X.1.1 X.1.2.1 (X.1.2.2.2.2 _ harr) rfl X.2.1.1 hw.1 hw.2.1 hw.2.2 X.2.2.1 (fun cA => vp_cell_i _ _ _) hn hN hbytes hcells hslots hdg (fun q cA H1 h1 h2 h3 h4 => ?_)
  have e1 : s.vm.findClass ("[" ++ FieldType.boolean.toString) = some cZ := (X.2.1.1.2 1 (cZ, .boolean) rfl).2
  have e2 : s.vm.findClass ("[" ++ FieldType.boolean.toString) = some cA := (h1.2 3 (cA, .boolean) rfl).2
  obtain rfl : cA = cZ := Option.some.inj (e2.symm.trans e1)
  exact kk q H1 ⟨h2, h3, h4⟩
theorem knew {C : String} {T : u_T} {N ci index : Nat} {fs : List Value} {ty0 : Nat → FieldType} (X : CX p s m args c cc nL own D tys A) (hw : WD D A ws s.heap H locs) (hin : ∀ w ∈ u_ws C T N, w ∈ TT) (hty : ∀ k, k < N → parseFieldDescriptor (T k).2.2.1 = some (ty0 k)) (hcl : Cond.classLink own index C ∈ TT) (hinst : Cond.instantiable C N ∈ TT) (hini : Cond.initialized C ∈ TT) (hc : vwCl[ci]? = some (C, T, N)) (hfs : ∀ j, j < N → defaultValue (ty0 j) = vp_V fs j) (hcells : cells + 1 ≤ R.cells) (hslots : slots + N ≤ R.slots) (hdg : decode cc pc = .ok (.new index, 3))
    (kk : ∀ (q : Nat) (H1 : Heap), WD D A (ws ++ [(q, .inr (ci, fs))]) s.heap H1 locs → W p l e R s m args below meth c H1 locs (cells + 1) (slots + N) Q (F0 m (pc + 3) ls (.ref q :: rest))) : W p l e R s m args below meth c H locs cells slots Q (F0 m pc ls rest) :=
  va_new X.1.1 X.1.2.1 X.1.2.2.2.2 hin ty0 hty X.1.2.2.2.1 (X.1.2.2.2.2 _ hcl) (X.1.2.2.2.2 _ hinst) (X.1.2.2.2.2 _ hini) X.2.1.1 hw.1 hw.2.1 hw.2.2 X.2.2.1 hc hfs hcells hslots hdg (fun q H1 h1 h2 h3 => kk q H1 ⟨h1, h2, h3⟩)
theorem kobj {index : Nat} (X : CX p s m args c cc nL own D tys A) (hsz : ls.size = nL) (hl : Cond.methodLink own index objectInit ∈ TT) (h2 : Cond.instanceMethod objectInit ∈ TT) (h3 : Cond.code objectInit ⟨#[0xb1]⟩ 1 none ∈ TT) (hf : 1 ≤ R.frames) (hlo : 12 ≤ R.locals) (hdg : decode cc pc = .ok (.invokespecial index, 3))
    (kk : W p l e R s m args below meth c H locs cells slots Q (F0 m (pc + 3) ls [])) : W p l e R s m args below meth c H locs cells slots Q (F0 m pc ls [.ref a]) :=
  W.objInit X.1.1 X.1.2.1 X.1.2.2.2.1 (X.1.2.2.2.2 _ hl) (X.1.2.2.2.2 _ h2) (X.1.2.2.2.2 _ h3) rfl (hsz.trans X.1.2.2.1.symm) rfl hdg hf hlo kk
theorem kmna {cI cZ cG : ClassId} {index : Nat} (X : CX p s m args c cc nL own D (TY cI cZ cG) A) (hw : WD D A ws s.heap H locs) (hcl : Cond.classLink own index "[[I" ∈ TT) (harr : Cond.arrayClass .int ∈ TT) (hcells : cells + 6 ≤ R.cells) (hslots : slots + 210 ≤ R.slots) (hdg : decode cc pc = .ok (.multianewarray index 2, 4))
    (kk : ∀ (q r0 r1 r2 r3 r4 : Nat) (H1 : Heap), WD D A (ws ++ [(q, .inl (cG, 5, .inr (.inr (.inr (.inr (fun i => if i = 0 then some r0 else if i = 1 then some r1 else if i = 2 then some r2 else if i = 3 then some r3 else if i = 4 then some r4 else none)))))), (r0, .inl (cI, 41, .inl (fun _ => 0))), (r1, .inl (cI, 41, .inl (fun _ => 0))), (r2, .inl (cI, 41, .inl (fun _ => 0))), (r3, .inl (cI, 41, .inl (fun _ => 0))), (r4, .inl (cI, 41, .inl (fun _ => 0)))]) s.heap H1 locs → W p l e R s m args below meth c H1 locs (cells + 6) (slots + 210) Q (F0 m (pc + 4) ls (.ref q :: rest))) : W p l e R s m args below meth c H locs cells slots Q (F0 m pc ls (.int 41 :: .int 5 :: rest)) := by
  have e1 : s.vm.findClass ("[" ++ FieldType.int.toString) = some cI := (X.2.1.1.2 0 (cI, .int) rfl).2
  have e3 : s.vm.findClass ("[" ++ (FieldType.array .int).toString) = some cG := (X.2.1.1.2 2 (cG, .array .int) rfl).2
  refine va_mna (X := ws) (L := []) (f := fun _ => .inr (0, [])) (ty := .int) (cy := cI) (N' := 5) (K' := 41) (z := (41, .inl (fun _ => 0))) X.1.1 X.1.2.1 X.1.2.2.2.1 (X.1.2.2.2.2 _ hcl) X.2.1.2.2.2 (X.1.2.2.2.2 _ harr) e1 X.2.1.1 (by rw [show ws ++ va_pl [] (fun _ => (.inr (0, []) : va_E)) = ws from List.append_nil ws]; exact hw.1) (by rw [show ws ++ va_pl [] (fun _ => (.inr (0, []) : va_E)) = ws from List.append_nil ws]; exact hw.2.1) hw.2.2 X.2.2.1 (by decide) (by decide) (by decide) (by decide) (by decide) (by decide) (by decide) rfl rfl hcells hslots (fun c => by rw [vp_cell_i, ← arrV_new]; rfl) hdg (fun q r cA H1 hinj hnl hK1 hP1 hD1 hS1 => ?_)
  have e2 : s.vm.findClass ("[" ++ (FieldType.array .int).toString) = some cA := (hK1.2 3 (cA, .array .int) rfl).2
  obtain rfl : cA = cG := Option.some.inj (e2.symm.trans e3)
  have hf : (fun i => if i < 5 then some (r i) else none) = (fun i => if i = 0 then some (r 0) else if i = 1 then some (r 1) else if i = 2 then some (r 2) else if i = 3 then some (r 3) else if i = 4 then some (r 4) else none) := funext fun i => by
    match i with
    | 0 => rfl
    | 1 => rfl
    | 2 => rfl
    | 3 => rfl
    | 4 => rfl
    | i + 5 => simp
  have hw1 : ((ws ++ [(q, (.inl (cA, 5, .inr (.inr (.inr (.inr (fun i => if i < 5 then some (r i) else none))))) : va_E))]) ++ va_pl ([] ++ (List.range 5).map r) (vr_up (fun _ => (.inr (0, []) : va_E)) ((List.range 5).map r) (.inl (cI, (41, .inl (fun _ => 0)))))) = ws ++ [(q, .inl (cA, 5, .inr (.inr (.inr (.inr (fun i => if i = 0 then some (r 0) else if i = 1 then some (r 1) else if i = 2 then some (r 2) else if i = 3 then some (r 3) else if i = 4 then some (r 4) else none)))))), (r 0, .inl (cI, 41, .inl (fun _ => 0))), (r 1, .inl (cI, 41, .inl (fun _ => 0))), (r 2, .inl (cI, 41, .inl (fun _ => 0))), (r 3, .inl (cI, 41, .inl (fun _ => 0))), (r 4, .inl (cI, 41, .inl (fun _ => 0)))] := by
    rw [hf, List.append_assoc]
    congr 1
    simp [va_pl, vr_up, List.range, List.range.loop]
  rw [hw1] at hP1 hD1
  refine W.widen (k := cells + 6) (n := slots + 210) (by omega) (by omega) ?_
  exact kk q (r 0) (r 1) (r 2) (r 3) (r 4) H1 ⟨hP1, hD1, hS1⟩
theorem kcV_i {index maxL f n k : Nat} {y : MethodName} {bytes : ByteArray} {ret : Option FieldType} {As st : List Value} {wc : va_W} {w1 : va_W} {r : Int32} (X : CX p s m args c cc nL own D tys A) (hw : WD D A ws s.heap H locs)
    {C : String} {qC : vw_C} {ci : Nat} {fs : List Value} (hq : wc[0]? = some (a, .inr (ci, fs))) (hc : vwCl[ci]? = some qC) (hcC : qC.1 = C) (hM : Met l y (wz y bytes maxL ret) (cRm f n) (cPre D tys (.ref a :: As) wc H.size) (cQi D r wc w1 H.size) 0 0 (va_A wc H.size)) (hm : MV y C bytes maxL ret k) (hlk : Cond.methodLink own index y ∈ TT) (hrm : f + 1 ≤ R.frames ∧ 8 + (maxL + 11) + n ≤ R.locals)
    (isC isR : List Nat) (hC : isC.map (fun i => ws[i]?) = wc.map some) (hnC : va_nd isC = true) (hR : isR.map (fun i => ws[i]?) = (isR.filterMap (fun i => ws[i]?)).map some) (hn : va_nd isR = true) (hdis : ∀ i ∈ isR, i ∉ isC)
    (hk : As.length = k) (hsz : ls.size = nL) (hst : st = As.reverse ++ .ref a :: rest) (hW8 : (rest.map fun v => v.category).sum ≤ 8) (hdg : decode cc pc = .ok (.invokevirtual index, 3)) (hcs : cells ≤ R.cells ∧ slots ≤ R.slots)
    (kk : ∀ (H1 : Heap) (locs1 : List Loc), WD D A (isR.filterMap (fun i => ws[i]?) ++ w1) s.heap H1 locs1 → W p l e R s m args below meth c H1 locs1 cells slots Q (F0 m (pc + 3) ls (.int r :: rest))) : W p l e R s m args below meth c H locs cells slots Q (F0 m pc ls st) := by
  have hPc : va_P D vwCl wc H := hw.1.sub isC (fm_of_map hC)
  have hDc : va_D A wc := hw.2.1.sub isC hnC hC
  have hFc := va_free (wc := wc) hw.2.1 hw.2.2 X.2.2.1 isC hC
  subst hst
  refine va_calli (va_runV (As := As) (rest := rest) X.1 hM (cwV k X.1.2.2.2.2 (gV hlk hm) rfl rfl rfl hm.2.2.2.2 hrm) ⟨cPre_blind, by rw [← hcC]; exact va_recv X.2.1.1 hPc hc hq, fun U hU hW => ⟨rfl, by rw [hU], by rw [hU]; exact hPc, X.2.1.warm hW, hDc.weaken (fun _ _ _ _ => trivial), X.2.2.2.call hw.2.2 hW hU hFc⟩⟩ rfl hk hsz rfl (lv_room hW8) hdg ⟨hcs.1, hcs.2⟩) hw.2.2 (fun q _ h => hFc q h) hFc (fun r' u t H1 locs1 ht hvm hpost hB hz1 hk1 hS => ?_)
  obtain rfl := hpost
  obtain ⟨hP1, hD1⟩ := hB
  rw [ht] at hP1
  obtain ⟨hP2, hD2⟩ := va_join hw.1 hw.2.1 isC isR hC hR hn hdis hk1 hFc hP1 hD1
  exact kk H1 locs1 ⟨hP2, hD2, hS⟩
theorem kcV_l {index maxL f n k : Nat} {y : MethodName} {bytes : ByteArray} {ret : Option FieldType} {As st : List Value} {wc : va_W} {w1 : va_W} {r : Int64} (X : CX p s m args c cc nL own D tys A) (hw : WD D A ws s.heap H locs)
    {C : String} {qC : vw_C} {ci : Nat} {fs : List Value} (hq : wc[0]? = some (a, .inr (ci, fs))) (hc : vwCl[ci]? = some qC) (hcC : qC.1 = C) (hM : Met l y (wz y bytes maxL ret) (cRm f n) (cPre D tys (.ref a :: As) wc H.size) (cQl D r wc w1 H.size) 0 0 (va_A wc H.size)) (hm : MV y C bytes maxL ret k) (hlk : Cond.methodLink own index y ∈ TT) (hrm : f + 1 ≤ R.frames ∧ 8 + (maxL + 11) + n ≤ R.locals)
    (isC isR : List Nat) (hC : isC.map (fun i => ws[i]?) = wc.map some) (hnC : va_nd isC = true) (hR : isR.map (fun i => ws[i]?) = (isR.filterMap (fun i => ws[i]?)).map some) (hn : va_nd isR = true) (hdis : ∀ i ∈ isR, i ∉ isC)
    (hk : As.length = k) (hsz : ls.size = nL) (hst : st = As.reverse ++ .ref a :: rest) (hW8 : (rest.map fun v => v.category).sum ≤ 8) (hdg : decode cc pc = .ok (.invokevirtual index, 3)) (hcs : cells ≤ R.cells ∧ slots ≤ R.slots)
    (kk : ∀ (H1 : Heap) (locs1 : List Loc), WD D A (isR.filterMap (fun i => ws[i]?) ++ w1) s.heap H1 locs1 → W p l e R s m args below meth c H1 locs1 cells slots Q (F0 m (pc + 3) ls (.long r :: rest))) : W p l e R s m args below meth c H locs cells slots Q (F0 m pc ls st) := by
  have hPc : va_P D vwCl wc H := hw.1.sub isC (fm_of_map hC)
  have hDc : va_D A wc := hw.2.1.sub isC hnC hC
  have hFc := va_free (wc := wc) hw.2.1 hw.2.2 X.2.2.1 isC hC
  subst hst
  refine va_calll (va_runV (As := As) (rest := rest) X.1 hM (cwV k X.1.2.2.2.2 (gV hlk hm) rfl rfl rfl hm.2.2.2.2 hrm) ⟨cPre_blind, by rw [← hcC]; exact va_recv X.2.1.1 hPc hc hq, fun U hU hW => ⟨rfl, by rw [hU], by rw [hU]; exact hPc, X.2.1.warm hW, hDc.weaken (fun _ _ _ _ => trivial), X.2.2.2.call hw.2.2 hW hU hFc⟩⟩ rfl hk hsz rfl (lv_room hW8) hdg ⟨hcs.1, hcs.2⟩) hw.2.2 (fun q _ h => hFc q h) hFc (fun r' u t H1 locs1 ht hvm hpost hB hz1 hk1 hS => ?_)
  obtain rfl := hpost
  obtain ⟨hP1, hD1⟩ := hB
  rw [ht] at hP1
  obtain ⟨hP2, hD2⟩ := va_join hw.1 hw.2.1 isC isR hC hR hn hdis hk1 hFc hP1 hD1
  exact kk H1 locs1 ⟨hP2, hD2, hS⟩
theorem kcV_v {index maxL f n k : Nat} {y : MethodName} {bytes : ByteArray} {As st : List Value} {wc : va_W} {w1 : va_W} (X : CX p s m args c cc nL own D tys A) (hw : WD D A ws s.heap H locs)
    {C : String} {qC : vw_C} {ci : Nat} {fs : List Value} (hq : wc[0]? = some (a, .inr (ci, fs))) (hc : vwCl[ci]? = some qC) (hcC : qC.1 = C) (hM : Met l y (wz y bytes maxL none) (cRm f n) (cPre D tys (.ref a :: As) wc H.size) (cQv D wc w1 H.size) 0 0 (va_A wc H.size)) (hm : MV y C bytes maxL none k) (hlk : Cond.methodLink own index y ∈ TT) (hrm : f + 1 ≤ R.frames ∧ 8 + (maxL + 11) + n ≤ R.locals)
    (isC isR : List Nat) (hC : isC.map (fun i => ws[i]?) = wc.map some) (hnC : va_nd isC = true) (hR : isR.map (fun i => ws[i]?) = (isR.filterMap (fun i => ws[i]?)).map some) (hn : va_nd isR = true) (hdis : ∀ i ∈ isR, i ∉ isC)
    (hk : As.length = k) (hsz : ls.size = nL) (hst : st = As.reverse ++ .ref a :: rest) (hW8 : (rest.map fun v => v.category).sum ≤ 8) (hdg : decode cc pc = .ok (.invokevirtual index, 3)) (hcs : cells ≤ R.cells ∧ slots ≤ R.slots)
    (kk : ∀ (H1 : Heap) (locs1 : List Loc), WD D A (isR.filterMap (fun i => ws[i]?) ++ w1) s.heap H1 locs1 → W p l e R s m args below meth c H1 locs1 cells slots Q (F0 m (pc + 3) ls (rest))) : W p l e R s m args below meth c H locs cells slots Q (F0 m pc ls st) := by
  have hPc : va_P D vwCl wc H := hw.1.sub isC (fm_of_map hC)
  have hDc : va_D A wc := hw.2.1.sub isC hnC hC
  have hFc := va_free (wc := wc) hw.2.1 hw.2.2 X.2.2.1 isC hC
  subst hst
  refine va_callv (va_runV (As := As) (rest := rest) X.1 hM (cwV k X.1.2.2.2.2 (gV hlk hm) rfl rfl rfl hm.2.2.2.2 hrm) ⟨cPre_blind, by rw [← hcC]; exact va_recv X.2.1.1 hPc hc hq, fun U hU hW => ⟨rfl, by rw [hU], by rw [hU]; exact hPc, X.2.1.warm hW, hDc.weaken (fun _ _ _ _ => trivial), X.2.2.2.call hw.2.2 hW hU hFc⟩⟩ rfl hk hsz rfl (lv_room hW8) hdg ⟨hcs.1, hcs.2⟩) hw.2.2 (fun q _ h => hFc q h) hFc (fun u t H1 locs1 ht hvm hpost hB hz1 hk1 hS => ?_)
  obtain ⟨hP1, hD1⟩ := hB
  rw [ht] at hP1
  obtain ⟨hP2, hD2⟩ := va_join hw.1 hw.2.1 isC isR hC hR hn hdis hk1 hFc hP1 hD1
  exact kk H1 locs1 ⟨hP2, hD2, hS⟩
theorem kcS_i {index maxL f n k : Nat} {y : MethodName} {bytes : ByteArray} {ret : Option FieldType} {As st : List Value} {wc : va_W} {w1 : va_W} {r : Int32} (X : CX p s m args c cc nL own D tys A) (hw : WD D A ws s.heap H locs)
    (hM : Met l y (wz y bytes maxL ret) (cRm f n) (cPre D tys As wc H.size) (cQi D r wc w1 H.size) 0 0 (va_A wc H.size)) (hm : MS y bytes maxL ret k) (hlk : Cond.methodLink own index y ∈ TT) (hrm : f + 1 ≤ R.frames ∧ 8 + (maxL + 11) + n ≤ R.locals)
    (isC isR : List Nat) (hC : isC.map (fun i => ws[i]?) = wc.map some) (hnC : va_nd isC = true) (hR : isR.map (fun i => ws[i]?) = (isR.filterMap (fun i => ws[i]?)).map some) (hn : va_nd isR = true) (hdis : ∀ i ∈ isR, i ∉ isC)
    (hk : As.length = k) (hsz : ls.size = nL) (hst : st = As.reverse ++ rest) (hW8 : (rest.map fun v => v.category).sum ≤ 8) (hdg : decode cc pc = .ok (.invokestatic index, 3)) (hcs : cells ≤ R.cells ∧ slots ≤ R.slots)
    (kk : ∀ (H1 : Heap) (locs1 : List Loc), WD D A (isR.filterMap (fun i => ws[i]?) ++ w1) s.heap H1 locs1 → W p l e R s m args below meth c H1 locs1 cells slots Q (F0 m (pc + 3) ls (.int r :: rest))) : W p l e R s m args below meth c H locs cells slots Q (F0 m pc ls st) := by
  have hPc : va_P D vwCl wc H := hw.1.sub isC (fm_of_map hC)
  have hDc : va_D A wc := hw.2.1.sub isC hnC hC
  have hFc := va_free (wc := wc) hw.2.1 hw.2.2 X.2.2.1 isC hC
  subst hst
  refine va_calli (va_runS (As := As) (rest := rest) X.1 hM (va_cwS k X.1.2.2.2.2 (gS hlk hm) rfl rfl rfl hm.2.2.2 hrm) ⟨cPre_blind, fun U hU hW => ⟨rfl, by rw [hU], by rw [hU]; exact hPc, X.2.1.warm hW, hDc.weaken (fun _ _ _ _ => trivial), X.2.2.2.call hw.2.2 hW hU hFc⟩⟩ rfl hk hsz rfl (lv_room hW8) hdg ⟨hcs.1, hcs.2⟩) hw.2.2 (fun q _ h => hFc q h) hFc (fun r' u t H1 locs1 ht hvm hpost hB hz1 hk1 hS => ?_)
  obtain rfl := hpost
  obtain ⟨hP1, hD1⟩ := hB
  rw [ht] at hP1
  obtain ⟨hP2, hD2⟩ := va_join hw.1 hw.2.1 isC isR hC hR hn hdis hk1 hFc hP1 hD1
  exact kk H1 locs1 ⟨hP2, hD2, hS⟩
theorem kcS_l {index maxL f n k : Nat} {y : MethodName} {bytes : ByteArray} {ret : Option FieldType} {As st : List Value} {wc : va_W} {w1 : va_W} {r : Int64} (X : CX p s m args c cc nL own D tys A) (hw : WD D A ws s.heap H locs)
    (hM : Met l y (wz y bytes maxL ret) (cRm f n) (cPre D tys As wc H.size) (cQl D r wc w1 H.size) 0 0 (va_A wc H.size)) (hm : MS y bytes maxL ret k) (hlk : Cond.methodLink own index y ∈ TT) (hrm : f + 1 ≤ R.frames ∧ 8 + (maxL + 11) + n ≤ R.locals)
    (isC isR : List Nat) (hC : isC.map (fun i => ws[i]?) = wc.map some) (hnC : va_nd isC = true) (hR : isR.map (fun i => ws[i]?) = (isR.filterMap (fun i => ws[i]?)).map some) (hn : va_nd isR = true) (hdis : ∀ i ∈ isR, i ∉ isC)
    (hk : As.length = k) (hsz : ls.size = nL) (hst : st = As.reverse ++ rest) (hW8 : (rest.map fun v => v.category).sum ≤ 8) (hdg : decode cc pc = .ok (.invokestatic index, 3)) (hcs : cells ≤ R.cells ∧ slots ≤ R.slots)
    (kk : ∀ (H1 : Heap) (locs1 : List Loc), WD D A (isR.filterMap (fun i => ws[i]?) ++ w1) s.heap H1 locs1 → W p l e R s m args below meth c H1 locs1 cells slots Q (F0 m (pc + 3) ls (.long r :: rest))) : W p l e R s m args below meth c H locs cells slots Q (F0 m pc ls st) := by
  have hPc : va_P D vwCl wc H := hw.1.sub isC (fm_of_map hC)
  have hDc : va_D A wc := hw.2.1.sub isC hnC hC
  have hFc := va_free (wc := wc) hw.2.1 hw.2.2 X.2.2.1 isC hC
  subst hst
  refine va_calll (va_runS (As := As) (rest := rest) X.1 hM (va_cwS k X.1.2.2.2.2 (gS hlk hm) rfl rfl rfl hm.2.2.2 hrm) ⟨cPre_blind, fun U hU hW => ⟨rfl, by rw [hU], by rw [hU]; exact hPc, X.2.1.warm hW, hDc.weaken (fun _ _ _ _ => trivial), X.2.2.2.call hw.2.2 hW hU hFc⟩⟩ rfl hk hsz rfl (lv_room hW8) hdg ⟨hcs.1, hcs.2⟩) hw.2.2 (fun q _ h => hFc q h) hFc (fun r' u t H1 locs1 ht hvm hpost hB hz1 hk1 hS => ?_)
  obtain rfl := hpost
  obtain ⟨hP1, hD1⟩ := hB
  rw [ht] at hP1
  obtain ⟨hP2, hD2⟩ := va_join hw.1 hw.2.1 isC isR hC hR hn hdis hk1 hFc hP1 hD1
  exact kk H1 locs1 ⟨hP2, hD2, hS⟩
theorem kcS_v {index maxL f n k : Nat} {y : MethodName} {bytes : ByteArray} {As st : List Value} {wc : va_W} {w1 : va_W} (X : CX p s m args c cc nL own D tys A) (hw : WD D A ws s.heap H locs)
    (hM : Met l y (wz y bytes maxL none) (cRm f n) (cPre D tys As wc H.size) (cQv D wc w1 H.size) 0 0 (va_A wc H.size)) (hm : MS y bytes maxL none k) (hlk : Cond.methodLink own index y ∈ TT) (hrm : f + 1 ≤ R.frames ∧ 8 + (maxL + 11) + n ≤ R.locals)
    (isC isR : List Nat) (hC : isC.map (fun i => ws[i]?) = wc.map some) (hnC : va_nd isC = true) (hR : isR.map (fun i => ws[i]?) = (isR.filterMap (fun i => ws[i]?)).map some) (hn : va_nd isR = true) (hdis : ∀ i ∈ isR, i ∉ isC)
    (hk : As.length = k) (hsz : ls.size = nL) (hst : st = As.reverse ++ rest) (hW8 : (rest.map fun v => v.category).sum ≤ 8) (hdg : decode cc pc = .ok (.invokestatic index, 3)) (hcs : cells ≤ R.cells ∧ slots ≤ R.slots)
    (kk : ∀ (H1 : Heap) (locs1 : List Loc), WD D A (isR.filterMap (fun i => ws[i]?) ++ w1) s.heap H1 locs1 → W p l e R s m args below meth c H1 locs1 cells slots Q (F0 m (pc + 3) ls (rest))) : W p l e R s m args below meth c H locs cells slots Q (F0 m pc ls st) := by
  have hPc : va_P D vwCl wc H := hw.1.sub isC (fm_of_map hC)
  have hDc : va_D A wc := hw.2.1.sub isC hnC hC
  have hFc := va_free (wc := wc) hw.2.1 hw.2.2 X.2.2.1 isC hC
  subst hst
  refine va_callv (va_runS (As := As) (rest := rest) X.1 hM (va_cwS k X.1.2.2.2.2 (gS hlk hm) rfl rfl rfl hm.2.2.2 hrm) ⟨cPre_blind, fun U hU hW => ⟨rfl, by rw [hU], by rw [hU]; exact hPc, X.2.1.warm hW, hDc.weaken (fun _ _ _ _ => trivial), X.2.2.2.call hw.2.2 hW hU hFc⟩⟩ rfl hk hsz rfl (lv_room hW8) hdg ⟨hcs.1, hcs.2⟩) hw.2.2 (fun q _ h => hFc q h) hFc (fun u t H1 locs1 ht hvm hpost hB hz1 hk1 hS => ?_)
  obtain ⟨hP1, hD1⟩ := hB
  rw [ht] at hP1
  obtain ⟨hP2, hD2⟩ := va_join hw.1 hw.2.1 isC isR hC hR hn hdis hk1 hFc hP1 hD1
  exact kk H1 locs1 ⟨hP2, hD2, hS⟩
theorem kcSN_i {index maxL f n k : Nat} {y : MethodName} {bytes : ByteArray} {ret : Option FieldType} {As st : List Value} {wc : va_W} {w1 : va_W} {r : Int32} (X : CX p s m args c cc nL own D tys A) (hw : WD D A ws s.heap H locs)
    (hM : Met l y (wz y bytes maxL ret) (cRm f n) (cPre D tys As wc H.size) (cQi D r wc w1 H.size) 0 0 (va_A wc H.size)) (hm : MS y bytes maxL ret k) {host : String} (hlk : (own, index, y, host) ∈ nestM) (hrm : f + 1 ≤ R.frames ∧ 8 + (maxL + 11) + n ≤ R.locals)
    (isC isR : List Nat) (hC : isC.map (fun i => ws[i]?) = wc.map some) (hnC : va_nd isC = true) (hR : isR.map (fun i => ws[i]?) = (isR.filterMap (fun i => ws[i]?)).map some) (hn : va_nd isR = true) (hdis : ∀ i ∈ isR, i ∉ isC)
    (hk : As.length = k) (hsz : ls.size = nL) (hst : st = As.reverse ++ rest) (hW8 : (rest.map fun v => v.category).sum ≤ 8) (hdg : decode cc pc = .ok (.invokestatic index, 3)) (hcs : cells ≤ R.cells ∧ slots ≤ R.slots)
    (kk : ∀ (H1 : Heap) (locs1 : List Loc), WD D A (isR.filterMap (fun i => ws[i]?) ++ w1) s.heap H1 locs1 → W p l e R s m args below meth c H1 locs1 cells slots Q (F0 m (pc + 3) ls (.int r :: rest))) : W p l e R s m args below meth c H locs cells slots Q (F0 m pc ls st) := by
  have hPc : va_P D vwCl wc H := hw.1.sub isC (fm_of_map hC)
  have hDc : va_D A wc := hw.2.1.sub isC hnC hC
  have hFc := va_free (wc := wc) hw.2.1 hw.2.2 X.2.2.1 isC hC
  subst hst
  refine va_calli (va_runSN (As := As) (rest := rest) X.1 hM ⟨va_cnB k X.1.2.2.2.2 (wz_good hm.1) rfl rfl rfl (X.2.1.2.1 _ hlk) (X.1.2.2.2.2 _ hm.2.2.1) hm.2.2.2 hrm, X.1.2.2.2.2 _ hm.2.1, trivial⟩ ⟨cPre_blind, fun U hU hW => ⟨rfl, by rw [hU], by rw [hU]; exact hPc, X.2.1.warm hW, hDc.weaken (fun _ _ _ _ => trivial), X.2.2.2.call hw.2.2 hW hU hFc⟩⟩ rfl hk hsz rfl (lv_room hW8) hdg ⟨hcs.1, hcs.2⟩) hw.2.2 (fun q _ h => hFc q h) hFc (fun r' u t H1 locs1 ht hvm hpost hB hz1 hk1 hS => ?_)
  obtain rfl := hpost
  obtain ⟨hP1, hD1⟩ := hB
  rw [ht] at hP1
  obtain ⟨hP2, hD2⟩ := va_join hw.1 hw.2.1 isC isR hC hR hn hdis hk1 hFc hP1 hD1
  exact kk H1 locs1 ⟨hP2, hD2, hS⟩
theorem kcSN_l {index maxL f n k : Nat} {y : MethodName} {bytes : ByteArray} {ret : Option FieldType} {As st : List Value} {wc : va_W} {w1 : va_W} {r : Int64} (X : CX p s m args c cc nL own D tys A) (hw : WD D A ws s.heap H locs)
    (hM : Met l y (wz y bytes maxL ret) (cRm f n) (cPre D tys As wc H.size) (cQl D r wc w1 H.size) 0 0 (va_A wc H.size)) (hm : MS y bytes maxL ret k) {host : String} (hlk : (own, index, y, host) ∈ nestM) (hrm : f + 1 ≤ R.frames ∧ 8 + (maxL + 11) + n ≤ R.locals)
    (isC isR : List Nat) (hC : isC.map (fun i => ws[i]?) = wc.map some) (hnC : va_nd isC = true) (hR : isR.map (fun i => ws[i]?) = (isR.filterMap (fun i => ws[i]?)).map some) (hn : va_nd isR = true) (hdis : ∀ i ∈ isR, i ∉ isC)
    (hk : As.length = k) (hsz : ls.size = nL) (hst : st = As.reverse ++ rest) (hW8 : (rest.map fun v => v.category).sum ≤ 8) (hdg : decode cc pc = .ok (.invokestatic index, 3)) (hcs : cells ≤ R.cells ∧ slots ≤ R.slots)
    (kk : ∀ (H1 : Heap) (locs1 : List Loc), WD D A (isR.filterMap (fun i => ws[i]?) ++ w1) s.heap H1 locs1 → W p l e R s m args below meth c H1 locs1 cells slots Q (F0 m (pc + 3) ls (.long r :: rest))) : W p l e R s m args below meth c H locs cells slots Q (F0 m pc ls st) := by
  have hPc : va_P D vwCl wc H := hw.1.sub isC (fm_of_map hC)
  have hDc : va_D A wc := hw.2.1.sub isC hnC hC
  have hFc := va_free (wc := wc) hw.2.1 hw.2.2 X.2.2.1 isC hC
  subst hst
  refine va_calll (va_runSN (As := As) (rest := rest) X.1 hM ⟨va_cnB k X.1.2.2.2.2 (wz_good hm.1) rfl rfl rfl (X.2.1.2.1 _ hlk) (X.1.2.2.2.2 _ hm.2.2.1) hm.2.2.2 hrm, X.1.2.2.2.2 _ hm.2.1, trivial⟩ ⟨cPre_blind, fun U hU hW => ⟨rfl, by rw [hU], by rw [hU]; exact hPc, X.2.1.warm hW, hDc.weaken (fun _ _ _ _ => trivial), X.2.2.2.call hw.2.2 hW hU hFc⟩⟩ rfl hk hsz rfl (lv_room hW8) hdg ⟨hcs.1, hcs.2⟩) hw.2.2 (fun q _ h => hFc q h) hFc (fun r' u t H1 locs1 ht hvm hpost hB hz1 hk1 hS => ?_)
  obtain rfl := hpost
  obtain ⟨hP1, hD1⟩ := hB
  rw [ht] at hP1
  obtain ⟨hP2, hD2⟩ := va_join hw.1 hw.2.1 isC isR hC hR hn hdis hk1 hFc hP1 hD1
  exact kk H1 locs1 ⟨hP2, hD2, hS⟩
theorem kcSN_v {index maxL f n k : Nat} {y : MethodName} {bytes : ByteArray} {As st : List Value} {wc : va_W} {w1 : va_W} (X : CX p s m args c cc nL own D tys A) (hw : WD D A ws s.heap H locs)
    (hM : Met l y (wz y bytes maxL none) (cRm f n) (cPre D tys As wc H.size) (cQv D wc w1 H.size) 0 0 (va_A wc H.size)) (hm : MS y bytes maxL none k) {host : String} (hlk : (own, index, y, host) ∈ nestM) (hrm : f + 1 ≤ R.frames ∧ 8 + (maxL + 11) + n ≤ R.locals)
    (isC isR : List Nat) (hC : isC.map (fun i => ws[i]?) = wc.map some) (hnC : va_nd isC = true) (hR : isR.map (fun i => ws[i]?) = (isR.filterMap (fun i => ws[i]?)).map some) (hn : va_nd isR = true) (hdis : ∀ i ∈ isR, i ∉ isC)
    (hk : As.length = k) (hsz : ls.size = nL) (hst : st = As.reverse ++ rest) (hW8 : (rest.map fun v => v.category).sum ≤ 8) (hdg : decode cc pc = .ok (.invokestatic index, 3)) (hcs : cells ≤ R.cells ∧ slots ≤ R.slots)
    (kk : ∀ (H1 : Heap) (locs1 : List Loc), WD D A (isR.filterMap (fun i => ws[i]?) ++ w1) s.heap H1 locs1 → W p l e R s m args below meth c H1 locs1 cells slots Q (F0 m (pc + 3) ls (rest))) : W p l e R s m args below meth c H locs cells slots Q (F0 m pc ls st) := by
  have hPc : va_P D vwCl wc H := hw.1.sub isC (fm_of_map hC)
  have hDc : va_D A wc := hw.2.1.sub isC hnC hC
  have hFc := va_free (wc := wc) hw.2.1 hw.2.2 X.2.2.1 isC hC
  subst hst
  refine va_callv (va_runSN (As := As) (rest := rest) X.1 hM ⟨va_cnB k X.1.2.2.2.2 (wz_good hm.1) rfl rfl rfl (X.2.1.2.1 _ hlk) (X.1.2.2.2.2 _ hm.2.2.1) hm.2.2.2 hrm, X.1.2.2.2.2 _ hm.2.1, trivial⟩ ⟨cPre_blind, fun U hU hW => ⟨rfl, by rw [hU], by rw [hU]; exact hPc, X.2.1.warm hW, hDc.weaken (fun _ _ _ _ => trivial), X.2.2.2.call hw.2.2 hW hU hFc⟩⟩ rfl hk hsz rfl (lv_room hW8) hdg ⟨hcs.1, hcs.2⟩) hw.2.2 (fun q _ h => hFc q h) hFc (fun u t H1 locs1 ht hvm hpost hB hz1 hk1 hS => ?_)
  obtain ⟨hP1, hD1⟩ := hB
  rw [ht] at hP1
  obtain ⟨hP2, hD2⟩ := va_join hw.1 hw.2.1 isC isR hC hR hn hdis hk1 hFc hP1 hD1
  exact kk H1 locs1 ⟨hP2, hD2, hS⟩
theorem kcI_n {index maxL f n k : Nat} {y : MethodName} {bytes : ByteArray} {mc ms : Nat} {As st : List Value} {wc : va_W} {S : Type} {w1 : S → va_W} (X : CX p s m args c cc nL own D tys A) (hw : WD D A ws s.heap H locs)
    (hM : Met l y (wz y bytes maxL none) (cRn f n mc ms) (cPre D tys (.ref a :: As) wc H.size) (cQn D wc w1 H.size) mc ms (va_A wc H.size)) (hm : MI y bytes maxL k) (hlk : Cond.methodLink own index y ∈ TT) (hrm : f + 1 ≤ R.frames ∧ 8 + (maxL + 11) + n ≤ R.locals)
    (isC isR : List Nat) (hC : isC.map (fun i => ws[i]?) = wc.map some) (hnC : va_nd isC = true) (hR : isR.map (fun i => ws[i]?) = (isR.filterMap (fun i => ws[i]?)).map some) (hn : va_nd isR = true) (hdis : ∀ i ∈ isR, i ∉ isC)
    (hk : As.length = k) (hsz : ls.size = nL) (hst : st = As.reverse ++ .ref a :: rest) (hW8 : (rest.map fun v => v.category).sum ≤ 8) (hdg : decode cc pc = .ok (.invokespecial index, 3)) (hcs : cells + mc ≤ R.cells ∧ slots + ms ≤ R.slots)
    (kk : ∀ (u : S) (H1 : Heap) (locs1 : List Loc), WD D A (isR.filterMap (fun i => ws[i]?) ++ w1 u) s.heap H1 locs1 → W p l e R s m args below meth c H1 locs1 (cells + mc) (slots + ms) Q (F0 m (pc + 3) ls (rest))) : W p l e R s m args below meth c H locs cells slots Q (F0 m pc ls st) := by
  have hPc : va_P D vwCl wc H := hw.1.sub isC (fm_of_map hC)
  have hDc : va_D A wc := hw.2.1.sub isC hnC hC
  have hFc := va_free (wc := wc) hw.2.1 hw.2.2 X.2.2.1 isC hC
  subst hst
  refine va_callv (va_runI (As := As) (rest := rest) X.1 hM (cwI k X.1.2.2.2.2 (wz_good hm.1) rfl rfl rfl (X.1.2.2.2.2 _ hm.2.2.1) (X.1.2.2.2.2 _ hlk) (X.1.2.2.2.2 _ hm.2.1) hm.2.2.2.1 hm.2.2.2.2 hrm) ⟨cPre_blind, fun U hU hW => ⟨rfl, by rw [hU], by rw [hU]; exact hPc, X.2.1.warm hW, hDc.weaken (fun _ _ _ _ => trivial), X.2.2.2.call hw.2.2 hW hU hFc⟩⟩ rfl hk hsz rfl (lv_room hW8) hdg hcs) hw.2.2 (fun q _ h => hFc q h) hFc (fun u t H1 locs1 ht hvm hpost hB hz1 hk1 hS => ?_)
  obtain ⟨hP1, hD1⟩ := hB
  rw [ht] at hP1
  obtain ⟨hP2, hD2⟩ := va_join hw.1 hw.2.1 isC isR hC hR hn hdis hk1 hFc hP1 hD1
  exact kk u H1 locs1 ⟨hP2, hD2, hS⟩
theorem kcIN_n {index maxL f n k : Nat} {y : MethodName} {bytes : ByteArray} {mc ms : Nat} {As st : List Value} {wc : va_W} {S : Type} {w1 : S → va_W} (X : CX p s m args c cc nL own D tys A) (hw : WD D A ws s.heap H locs)
    (hM : Met l y (wz y bytes maxL none) (cRn f n mc ms) (cPre D tys (.ref a :: As) wc H.size) (cQn D wc w1 H.size) mc ms (va_A wc H.size)) (hm : MI y bytes maxL k) {host : String} (hlk : (own, index, y, host) ∈ nestM) (hrm : f + 1 ≤ R.frames ∧ 8 + (maxL + 11) + n ≤ R.locals)
    (isC isR : List Nat) (hC : isC.map (fun i => ws[i]?) = wc.map some) (hnC : va_nd isC = true) (hR : isR.map (fun i => ws[i]?) = (isR.filterMap (fun i => ws[i]?)).map some) (hn : va_nd isR = true) (hdis : ∀ i ∈ isR, i ∉ isC)
    (hk : As.length = k) (hsz : ls.size = nL) (hst : st = As.reverse ++ .ref a :: rest) (hW8 : (rest.map fun v => v.category).sum ≤ 8) (hdg : decode cc pc = .ok (.invokespecial index, 3)) (hcs : cells + mc ≤ R.cells ∧ slots + ms ≤ R.slots)
    (kk : ∀ (u : S) (H1 : Heap) (locs1 : List Loc), WD D A (isR.filterMap (fun i => ws[i]?) ++ w1 u) s.heap H1 locs1 → W p l e R s m args below meth c H1 locs1 (cells + mc) (slots + ms) Q (F0 m (pc + 3) ls (rest))) : W p l e R s m args below meth c H locs cells slots Q (F0 m pc ls st) := by
  have hPc : va_P D vwCl wc H := hw.1.sub isC (fm_of_map hC)
  have hDc : va_D A wc := hw.2.1.sub isC hnC hC
  have hFc := va_free (wc := wc) hw.2.1 hw.2.2 X.2.2.1 isC hC
  subst hst
  refine va_callv (va_runIN (As := As) (rest := rest) X.1 hM ⟨va_cnB k X.1.2.2.2.2 (wz_good hm.1) rfl rfl rfl (X.2.1.2.1 _ hlk) (X.1.2.2.2.2 _ hm.2.2.1) hm.2.2.2.2 hrm, hm.2.2.2.1, X.1.2.2.2.2 _ hm.2.1⟩ ⟨cPre_blind, fun U hU hW => ⟨rfl, by rw [hU], by rw [hU]; exact hPc, X.2.1.warm hW, hDc.weaken (fun _ _ _ _ => trivial), X.2.2.2.call hw.2.2 hW hU hFc⟩⟩ rfl hk hsz rfl (lv_room hW8) hdg hcs) hw.2.2 (fun q _ h => hFc q h) hFc (fun u t H1 locs1 ht hvm hpost hB hz1 hk1 hS => ?_)
  obtain ⟨hP1, hD1⟩ := hB
  rw [ht] at hP1
  obtain ⟨hP2, hD2⟩ := va_join hw.1 hw.2.1 isC isR hC hR hn hdis hk1 hFc hP1 hD1
  exact kk u H1 locs1 ⟨hP2, hD2, hS⟩
end KB

theorem in_1 {w : Cond} (h : w ∈ tables_1_1) : w ∈ lw_tbl := List.mem_append_right _ (List.mem_append_left _ h : w ∈ tables_1)
theorem in_2 {w : Cond} (h : w ∈ tables_1_2) : w ∈ lw_tbl := List.mem_append_right _ (List.mem_append_right _ (List.mem_append_left _ h) : w ∈ tables_1)
theorem in_3 {w : Cond} (h : w ∈ tables_1_3) : w ∈ lw_tbl := List.mem_append_right _ (List.mem_append_right _ (List.mem_append_right _ (List.mem_append_left _ h)) : w ∈ tables_1)
theorem in_4 {w : Cond} (h : w ∈ tables_1_4) : w ∈ lw_tbl := List.mem_append_right _ (List.mem_append_right _ (List.mem_append_right _ (List.mem_append_right _ (List.mem_append_left _ h))) : w ∈ tables_1)
theorem in_5 {w : Cond} (h : w ∈ tables_1_5) : w ∈ lw_tbl := List.mem_append_right _ (List.mem_append_right _ (List.mem_append_right _ (List.mem_append_right _ (List.mem_append_right _ (List.mem_append_left _ h)))) : w ∈ tables_1)
theorem in_6 {w : Cond} (h : w ∈ tables_1_6) : w ∈ lw_tbl := List.mem_append_right _ (List.mem_append_right _ (List.mem_append_right _ (List.mem_append_right _ (List.mem_append_right _ (List.mem_append_right _ (h))))) : w ∈ tables_1)
theorem is_1 {q : MethodName × Nat} (h : q ∈ lw_privs_1) : Cond.selects q.1.cls q.1 q.1 ∈ lw_tbl := List.mem_append_left _ (List.mem_map.mpr ⟨q, (List.mem_append_left _ h : q ∈ lw_privs), rfl⟩)
theorem is_2 {q : MethodName × Nat} (h : q ∈ lw_privs_2) : Cond.selects q.1.cls q.1 q.1 ∈ lw_tbl := List.mem_append_left _ (List.mem_map.mpr ⟨q, (List.mem_append_right _ (List.mem_append_left _ h) : q ∈ lw_privs), rfl⟩)
theorem is_3 {q : MethodName × Nat} (h : q ∈ lw_privs_3) : Cond.selects q.1.cls q.1 q.1 ∈ lw_tbl := List.mem_append_left _ (List.mem_map.mpr ⟨q, (List.mem_append_right _ (List.mem_append_right _ (List.mem_append_left _ h)) : q ∈ lw_privs), rfl⟩)
theorem is_4 {q : MethodName × Nat} (h : q ∈ lw_privs_4) : Cond.selects q.1.cls q.1 q.1 ∈ lw_tbl := List.mem_append_left _ (List.mem_map.mpr ⟨q, (List.mem_append_right _ (List.mem_append_right _ (List.mem_append_right _ (h))) : q ∈ lw_privs), rfl⟩)
