theorem dX6_placeInRow_0 : decode cX6_placeInRow 0 = .ok (.iconst 0, 1) := by decide +kernel
theorem dX6_placeInRow_1 : decode cX6_placeInRow 1 = .ok (.istore_n 2, 1) := by decide +kernel
theorem dX6_placeInRow_2 : decode cX6_placeInRow 2 = .ok (.iload_n 2, 1) := by decide +kernel
theorem dX6_placeInRow_3 : decode cX6_placeInRow 3 = .ok (.aload_n 0, 1) := by decide +kernel
theorem dX6_placeInRow_4 : decode cX6_placeInRow 4 = .ok (.getfield 30, 3) := by decide +kernel
theorem dX6_placeInRow_7 : decode cX6_placeInRow 7 = .ok (.if_icmp .ge 21, 3) := by decide +kernel
theorem dX6_placeInRow_10 : decode cX6_placeInRow 10 = .ok (.aload_n 0, 1) := by decide +kernel
theorem dX6_placeInRow_11 : decode cX6_placeInRow 11 = .ok (.getfield 18, 3) := by decide +kernel
theorem dX6_placeInRow_14 : decode cX6_placeInRow 14 = .ok (.iload_n 2, 1) := by decide +kernel
theorem dX6_placeInRow_15 : decode cX6_placeInRow 15 = .ok (.iaload, 1) := by decide +kernel
theorem dX6_placeInRow_16 : decode cX6_placeInRow 16 = .ok (.iload_n 1, 1) := by decide +kernel
theorem dX6_placeInRow_17 : decode cX6_placeInRow 17 = .ok (.if_icmp .ne 5, 3) := by decide +kernel
theorem dX6_placeInRow_20 : decode cX6_placeInRow 20 = .ok (.iload_n 2, 1) := by decide +kernel
theorem dX6_placeInRow_21 : decode cX6_placeInRow 21 = .ok (.ireturn, 1) := by decide +kernel
theorem dX6_placeInRow_22 : decode cX6_placeInRow 22 = .ok (.iinc 2 1, 3) := by decide +kernel
theorem dX6_placeInRow_25 : decode cX6_placeInRow 25 = .ok (.goto (-23), 3) := by decide +kernel
theorem dX6_placeInRow_28 : decode cX6_placeInRow 28 = .ok (.iconst (-1), 1) := by decide +kernel
theorem dX6_placeInRow_29 : decode cX6_placeInRow 29 = .ok (.ireturn, 1) := by decide +kernel
abbrev kwX6_placeInRow (cI cZ cG : ClassId) (q q_kindOf q_plotOf q_row q_standsOn : Nat) (v_houses : Int32) (v_front : Int32) (v_downFor : Int32) (v_row : (Nat → Int32)) : va_W := [(q, .inr (6, [.ref q_kindOf, .ref q_plotOf, .ref q_row, .ref q_standsOn, .int v_houses, .int v_front, .int v_downFor])), (q_row, .inl (cI, 6, .inl v_row))]
noncomputable def fX6_placeInRow_2 (N : Nat) (v_houses : Int32) (v_row : (Nat → Int32)) (a1 : Int32)  (K_2 : Int32 → Option (Int32)) (l2 : Int32) : Option (Int32) := if v_houses ≤ l2 then (some (-1 : Int32)) else (if l2 < 0 ∨ 6 ≤ (l2).toNatClampNeg then none else (if (v_row (l2).toNatClampNeg) = a1 then (some l2) else (K_2 (l2 + (1 : Int32)))))
noncomputable def fX6_placeInRow (N : Nat) (v_houses : Int32) (v_row : (Nat → Int32)) (a1 : Int32)   : Option (Int32) := lfix (fun (K : Int32 → Option (Int32)) (a : Int32) => fX6_placeInRow_2 N v_houses v_row a1 (fun (l2 : Int32) => K l2) a) N (0 : Int32)
set_option maxHeartbeats 4000000 in
set_option maxRecDepth 100000 in
theorem wX6_placeInRow_2 {p : Program} {l : Launch} {e : Env} {R : Room} {s : State} {m : MethodId} {args : Array Value} {below : List Frame} {meth : Method} {c : Code} {cells slots : Nat} {Q : State → Prop} {D : va_G} {A : Nat → Prop} {cI cZ cG : ClassId} {q q_kindOf q_plotOf q_row q_standsOn : Nat} {v_houses : Int32} {v_front : Int32} {v_downFor : Int32} {v_row : (Nat → Int32)} {a1 : Int32} {N : Nat} {ρ : Int32} (X : CX p s m args c cX6_placeInRow 3 RX6 D (TY cI cZ cG) A) (hrm : RM R 0 0 cells slots) (ret : ∀ (pc : Nat) (H : Heap) (locs : List Loc) (ls : Array Slot), decode cX6_placeInRow pc = .ok (.ireturn, 1) → WD D A (kwX6_placeInRow cI cZ cG q q_kindOf q_plotOf q_row q_standsOn v_houses v_front v_downFor v_row) s.heap H locs → W p l e R s m args below meth c H locs cells slots Q (F0 m pc ls [.int ρ]))  : ∀ (n : Nat) (a : Int32), lfix (fun (K : Int32 → Option (Int32)) (a : Int32) => fX6_placeInRow_2 N v_houses v_row a1 (fun (l2 : Int32) => K l2) a) n a = some ρ → (fun (l2 : Int32) => ∀ (H : Heap) (locs : List Loc) (ls : Array Slot), WD D A (kwX6_placeInRow cI cZ cG q q_kindOf q_plotOf q_row q_standsOn v_houses v_front v_downFor v_row) s.heap H locs → lv_has ls 3 [(0, .ref q), (1, .int a1), (2, .int l2)] → W p l e R s m args below meth c H locs cells slots Q (F0 m 2 ls [])) (a) := by
  have hx := X.1.1
  have hb := X.1.2.1
  refine lfix_W (fun K hK a h => ?_)
  obtain ⟨l2, rfl⟩ : ∃ z, z = a := ⟨_, rfl⟩
  intro H locs ls hw hl
  have h : fX6_placeInRow_2 N v_houses v_row a1 (fun (l2 : Int32) => K l2) l2 = some ρ := h
  have hK_2 : ∀ (l2 : Int32), (fun (l2 : Int32) => K l2) l2 = some ρ → ∀ (H : Heap) (locs : List Loc) (ls : Array Slot), WD D A (kwX6_placeInRow cI cZ cG q q_kindOf q_plotOf q_row q_standsOn v_houses v_front v_downFor v_row) s.heap H locs → lv_has ls 3 [(0, .ref q), (1, .int a1), (2, .int l2)] → W p l e R s m args below meth c H locs cells slots Q (F0 m 2 ls []) := fun l2 h => hK l2 h
  generalize (fun (l2 : Int32) => K l2) = K_2 at h hK_2
  have hw : WD D A (kwX6_placeInRow cI cZ cG q q_kindOf q_plotOf q_row q_standsOn v_houses v_front v_downFor v_row) s.heap H locs := hw
  have hl : lv_has ls 3 [(0, .ref q), (1, .int a1), (2, .int l2)] := hl
  unfold fX6_placeInRow_2 at h
  refine lv_iload_n hx hb dX6_placeInRow_2 rfl (lv_at hl 2 rfl) ?_
  refine lv_aload_n hx hb dX6_placeInRow_3 rfl (lv_at hl 0 rfl) ?_
  refine kget (ci := 6) (v := .int v_houses) X hw iX6 0 rfl rfl 4 (by decide) tw_137 rfl dX6_placeInRow_4 ?_
  refine lv_icmp_ge (tgt := 28) hx hb dX6_placeInRow_7 (by decide) (fun c_7 => ?_) (fun c_7 => ?_)
  · have h := ift c_7 h
    refine lv_iconst (v := (-1 : Int32)) hx hb dX6_placeInRow_28 (by decide) ?_
    obtain rfl := Option.some.inj h
    exact ret _ _ _ _ dX6_placeInRow_29 hw
  · have h := iff_ c_7 h
    refine lv_aload_n hx hb dX6_placeInRow_10 rfl (lv_at hl 0 rfl) ?_
    refine kget (ci := 6) (v := .ref q_row) X hw iX6 0 rfl rfl 2 (by decide) tw_145 rfl dX6_placeInRow_11 ?_
    refine lv_iload_n hx hb dX6_placeInRow_14 rfl (lv_at hl 2 rfl) ?_
    obtain ⟨g_15, h⟩ := gd h
    refine kiald X hw 1 rfl rfl g_15 dX6_placeInRow_15 ?_
    refine lv_iload_n hx hb dX6_placeInRow_16 rfl (lv_at hl 1 rfl) ?_
    refine lv_icmp_ne (tgt := 22) hx hb dX6_placeInRow_17 (by decide) (fun c_17 => ?_) (fun c_17 => ?_)
    · have h := iff_ c_17 h
      refine lv_iinc (v := (l2 + (1 : Int32))) (lv' := [(2, .int (l2 + (1 : Int32))), (0, .ref q), (1, .int a1)]) hx hb dX6_placeInRow_22 hl (k := 2) rfl (congrArg (l2 + ·) (by decide)) (by decide) rfl (fun ls hl => ?_)
      refine lv_goto (tgt := 2) hx hb dX6_placeInRow_25 (by decide) ?_
      exact hK_2 _ h _ _ _ hw (lv_sub hl [1, 2, 0] rfl)
    · have h := ift c_17 h
      refine lv_iload_n hx hb dX6_placeInRow_20 rfl (lv_at hl 2 rfl) ?_
      obtain rfl := Option.some.inj h
      exact ret _ _ _ _ dX6_placeInRow_21 hw
set_option maxHeartbeats 4000000 in
set_option maxRecDepth 100000 in
theorem wX6_placeInRow {p : Program} {l : Launch} {e : Env} {R : Room} {s : State} {m : MethodId} {args : Array Value} {below : List Frame} {meth : Method} {c : Code} {cells slots : Nat} {Q : State → Prop} {D : va_G} {A : Nat → Prop} {cI cZ cG : ClassId} {q q_kindOf q_plotOf q_row q_standsOn : Nat} {v_houses : Int32} {v_front : Int32} {v_downFor : Int32} {v_row : (Nat → Int32)} {a1 : Int32} {N : Nat} {ρ : Int32} (X : CX p s m args c cX6_placeInRow 3 RX6 D (TY cI cZ cG) A) (hrm : RM R 0 0 cells slots) (ret : ∀ (pc : Nat) (H : Heap) (locs : List Loc) (ls : Array Slot), decode cX6_placeInRow pc = .ok (.ireturn, 1) → WD D A (kwX6_placeInRow cI cZ cG q q_kindOf q_plotOf q_row q_standsOn v_houses v_front v_downFor v_row) s.heap H locs → W p l e R s m args below meth c H locs cells slots Q (F0 m pc ls [.int ρ])) (h : fX6_placeInRow N v_houses v_row a1   = some ρ) (H : Heap) (locs : List Loc) (ls : Array Slot) (hw : WD D A (kwX6_placeInRow cI cZ cG q q_kindOf q_plotOf q_row q_standsOn v_houses v_front v_downFor v_row) s.heap H locs) (hl : lv_has ls 3 [(0, .ref q), (1, .int a1)]) : W p l e R s m args below meth c H locs cells slots Q (F0 m 0 ls []) := by
  have hx := X.1.1
  have hb := X.1.2.1
  unfold fX6_placeInRow at h
  refine lv_iconst (v := (0 : Int32)) hx hb dX6_placeInRow_0 (by decide) ?_
  refine lv_istore_n (lv' := [(2, .int (0 : Int32)), (0, .ref q), (1, .int a1)]) hx hb dX6_placeInRow_1 rfl hl (by decide) rfl (fun ls hl => ?_)
  exact wX6_placeInRow_2 X hrm ret  _ _ h _ _ _ hw (lv_sub hl [1, 2, 0] rfl)
set_option maxHeartbeats 4000000 in
set_option maxRecDepth 100000 in
theorem cX6_placeInRow_ct (l : Launch) (D : va_G) (cI cZ cG : ClassId) (q q_kindOf q_plotOf q_row q_standsOn : Nat)  (v_houses : Int32) (v_front : Int32) (v_downFor : Int32) (v_row : (Nat → Int32)) (a1 : Int32) (N : Nat) (ρ : Int32) (h : fX6_placeInRow N v_houses v_row a1   = some ρ) (sz : Nat) : Met l yX6_placeInRow (wz yX6_placeInRow cX6_placeInRow 3 (some .int)) (cRm 0 0) (cPre D (TY cI cZ cG) [.ref q, .int a1] (kwX6_placeInRow cI cZ cG q q_kindOf q_plotOf q_row q_standsOn v_houses v_front v_downFor v_row) sz) (cQi D (ρ) (kwX6_placeInRow cI cZ cG q q_kindOf q_plotOf q_row q_standsOn v_houses v_front v_downFor v_row) (kwX6_placeInRow cI cZ cG q q_kindOf q_plotOf q_row q_standsOn v_houses v_front v_downFor v_row) sz) 0 0 (va_A (kwX6_placeInRow cI cZ cG q q_kindOf q_plotOf q_row q_standsOn v_houses v_front v_downFor v_row) sz) :=
  mk_i (by decide) (Nat.le_of_ble_eq_true rfl) (fun X hrm ret hw hl => wX6_placeInRow X hrm ret h _ _ _ hw hl)
theorem dX6_standing_0 : decode cX6_standing 0 = .ok (.iconst 0, 1) := by decide +kernel
theorem dX6_standing_1 : decode cX6_standing 1 = .ok (.istore_n 1, 1) := by decide +kernel
theorem dX6_standing_2 : decode cX6_standing 2 = .ok (.iconst 0, 1) := by decide +kernel
theorem dX6_standing_3 : decode cX6_standing 3 = .ok (.istore_n 2, 1) := by decide +kernel
theorem dX6_standing_4 : decode cX6_standing 4 = .ok (.iload_n 2, 1) := by decide +kernel
theorem dX6_standing_5 : decode cX6_standing 5 = .ok (.aload_n 0, 1) := by decide +kernel
theorem dX6_standing_6 : decode cX6_standing 6 = .ok (.getfield 30, 3) := by decide +kernel
theorem dX6_standing_9 : decode cX6_standing 9 = .ok (.if_icmp .ge 20, 3) := by decide +kernel
theorem dX6_standing_12 : decode cX6_standing 12 = .ok (.aload_n 0, 1) := by decide +kernel
theorem dX6_standing_13 : decode cX6_standing 13 = .ok (.iload_n 2, 1) := by decide +kernel
theorem dX6_standing_14 : decode cX6_standing 14 = .ok (.invokevirtual 63, 3) := by decide +kernel
theorem dX6_standing_17 : decode cX6_standing 17 = .ok (.ifCond .ne 6, 3) := by decide +kernel
theorem dX6_standing_20 : decode cX6_standing 20 = .ok (.iinc 1 1, 3) := by decide +kernel
theorem dX6_standing_23 : decode cX6_standing 23 = .ok (.iinc 2 1, 3) := by decide +kernel
theorem dX6_standing_26 : decode cX6_standing 26 = .ok (.goto (-22), 3) := by decide +kernel
theorem dX6_standing_29 : decode cX6_standing 29 = .ok (.iload_n 1, 1) := by decide +kernel
theorem dX6_standing_30 : decode cX6_standing 30 = .ok (.ireturn, 1) := by decide +kernel
abbrev kwX6_standing (cI cZ cG : ClassId) (q q_kindOf q_plotOf q_row q_standsOn : Nat) (v_houses : Int32) (v_front : Int32) (v_downFor : Int32) (v_plotOf : (Nat → Int32)) : va_W := [(q, .inr (6, [.ref q_kindOf, .ref q_plotOf, .ref q_row, .ref q_standsOn, .int v_houses, .int v_front, .int v_downFor])), (q_plotOf, .inl (cI, 6, .inl v_plotOf))]
noncomputable def fX6_standing_4 (N : Nat) (v_houses : Int32) (v_plotOf : (Nat → Int32))  (K_4 : Int32 → Int32 → Option (Int32)) (l1 : Int32) (l2 : Int32) : Option (Int32) := if v_houses ≤ l2 then (some l1) else ((fX6_isDown N v_plotOf l2).bind (fun x_14 => if x_14 = 0 then (K_4 (l1 + (1 : Int32)) (l2 + (1 : Int32))) else (K_4 l1 (l2 + (1 : Int32)))))
noncomputable def fX6_standing (N : Nat) (v_houses : Int32) (v_plotOf : (Nat → Int32))   : Option (Int32) := lfix (fun (K : Int32 × Int32 → Option (Int32)) (a : Int32 × Int32) => fX6_standing_4 N v_houses v_plotOf (fun (l1 : Int32) (l2 : Int32) => K (l1, l2)) a.1 a.2) N ((0 : Int32), (0 : Int32))
set_option maxHeartbeats 4000000 in
set_option maxRecDepth 100000 in
theorem wX6_standing_4 {p : Program} {l : Launch} {e : Env} {R : Room} {s : State} {m : MethodId} {args : Array Value} {below : List Frame} {meth : Method} {c : Code} {cells slots : Nat} {Q : State → Prop} {D : va_G} {A : Nat → Prop} {cI cZ cG : ClassId} {q q_kindOf q_plotOf q_row q_standsOn : Nat} {v_houses : Int32} {v_front : Int32} {v_downFor : Int32} {v_plotOf : (Nat → Int32)} {N : Nat} {ρ : Int32} (X : CX p s m args c cX6_standing 3 RX6 D (TY cI cZ cG) A) (hrm : RM R 1 21 cells slots) (ret : ∀ (pc : Nat) (H : Heap) (locs : List Loc) (ls : Array Slot), decode cX6_standing pc = .ok (.ireturn, 1) → WD D A (kwX6_standing cI cZ cG q q_kindOf q_plotOf q_row q_standsOn v_houses v_front v_downFor v_plotOf) s.heap H locs → W p l e R s m args below meth c H locs cells slots Q (F0 m pc ls [.int ρ]))  : ∀ (n : Nat) (a : Int32 × Int32), lfix (fun (K : Int32 × Int32 → Option (Int32)) (a : Int32 × Int32) => fX6_standing_4 N v_houses v_plotOf (fun (l1 : Int32) (l2 : Int32) => K (l1, l2)) a.1 a.2) n a = some ρ → (fun (l1 : Int32) (l2 : Int32) => ∀ (H : Heap) (locs : List Loc) (ls : Array Slot), WD D A (kwX6_standing cI cZ cG q q_kindOf q_plotOf q_row q_standsOn v_houses v_front v_downFor v_plotOf) s.heap H locs → lv_has ls 3 [(0, .ref q), (1, .int l1), (2, .int l2)] → W p l e R s m args below meth c H locs cells slots Q (F0 m 4 ls [])) (a.1) (a.2) := by
  have hx := X.1.1
  have hb := X.1.2.1
  refine lfix_W (fun K hK a h => ?_)
  obtain ⟨l1, l2⟩ := a
  intro H locs ls hw hl
  have h : fX6_standing_4 N v_houses v_plotOf (fun (l1 : Int32) (l2 : Int32) => K (l1, l2)) l1 l2 = some ρ := h
  have hK_4 : ∀ (l1 : Int32) (l2 : Int32), (fun (l1 : Int32) (l2 : Int32) => K (l1, l2)) l1 l2 = some ρ → ∀ (H : Heap) (locs : List Loc) (ls : Array Slot), WD D A (kwX6_standing cI cZ cG q q_kindOf q_plotOf q_row q_standsOn v_houses v_front v_downFor v_plotOf) s.heap H locs → lv_has ls 3 [(0, .ref q), (1, .int l1), (2, .int l2)] → W p l e R s m args below meth c H locs cells slots Q (F0 m 4 ls []) := fun l1 l2 h => hK (l1, l2) h
  generalize (fun (l1 : Int32) (l2 : Int32) => K (l1, l2)) = K_4 at h hK_4
  have hw : WD D A (kwX6_standing cI cZ cG q q_kindOf q_plotOf q_row q_standsOn v_houses v_front v_downFor v_plotOf) s.heap H locs := hw
  have hl : lv_has ls 3 [(0, .ref q), (1, .int l1), (2, .int l2)] := hl
  unfold fX6_standing_4 at h
  refine lv_iload_n hx hb dX6_standing_4 rfl (lv_at hl 2 rfl) ?_
  refine lv_aload_n hx hb dX6_standing_5 rfl (lv_at hl 0 rfl) ?_
  refine kget (ci := 6) (v := .int v_houses) X hw iX6 0 rfl rfl 4 (by decide) tw_137 rfl dX6_standing_6 ?_
  refine lv_icmp_ge (tgt := 29) hx hb dX6_standing_9 (by decide) (fun c_9 => ?_) (fun c_9 => ?_)
  · have h := ift c_9 h
    refine lv_iload_n hx hb dX6_standing_29 rfl (lv_at hl 1 rfl) ?_
    obtain rfl := Option.some.inj h
    exact ret _ _ _ _ dX6_standing_30 hw
  · have h := iff_ c_9 h
    refine lv_aload_n hx hb dX6_standing_12 rfl (lv_at hl 0 rfl) ?_
    refine lv_iload_n hx hb dX6_standing_13 rfl (lv_at hl 2 rfl) ?_
    obtain ⟨x_14, hc_14, h⟩ := obd h
    refine ksV_i (ws2 := (kwX6_standing cI cZ cG q q_kindOf q_plotOf q_row q_standsOn v_houses v_front v_downFor v_plotOf)) (nW := 2) (ci := 6) (As := [.int l2]) (rest := []) X hw rfl rfl rfl (cX6_isDown_ct l D cI cZ cG q q_kindOf q_plotOf q_row q_standsOn v_houses v_front v_downFor v_plotOf l2 N x_14 hc_14 H.size) mX6_isDown tw_359 (hrm.call (by decide) (by decide)) [0, 1] rfl (by decide) rfl (by decide) rfl trivial rfl hl.1 rfl (Nat.le_of_ble_eq_true rfl) dX6_standing_14 ⟨hrm.2.2.1, hrm.2.2.2⟩ (fun H locs hw => ?_)
    refine lv_if_ne (tgt := 23) hx hb dX6_standing_17 (by decide) (fun c_17 => ?_) (fun c_17 => ?_)
    · have h := iff_ c_17 h
      refine lv_iinc (v := (l2 + (1 : Int32))) (lv' := [(2, .int (l2 + (1 : Int32))), (0, .ref q), (1, .int l1)]) hx hb dX6_standing_23 hl (k := 2) rfl (congrArg (l2 + ·) (by decide)) (by decide) rfl (fun ls hl => ?_)
      refine lv_goto (tgt := 4) hx hb dX6_standing_26 (by decide) ?_
      exact hK_4 _ _ h _ _ _ hw (lv_sub hl [1, 2, 0] rfl)
    · have h := ift c_17 h
      refine lv_iinc (v := (l1 + (1 : Int32))) (lv' := [(1, .int (l1 + (1 : Int32))), (0, .ref q), (2, .int l2)]) hx hb dX6_standing_20 hl (k := 1) rfl (congrArg (l1 + ·) (by decide)) (by decide) rfl (fun ls hl => ?_)
      refine lv_iinc (v := (l2 + (1 : Int32))) (lv' := [(2, .int (l2 + (1 : Int32))), (1, .int (l1 + (1 : Int32))), (0, .ref q)]) hx hb dX6_standing_23 hl (k := 2) rfl (congrArg (l2 + ·) (by decide)) (by decide) rfl (fun ls hl => ?_)
      refine lv_goto (tgt := 4) hx hb dX6_standing_26 (by decide) ?_
      exact hK_4 _ _ h _ _ _ hw (lv_sub hl [2, 1, 0] rfl)
set_option maxHeartbeats 4000000 in
set_option maxRecDepth 100000 in
theorem wX6_standing {p : Program} {l : Launch} {e : Env} {R : Room} {s : State} {m : MethodId} {args : Array Value} {below : List Frame} {meth : Method} {c : Code} {cells slots : Nat} {Q : State → Prop} {D : va_G} {A : Nat → Prop} {cI cZ cG : ClassId} {q q_kindOf q_plotOf q_row q_standsOn : Nat} {v_houses : Int32} {v_front : Int32} {v_downFor : Int32} {v_plotOf : (Nat → Int32)} {N : Nat} {ρ : Int32} (X : CX p s m args c cX6_standing 3 RX6 D (TY cI cZ cG) A) (hrm : RM R 1 21 cells slots) (ret : ∀ (pc : Nat) (H : Heap) (locs : List Loc) (ls : Array Slot), decode cX6_standing pc = .ok (.ireturn, 1) → WD D A (kwX6_standing cI cZ cG q q_kindOf q_plotOf q_row q_standsOn v_houses v_front v_downFor v_plotOf) s.heap H locs → W p l e R s m args below meth c H locs cells slots Q (F0 m pc ls [.int ρ])) (h : fX6_standing N v_houses v_plotOf   = some ρ) (H : Heap) (locs : List Loc) (ls : Array Slot) (hw : WD D A (kwX6_standing cI cZ cG q q_kindOf q_plotOf q_row q_standsOn v_houses v_front v_downFor v_plotOf) s.heap H locs) (hl : lv_has ls 3 [(0, .ref q)]) : W p l e R s m args below meth c H locs cells slots Q (F0 m 0 ls []) := by
  have hx := X.1.1
  have hb := X.1.2.1
  unfold fX6_standing at h
  refine lv_iconst (v := (0 : Int32)) hx hb dX6_standing_0 (by decide) ?_
  refine lv_istore_n (lv' := [(1, .int (0 : Int32)), (0, .ref q)]) hx hb dX6_standing_1 rfl hl (by decide) rfl (fun ls hl => ?_)
  refine lv_iconst (v := (0 : Int32)) hx hb dX6_standing_2 (by decide) ?_
  refine lv_istore_n (lv' := [(2, .int (0 : Int32)), (1, .int (0 : Int32)), (0, .ref q)]) hx hb dX6_standing_3 rfl hl (by decide) rfl (fun ls hl => ?_)
  exact wX6_standing_4 X hrm ret  _ _ h _ _ _ hw (lv_sub hl [2, 1, 0] rfl)
set_option maxHeartbeats 4000000 in
set_option maxRecDepth 100000 in
theorem cX6_standing_ct (l : Launch) (D : va_G) (cI cZ cG : ClassId) (q q_kindOf q_plotOf q_row q_standsOn : Nat)  (v_houses : Int32) (v_front : Int32) (v_downFor : Int32) (v_plotOf : (Nat → Int32))  (N : Nat) (ρ : Int32) (h : fX6_standing N v_houses v_plotOf   = some ρ) (sz : Nat) : Met l yX6_standing (wz yX6_standing cX6_standing 3 (some .int)) (cRm 1 21) (cPre D (TY cI cZ cG) [.ref q] (kwX6_standing cI cZ cG q q_kindOf q_plotOf q_row q_standsOn v_houses v_front v_downFor v_plotOf) sz) (cQi D (ρ) (kwX6_standing cI cZ cG q q_kindOf q_plotOf q_row q_standsOn v_houses v_front v_downFor v_plotOf) (kwX6_standing cI cZ cG q q_kindOf q_plotOf q_row q_standsOn v_houses v_front v_downFor v_plotOf) sz) 0 0 (va_A (kwX6_standing cI cZ cG q q_kindOf q_plotOf q_row q_standsOn v_houses v_front v_downFor v_plotOf) sz) :=
  mk_i (by decide) (Nat.le_of_ble_eq_true rfl) (fun X hrm ret hw hl => wX6_standing X hrm ret h _ _ _ hw hl)
theorem dX6_standsLike_0 : decode cX6_standsLike 0 = .ok (.aload_n 0, 1) := by decide +kernel
theorem dX6_standsLike_1 : decode cX6_standsLike 1 = .ok (.getfield 34, 3) := by decide +kernel
theorem dX6_standsLike_4 : decode cX6_standsLike 4 = .ok (.aload_n 1, 1) := by decide +kernel
theorem dX6_standsLike_5 : decode cX6_standsLike 5 = .ok (.getfield 34, 3) := by decide +kernel
theorem dX6_standsLike_8 : decode cX6_standsLike 8 = .ok (.if_icmp .ne 14, 3) := by decide +kernel
theorem dX6_standsLike_11 : decode cX6_standsLike 11 = .ok (.aload_n 0, 1) := by decide +kernel
theorem dX6_standsLike_12 : decode cX6_standsLike 12 = .ok (.getfield 37, 3) := by decide +kernel
theorem dX6_standsLike_15 : decode cX6_standsLike 15 = .ok (.aload_n 1, 1) := by decide +kernel
theorem dX6_standsLike_16 : decode cX6_standsLike 16 = .ok (.getfield 37, 3) := by decide +kernel
theorem dX6_standsLike_19 : decode cX6_standsLike 19 = .ok (.if_icmp .eq 5, 3) := by decide +kernel
theorem dX6_standsLike_22 : decode cX6_standsLike 22 = .ok (.iconst 0, 1) := by decide +kernel
theorem dX6_standsLike_23 : decode cX6_standsLike 23 = .ok (.ireturn, 1) := by decide +kernel
theorem dX6_standsLike_24 : decode cX6_standsLike 24 = .ok (.iconst 0, 1) := by decide +kernel
theorem dX6_standsLike_25 : decode cX6_standsLike 25 = .ok (.istore_n 2, 1) := by decide +kernel
theorem dX6_standsLike_26 : decode cX6_standsLike 26 = .ok (.iload_n 2, 1) := by decide +kernel
theorem dX6_standsLike_27 : decode cX6_standsLike 27 = .ok (.aload_n 0, 1) := by decide +kernel
theorem dX6_standsLike_28 : decode cX6_standsLike 28 = .ok (.getfield 30, 3) := by decide +kernel
theorem dX6_standsLike_31 : decode cX6_standsLike 31 = .ok (.if_icmp .ge 41, 3) := by decide +kernel
theorem dX6_standsLike_34 : decode cX6_standsLike 34 = .ok (.aload_n 0, 1) := by decide +kernel
theorem dX6_standsLike_35 : decode cX6_standsLike 35 = .ok (.getfield 15, 3) := by decide +kernel
theorem dX6_standsLike_38 : decode cX6_standsLike 38 = .ok (.iload_n 2, 1) := by decide +kernel
theorem dX6_standsLike_39 : decode cX6_standsLike 39 = .ok (.iaload, 1) := by decide +kernel
theorem dX6_standsLike_40 : decode cX6_standsLike 40 = .ok (.aload_n 1, 1) := by decide +kernel
theorem dX6_standsLike_41 : decode cX6_standsLike 41 = .ok (.getfield 15, 3) := by decide +kernel
theorem dX6_standsLike_44 : decode cX6_standsLike 44 = .ok (.iload_n 2, 1) := by decide +kernel
theorem dX6_standsLike_45 : decode cX6_standsLike 45 = .ok (.iaload, 1) := by decide +kernel
theorem dX6_standsLike_46 : decode cX6_standsLike 46 = .ok (.if_icmp .ne 18, 3) := by decide +kernel
theorem dX6_standsLike_49 : decode cX6_standsLike 49 = .ok (.aload_n 0, 1) := by decide +kernel
theorem dX6_standsLike_50 : decode cX6_standsLike 50 = .ok (.getfield 18, 3) := by decide +kernel
theorem dX6_standsLike_53 : decode cX6_standsLike 53 = .ok (.iload_n 2, 1) := by decide +kernel
theorem dX6_standsLike_54 : decode cX6_standsLike 54 = .ok (.iaload, 1) := by decide +kernel
theorem dX6_standsLike_55 : decode cX6_standsLike 55 = .ok (.aload_n 1, 1) := by decide +kernel
theorem dX6_standsLike_56 : decode cX6_standsLike 56 = .ok (.getfield 18, 3) := by decide +kernel
theorem dX6_standsLike_59 : decode cX6_standsLike 59 = .ok (.iload_n 2, 1) := by decide +kernel
theorem dX6_standsLike_60 : decode cX6_standsLike 60 = .ok (.iaload, 1) := by decide +kernel
theorem dX6_standsLike_61 : decode cX6_standsLike 61 = .ok (.if_icmp .eq 5, 3) := by decide +kernel
theorem dX6_standsLike_64 : decode cX6_standsLike 64 = .ok (.iconst 0, 1) := by decide +kernel
theorem dX6_standsLike_65 : decode cX6_standsLike 65 = .ok (.ireturn, 1) := by decide +kernel
theorem dX6_standsLike_66 : decode cX6_standsLike 66 = .ok (.iinc 2 1, 3) := by decide +kernel
theorem dX6_standsLike_69 : decode cX6_standsLike 69 = .ok (.goto (-43), 3) := by decide +kernel
theorem dX6_standsLike_72 : decode cX6_standsLike 72 = .ok (.iconst 1, 1) := by decide +kernel
theorem dX6_standsLike_73 : decode cX6_standsLike 73 = .ok (.ireturn, 1) := by decide +kernel
abbrev kwX6_standsLike (cI cZ cG : ClassId) (q q_kindOf q_plotOf q_row q_standsOn q1 q1_kindOf q1_plotOf q1_row q1_standsOn : Nat) (v_houses : Int32) (v_front : Int32) (v_downFor : Int32) (w1_houses : Int32) (w1_front : Int32) (w1_downFor : Int32) (v_plotOf : (Nat → Int32)) (w1_plotOf : (Nat → Int32)) (v_row : (Nat → Int32)) (w1_row : (Nat → Int32)) : va_W := [(q, .inr (6, [.ref q_kindOf, .ref q_plotOf, .ref q_row, .ref q_standsOn, .int v_houses, .int v_front, .int v_downFor])), (q1, .inr (6, [.ref q1_kindOf, .ref q1_plotOf, .ref q1_row, .ref q1_standsOn, .int w1_houses, .int w1_front, .int w1_downFor])), (q_plotOf, .inl (cI, 6, .inl v_plotOf)), (q1_plotOf, .inl (cI, 6, .inl w1_plotOf)), (q_row, .inl (cI, 6, .inl v_row)), (q1_row, .inl (cI, 6, .inl w1_row))]
noncomputable def fX6_standsLike_26 (N : Nat) (v_houses : Int32) (v_front : Int32) (v_downFor : Int32) (w1_front : Int32) (w1_downFor : Int32) (v_plotOf : (Nat → Int32)) (w1_plotOf : (Nat → Int32)) (v_row : (Nat → Int32)) (w1_row : (Nat → Int32))  (K_26 : Int32 → Option (Int32)) (l2 : Int32) : Option (Int32) := if v_houses ≤ l2 then (some (1 : Int32)) else (if l2 < 0 ∨ 6 ≤ (l2).toNatClampNeg then none else (if l2 < 0 ∨ 6 ≤ (l2).toNatClampNeg then none else (if (v_plotOf (l2).toNatClampNeg) = (w1_plotOf (l2).toNatClampNeg) then (if l2 < 0 ∨ 6 ≤ (l2).toNatClampNeg then none else (if l2 < 0 ∨ 6 ≤ (l2).toNatClampNeg then none else (if (v_row (l2).toNatClampNeg) = (w1_row (l2).toNatClampNeg) then (K_26 (l2 + (1 : Int32))) else (some (0 : Int32))))) else (some (0 : Int32)))))
noncomputable def fX6_standsLike (N : Nat) (v_houses : Int32) (v_front : Int32) (v_downFor : Int32) (w1_front : Int32) (w1_downFor : Int32) (v_plotOf : (Nat → Int32)) (w1_plotOf : (Nat → Int32)) (v_row : (Nat → Int32)) (w1_row : (Nat → Int32))   : Option (Int32) := if v_front = w1_front then (if v_downFor = w1_downFor then (lfix (fun (K : Int32 → Option (Int32)) (a : Int32) => fX6_standsLike_26 N v_houses v_front v_downFor w1_front w1_downFor v_plotOf w1_plotOf v_row w1_row (fun (l2 : Int32) => K l2) a) N (0 : Int32)) else (some (0 : Int32))) else (some (0 : Int32))
set_option maxHeartbeats 4000000 in
set_option maxRecDepth 100000 in
theorem wX6_standsLike_26 {p : Program} {l : Launch} {e : Env} {R : Room} {s : State} {m : MethodId} {args : Array Value} {below : List Frame} {meth : Method} {c : Code} {cells slots : Nat} {Q : State → Prop} {D : va_G} {A : Nat → Prop} {cI cZ cG : ClassId} {q q_kindOf q_plotOf q_row q_standsOn q1 q1_kindOf q1_plotOf q1_row q1_standsOn : Nat} {v_houses : Int32} {v_front : Int32} {v_downFor : Int32} {w1_houses : Int32} {w1_front : Int32} {w1_downFor : Int32} {v_plotOf : (Nat → Int32)} {w1_plotOf : (Nat → Int32)} {v_row : (Nat → Int32)} {w1_row : (Nat → Int32)} {N : Nat} {ρ : Int32} (X : CX p s m args c cX6_standsLike 3 RX6 D (TY cI cZ cG) A) (hrm : RM R 0 0 cells slots) (ret : ∀ (pc : Nat) (H : Heap) (locs : List Loc) (ls : Array Slot), narrow .boolean (.int ρ) = .int ρ → decode cX6_standsLike pc = .ok (.ireturn, 1) → WD D A (kwX6_standsLike cI cZ cG q q_kindOf q_plotOf q_row q_standsOn q1 q1_kindOf q1_plotOf q1_row q1_standsOn v_houses v_front v_downFor w1_houses w1_front w1_downFor v_plotOf w1_plotOf v_row w1_row) s.heap H locs → W p l e R s m args below meth c H locs cells slots Q (F0 m pc ls [.int ρ]))  : ∀ (n : Nat) (a : Int32), lfix (fun (K : Int32 → Option (Int32)) (a : Int32) => fX6_standsLike_26 N v_houses v_front v_downFor w1_front w1_downFor v_plotOf w1_plotOf v_row w1_row (fun (l2 : Int32) => K l2) a) n a = some ρ → (fun (l2 : Int32) => ∀ (H : Heap) (locs : List Loc) (ls : Array Slot), WD D A (kwX6_standsLike cI cZ cG q q_kindOf q_plotOf q_row q_standsOn q1 q1_kindOf q1_plotOf q1_row q1_standsOn v_houses v_front v_downFor w1_houses w1_front w1_downFor v_plotOf w1_plotOf v_row w1_row) s.heap H locs → lv_has ls 3 [(0, .ref q), (1, .ref q1), (2, .int l2)] → W p l e R s m args below meth c H locs cells slots Q (F0 m 26 ls [])) (a) := by
  have hx := X.1.1
  have hb := X.1.2.1
  refine lfix_W (fun K hK a h => ?_)
  obtain ⟨l2, rfl⟩ : ∃ z, z = a := ⟨_, rfl⟩
  intro H locs ls hw hl
  have h : fX6_standsLike_26 N v_houses v_front v_downFor w1_front w1_downFor v_plotOf w1_plotOf v_row w1_row (fun (l2 : Int32) => K l2) l2 = some ρ := h
  have hK_26 : ∀ (l2 : Int32), (fun (l2 : Int32) => K l2) l2 = some ρ → ∀ (H : Heap) (locs : List Loc) (ls : Array Slot), WD D A (kwX6_standsLike cI cZ cG q q_kindOf q_plotOf q_row q_standsOn q1 q1_kindOf q1_plotOf q1_row q1_standsOn v_houses v_front v_downFor w1_houses w1_front w1_downFor v_plotOf w1_plotOf v_row w1_row) s.heap H locs → lv_has ls 3 [(0, .ref q), (1, .ref q1), (2, .int l2)] → W p l e R s m args below meth c H locs cells slots Q (F0 m 26 ls []) := fun l2 h => hK l2 h
  generalize (fun (l2 : Int32) => K l2) = K_26 at h hK_26
  have hw : WD D A (kwX6_standsLike cI cZ cG q q_kindOf q_plotOf q_row q_standsOn q1 q1_kindOf q1_plotOf q1_row q1_standsOn v_houses v_front v_downFor w1_houses w1_front w1_downFor v_plotOf w1_plotOf v_row w1_row) s.heap H locs := hw
  have hl : lv_has ls 3 [(0, .ref q), (1, .ref q1), (2, .int l2)] := hl
  unfold fX6_standsLike_26 at h
  refine lv_iload_n hx hb dX6_standsLike_26 rfl (lv_at hl 2 rfl) ?_
  refine lv_aload_n hx hb dX6_standsLike_27 rfl (lv_at hl 0 rfl) ?_
  refine kget (ci := 6) (v := .int v_houses) X hw iX6 0 rfl rfl 4 (by decide) tw_137 rfl dX6_standsLike_28 ?_
  refine lv_icmp_ge (tgt := 72) hx hb dX6_standsLike_31 (by decide) (fun c_31 => ?_) (fun c_31 => ?_)
  · have h := ift c_31 h
    refine lv_iconst (v := (1 : Int32)) hx hb dX6_standsLike_72 (by decide) ?_
    obtain rfl := Option.some.inj h
    exact ret _ _ _ _ (show narrow .boolean (.int (1 : Int32)) = .int (1 : Int32) from rfl) dX6_standsLike_73 hw
  · have h := iff_ c_31 h
    refine lv_aload_n hx hb dX6_standsLike_34 rfl (lv_at hl 0 rfl) ?_
    refine kget (ci := 6) (v := .ref q_plotOf) X hw iX6 0 rfl rfl 1 (by decide) tw_114 rfl dX6_standsLike_35 ?_
    refine lv_iload_n hx hb dX6_standsLike_38 rfl (lv_at hl 2 rfl) ?_
    obtain ⟨g_39, h⟩ := gd h
    refine kiald X hw 2 rfl rfl g_39 dX6_standsLike_39 ?_
    refine lv_aload_n hx hb dX6_standsLike_40 rfl (lv_at hl 1 rfl) ?_
    refine kget (ci := 6) (v := .ref q1_plotOf) X hw iX6 1 rfl rfl 1 (by decide) tw_114 rfl dX6_standsLike_41 ?_
    refine lv_iload_n hx hb dX6_standsLike_44 rfl (lv_at hl 2 rfl) ?_
    obtain ⟨g_45, h⟩ := gd h
    refine kiald X hw 3 rfl rfl g_45 dX6_standsLike_45 ?_
    refine lv_icmp_ne (tgt := 64) hx hb dX6_standsLike_46 (by decide) (fun c_46 => ?_) (fun c_46 => ?_)
    · have h := iff_ c_46 h
      refine lv_iconst (v := (0 : Int32)) hx hb dX6_standsLike_64 (by decide) ?_
      obtain rfl := Option.some.inj h
      exact ret _ _ _ _ (show narrow .boolean (.int (0 : Int32)) = .int (0 : Int32) from rfl) dX6_standsLike_65 hw
    · have h := ift c_46 h
      refine lv_aload_n hx hb dX6_standsLike_49 rfl (lv_at hl 0 rfl) ?_
      refine kget (ci := 6) (v := .ref q_row) X hw iX6 0 rfl rfl 2 (by decide) tw_145 rfl dX6_standsLike_50 ?_
      refine lv_iload_n hx hb dX6_standsLike_53 rfl (lv_at hl 2 rfl) ?_
      obtain ⟨g_54, h⟩ := gd h
      refine kiald X hw 4 rfl rfl g_54 dX6_standsLike_54 ?_
      refine lv_aload_n hx hb dX6_standsLike_55 rfl (lv_at hl 1 rfl) ?_
      refine kget (ci := 6) (v := .ref q1_row) X hw iX6 1 rfl rfl 2 (by decide) tw_145 rfl dX6_standsLike_56 ?_
      refine lv_iload_n hx hb dX6_standsLike_59 rfl (lv_at hl 2 rfl) ?_
      obtain ⟨g_60, h⟩ := gd h
      refine kiald X hw 5 rfl rfl g_60 dX6_standsLike_60 ?_
      refine lv_icmp_eq (tgt := 66) hx hb dX6_standsLike_61 (by decide) (fun c_61 => ?_) (fun c_61 => ?_)
      · have h := ift c_61 h
        refine lv_iinc (v := (l2 + (1 : Int32))) (lv' := [(2, .int (l2 + (1 : Int32))), (0, .ref q), (1, .ref q1)]) hx hb dX6_standsLike_66 hl (k := 2) rfl (congrArg (l2 + ·) (by decide)) (by decide) rfl (fun ls hl => ?_)
        refine lv_goto (tgt := 26) hx hb dX6_standsLike_69 (by decide) ?_
        exact hK_26 _ h _ _ _ hw (lv_sub hl [1, 2, 0] rfl)
      · have h := iff_ c_61 h
        refine lv_iconst (v := (0 : Int32)) hx hb dX6_standsLike_64 (by decide) ?_
        obtain rfl := Option.some.inj h
        exact ret _ _ _ _ (show narrow .boolean (.int (0 : Int32)) = .int (0 : Int32) from rfl) dX6_standsLike_65 hw
set_option maxHeartbeats 4000000 in
set_option maxRecDepth 100000 in
theorem wX6_standsLike {p : Program} {l : Launch} {e : Env} {R : Room} {s : State} {m : MethodId} {args : Array Value} {below : List Frame} {meth : Method} {c : Code} {cells slots : Nat} {Q : State → Prop} {D : va_G} {A : Nat → Prop} {cI cZ cG : ClassId} {q q_kindOf q_plotOf q_row q_standsOn q1 q1_kindOf q1_plotOf q1_row q1_standsOn : Nat} {v_houses : Int32} {v_front : Int32} {v_downFor : Int32} {w1_houses : Int32} {w1_front : Int32} {w1_downFor : Int32} {v_plotOf : (Nat → Int32)} {w1_plotOf : (Nat → Int32)} {v_row : (Nat → Int32)} {w1_row : (Nat → Int32)} {N : Nat} {ρ : Int32} (X : CX p s m args c cX6_standsLike 3 RX6 D (TY cI cZ cG) A) (hrm : RM R 0 0 cells slots) (ret : ∀ (pc : Nat) (H : Heap) (locs : List Loc) (ls : Array Slot), narrow .boolean (.int ρ) = .int ρ → decode cX6_standsLike pc = .ok (.ireturn, 1) → WD D A (kwX6_standsLike cI cZ cG q q_kindOf q_plotOf q_row q_standsOn q1 q1_kindOf q1_plotOf q1_row q1_standsOn v_houses v_front v_downFor w1_houses w1_front w1_downFor v_plotOf w1_plotOf v_row w1_row) s.heap H locs → W p l e R s m args below meth c H locs cells slots Q (F0 m pc ls [.int ρ])) (h : fX6_standsLike N v_houses v_front v_downFor w1_front w1_downFor v_plotOf w1_plotOf v_row w1_row   = some ρ) (H : Heap) (locs : List Loc) (ls : Array Slot) (hw : WD D A (kwX6_standsLike cI cZ cG q q_kindOf q_plotOf q_row q_standsOn q1 q1_kindOf q1_plotOf q1_row q1_standsOn v_houses v_front v_downFor w1_houses w1_front w1_downFor v_plotOf w1_plotOf v_row w1_row) s.heap H locs) (hl : lv_has ls 3 [(0, .ref q), (1, .ref q1)]) : W p l e R s m args below meth c H locs cells slots Q (F0 m 0 ls []) := by
  have hx := X.1.1
  have hb := X.1.2.1
  unfold fX6_standsLike at h
  refine lv_aload_n hx hb dX6_standsLike_0 rfl (lv_at hl 0 rfl) ?_
  refine kget (ci := 6) (v := .int v_front) X hw iX6 0 rfl rfl 5 (by decide) tw_138 rfl dX6_standsLike_1 ?_
  refine lv_aload_n hx hb dX6_standsLike_4 rfl (lv_at hl 1 rfl) ?_
  refine kget (ci := 6) (v := .int w1_front) X hw iX6 1 rfl rfl 5 (by decide) tw_138 rfl dX6_standsLike_5 ?_
  refine lv_icmp_ne (tgt := 22) hx hb dX6_standsLike_8 (by decide) (fun c_8 => ?_) (fun c_8 => ?_)
  · have h := iff_ c_8 h
    refine lv_iconst (v := (0 : Int32)) hx hb dX6_standsLike_22 (by decide) ?_
    obtain rfl := Option.some.inj h
    exact ret _ _ _ _ (show narrow .boolean (.int (0 : Int32)) = .int (0 : Int32) from rfl) dX6_standsLike_23 hw
  · have h := ift c_8 h
    refine lv_aload_n hx hb dX6_standsLike_11 rfl (lv_at hl 0 rfl) ?_
    refine kget (ci := 6) (v := .int v_downFor) X hw iX6 0 rfl rfl 6 (by decide) tw_139 rfl dX6_standsLike_12 ?_
    refine lv_aload_n hx hb dX6_standsLike_15 rfl (lv_at hl 1 rfl) ?_
    refine kget (ci := 6) (v := .int w1_downFor) X hw iX6 1 rfl rfl 6 (by decide) tw_139 rfl dX6_standsLike_16 ?_
    refine lv_icmp_eq (tgt := 24) hx hb dX6_standsLike_19 (by decide) (fun c_19 => ?_) (fun c_19 => ?_)
    · have h := ift c_19 h
      refine lv_iconst (v := (0 : Int32)) hx hb dX6_standsLike_24 (by decide) ?_
      refine lv_istore_n (lv' := [(2, .int (0 : Int32)), (0, .ref q), (1, .ref q1)]) hx hb dX6_standsLike_25 rfl hl (by decide) rfl (fun ls hl => ?_)
      exact wX6_standsLike_26 X hrm ret  _ _ h _ _ _ hw (lv_sub hl [1, 2, 0] rfl)
    · have h := iff_ c_19 h
      refine lv_iconst (v := (0 : Int32)) hx hb dX6_standsLike_22 (by decide) ?_
      obtain rfl := Option.some.inj h
      exact ret _ _ _ _ (show narrow .boolean (.int (0 : Int32)) = .int (0 : Int32) from rfl) dX6_standsLike_23 hw
set_option maxHeartbeats 4000000 in
set_option maxRecDepth 100000 in
theorem cX6_standsLike_ct (l : Launch) (D : va_G) (cI cZ cG : ClassId) (q q_kindOf q_plotOf q_row q_standsOn q1 q1_kindOf q1_plotOf q1_row q1_standsOn : Nat)  (v_houses : Int32) (v_front : Int32) (v_downFor : Int32) (w1_houses : Int32) (w1_front : Int32) (w1_downFor : Int32) (v_plotOf : (Nat → Int32)) (w1_plotOf : (Nat → Int32)) (v_row : (Nat → Int32)) (w1_row : (Nat → Int32))  (N : Nat) (ρ : Int32) (h : fX6_standsLike N v_houses v_front v_downFor w1_front w1_downFor v_plotOf w1_plotOf v_row w1_row   = some ρ) (sz : Nat) : Met l yX6_standsLike (wz yX6_standsLike cX6_standsLike 3 (some .boolean)) (cRm 0 0) (cPre D (TY cI cZ cG) [.ref q, .ref q1] (kwX6_standsLike cI cZ cG q q_kindOf q_plotOf q_row q_standsOn q1 q1_kindOf q1_plotOf q1_row q1_standsOn v_houses v_front v_downFor w1_houses w1_front w1_downFor v_plotOf w1_plotOf v_row w1_row) sz) (cQi D (ρ) (kwX6_standsLike cI cZ cG q q_kindOf q_plotOf q_row q_standsOn q1 q1_kindOf q1_plotOf q1_row q1_standsOn v_houses v_front v_downFor w1_houses w1_front w1_downFor v_plotOf w1_plotOf v_row w1_row) (kwX6_standsLike cI cZ cG q q_kindOf q_plotOf q_row q_standsOn q1 q1_kindOf q1_plotOf q1_row q1_standsOn v_houses v_front v_downFor w1_houses w1_front w1_downFor v_plotOf w1_plotOf v_row w1_row) sz) 0 0 (va_A (kwX6_standsLike cI cZ cG q q_kindOf q_plotOf q_row q_standsOn q1 q1_kindOf q1_plotOf q1_row q1_standsOn v_houses v_front v_downFor w1_houses w1_front w1_downFor v_plotOf w1_plotOf v_row w1_row) sz) :=
  mk_z (by decide) (Nat.le_of_ble_eq_true rfl) (fun X hrm ret hw hl => wX6_standsLike X hrm ret h _ _ _ hw hl)
theorem dX7_firstLeft_0 : decode cX7_firstLeft 0 = .ok (.iconst 0, 1) := by decide +kernel
theorem dX7_firstLeft_1 : decode cX7_firstLeft 1 = .ok (.istore_n 2, 1) := by decide +kernel
theorem dX7_firstLeft_2 : decode cX7_firstLeft 2 = .ok (.iload_n 2, 1) := by decide +kernel
theorem dX7_firstLeft_3 : decode cX7_firstLeft 3 = .ok (.iload_n 1, 1) := by decide +kernel
theorem dX7_firstLeft_4 : decode cX7_firstLeft 4 = .ok (.if_icmp .ge 20, 3) := by decide +kernel
theorem dX7_firstLeft_7 : decode cX7_firstLeft 7 = .ok (.aload_n 0, 1) := by decide +kernel
theorem dX7_firstLeft_8 : decode cX7_firstLeft 8 = .ok (.getfield 18, 3) := by decide +kernel
theorem dX7_firstLeft_11 : decode cX7_firstLeft 11 = .ok (.iload_n 2, 1) := by decide +kernel
theorem dX7_firstLeft_12 : decode cX7_firstLeft 12 = .ok (.baload, 1) := by decide +kernel
theorem dX7_firstLeft_13 : decode cX7_firstLeft 13 = .ok (.ifCond .eq 5, 3) := by decide +kernel
theorem dX7_firstLeft_16 : decode cX7_firstLeft 16 = .ok (.iload_n 2, 1) := by decide +kernel
theorem dX7_firstLeft_17 : decode cX7_firstLeft 17 = .ok (.ireturn, 1) := by decide +kernel
theorem dX7_firstLeft_18 : decode cX7_firstLeft 18 = .ok (.iinc 2 1, 3) := by decide +kernel
theorem dX7_firstLeft_21 : decode cX7_firstLeft 21 = .ok (.goto (-19), 3) := by decide +kernel
theorem dX7_firstLeft_24 : decode cX7_firstLeft 24 = .ok (.iconst (-1), 1) := by decide +kernel
theorem dX7_firstLeft_25 : decode cX7_firstLeft 25 = .ok (.ireturn, 1) := by decide +kernel
abbrev kwX7_firstLeft (cI cZ cG : ClassId) (q q_gets q_pointsTo q_isLeft : Nat) (v_rings : Int32) (v_isLeft : (Nat → Int32)) : va_W := [(q, .inr (7, [.ref q_gets, .ref q_pointsTo, .ref q_isLeft, .int v_rings])), (q_isLeft, .inl (cZ, 6, .inl v_isLeft))]
noncomputable def fX7_firstLeft_2 (N : Nat) (v_isLeft : (Nat → Int32)) (a1 : Int32)  (K_2 : Int32 → Option (Int32)) (l2 : Int32) : Option (Int32) := if a1 ≤ l2 then (some (-1 : Int32)) else (if l2 < 0 ∨ 6 ≤ (l2).toNatClampNeg then none else (if (v_isLeft (l2).toNatClampNeg) = 0 then (K_2 (l2 + (1 : Int32))) else (some l2)))
noncomputable def fX7_firstLeft (N : Nat) (v_isLeft : (Nat → Int32)) (a1 : Int32)   : Option (Int32) := lfix (fun (K : Int32 → Option (Int32)) (a : Int32) => fX7_firstLeft_2 N v_isLeft a1 (fun (l2 : Int32) => K l2) a) N (0 : Int32)
set_option maxHeartbeats 4000000 in
set_option maxRecDepth 100000 in
theorem wX7_firstLeft_2 {p : Program} {l : Launch} {e : Env} {R : Room} {s : State} {m : MethodId} {args : Array Value} {below : List Frame} {meth : Method} {c : Code} {cells slots : Nat} {Q : State → Prop} {D : va_G} {A : Nat → Prop} {cI cZ cG : ClassId} {q q_gets q_pointsTo q_isLeft : Nat} {v_rings : Int32} {v_isLeft : (Nat → Int32)} {a1 : Int32} {N : Nat} {ρ : Int32} (X : CX p s m args c cX7_firstLeft 3 RX7 D (TY cI cZ cG) A) (hrm : RM R 0 0 cells slots) (ret : ∀ (pc : Nat) (H : Heap) (locs : List Loc) (ls : Array Slot), decode cX7_firstLeft pc = .ok (.ireturn, 1) → WD D A (kwX7_firstLeft cI cZ cG q q_gets q_pointsTo q_isLeft v_rings v_isLeft) s.heap H locs → W p l e R s m args below meth c H locs cells slots Q (F0 m pc ls [.int ρ]))  : ∀ (n : Nat) (a : Int32), lfix (fun (K : Int32 → Option (Int32)) (a : Int32) => fX7_firstLeft_2 N v_isLeft a1 (fun (l2 : Int32) => K l2) a) n a = some ρ → (fun (l2 : Int32) => ∀ (H : Heap) (locs : List Loc) (ls : Array Slot), WD D A (kwX7_firstLeft cI cZ cG q q_gets q_pointsTo q_isLeft v_rings v_isLeft) s.heap H locs → lv_has ls 3 [(0, .ref q), (1, .int a1), (2, .int l2)] → W p l e R s m args below meth c H locs cells slots Q (F0 m 2 ls [])) (a) := by
  have hx := X.1.1
  have hb := X.1.2.1
  refine lfix_W (fun K hK a h => ?_)
  obtain ⟨l2, rfl⟩ : ∃ z, z = a := ⟨_, rfl⟩
  intro H locs ls hw hl
  have h : fX7_firstLeft_2 N v_isLeft a1 (fun (l2 : Int32) => K l2) l2 = some ρ := h
  have hK_2 : ∀ (l2 : Int32), (fun (l2 : Int32) => K l2) l2 = some ρ → ∀ (H : Heap) (locs : List Loc) (ls : Array Slot), WD D A (kwX7_firstLeft cI cZ cG q q_gets q_pointsTo q_isLeft v_rings v_isLeft) s.heap H locs → lv_has ls 3 [(0, .ref q), (1, .int a1), (2, .int l2)] → W p l e R s m args below meth c H locs cells slots Q (F0 m 2 ls []) := fun l2 h => hK l2 h
  generalize (fun (l2 : Int32) => K l2) = K_2 at h hK_2
  have hw : WD D A (kwX7_firstLeft cI cZ cG q q_gets q_pointsTo q_isLeft v_rings v_isLeft) s.heap H locs := hw
  have hl : lv_has ls 3 [(0, .ref q), (1, .int a1), (2, .int l2)] := hl
  unfold fX7_firstLeft_2 at h
  refine lv_iload_n hx hb dX7_firstLeft_2 rfl (lv_at hl 2 rfl) ?_
  refine lv_iload_n hx hb dX7_firstLeft_3 rfl (lv_at hl 1 rfl) ?_
  refine lv_icmp_ge (tgt := 24) hx hb dX7_firstLeft_4 (by decide) (fun c_4 => ?_) (fun c_4 => ?_)
  · have h := ift c_4 h
    refine lv_iconst (v := (-1 : Int32)) hx hb dX7_firstLeft_24 (by decide) ?_
    obtain rfl := Option.some.inj h
    exact ret _ _ _ _ dX7_firstLeft_25 hw
  · have h := iff_ c_4 h
    refine lv_aload_n hx hb dX7_firstLeft_7 rfl (lv_at hl 0 rfl) ?_
    refine kget (ci := 7) (v := .ref q_isLeft) X hw iX7 0 rfl rfl 2 (by decide) tw_372 rfl dX7_firstLeft_8 ?_
    refine lv_iload_n hx hb dX7_firstLeft_11 rfl (lv_at hl 2 rfl) ?_
    obtain ⟨g_12, h⟩ := gd h
    refine kzald X hw 1 rfl rfl g_12 dX7_firstLeft_12 ?_
    refine lv_if_eq (tgt := 18) hx hb dX7_firstLeft_13 (by decide) (fun c_13 => ?_) (fun c_13 => ?_)
    · have h := ift c_13 h
      refine lv_iinc (v := (l2 + (1 : Int32))) (lv' := [(2, .int (l2 + (1 : Int32))), (0, .ref q), (1, .int a1)]) hx hb dX7_firstLeft_18 hl (k := 2) rfl (congrArg (l2 + ·) (by decide)) (by decide) rfl (fun ls hl => ?_)
      refine lv_goto (tgt := 2) hx hb dX7_firstLeft_21 (by decide) ?_
      exact hK_2 _ h _ _ _ hw (lv_sub hl [1, 2, 0] rfl)
    · have h := iff_ c_13 h
      refine lv_iload_n hx hb dX7_firstLeft_16 rfl (lv_at hl 2 rfl) ?_
      obtain rfl := Option.some.inj h
      exact ret _ _ _ _ dX7_firstLeft_17 hw
set_option maxHeartbeats 4000000 in
set_option maxRecDepth 100000 in
theorem wX7_firstLeft {p : Program} {l : Launch} {e : Env} {R : Room} {s : State} {m : MethodId} {args : Array Value} {below : List Frame} {meth : Method} {c : Code} {cells slots : Nat} {Q : State → Prop} {D : va_G} {A : Nat → Prop} {cI cZ cG : ClassId} {q q_gets q_pointsTo q_isLeft : Nat} {v_rings : Int32} {v_isLeft : (Nat → Int32)} {a1 : Int32} {N : Nat} {ρ : Int32} (X : CX p s m args c cX7_firstLeft 3 RX7 D (TY cI cZ cG) A) (hrm : RM R 0 0 cells slots) (ret : ∀ (pc : Nat) (H : Heap) (locs : List Loc) (ls : Array Slot), decode cX7_firstLeft pc = .ok (.ireturn, 1) → WD D A (kwX7_firstLeft cI cZ cG q q_gets q_pointsTo q_isLeft v_rings v_isLeft) s.heap H locs → W p l e R s m args below meth c H locs cells slots Q (F0 m pc ls [.int ρ])) (h : fX7_firstLeft N v_isLeft a1   = some ρ) (H : Heap) (locs : List Loc) (ls : Array Slot) (hw : WD D A (kwX7_firstLeft cI cZ cG q q_gets q_pointsTo q_isLeft v_rings v_isLeft) s.heap H locs) (hl : lv_has ls 3 [(0, .ref q), (1, .int a1)]) : W p l e R s m args below meth c H locs cells slots Q (F0 m 0 ls []) := by
  have hx := X.1.1
  have hb := X.1.2.1
  unfold fX7_firstLeft at h
  refine lv_iconst (v := (0 : Int32)) hx hb dX7_firstLeft_0 (by decide) ?_
  refine lv_istore_n (lv' := [(2, .int (0 : Int32)), (0, .ref q), (1, .int a1)]) hx hb dX7_firstLeft_1 rfl hl (by decide) rfl (fun ls hl => ?_)
  exact wX7_firstLeft_2 X hrm ret  _ _ h _ _ _ hw (lv_sub hl [1, 2, 0] rfl)
set_option maxHeartbeats 4000000 in
set_option maxRecDepth 100000 in
theorem cX7_firstLeft_ct (l : Launch) (D : va_G) (cI cZ cG : ClassId) (q q_gets q_pointsTo q_isLeft : Nat)  (v_rings : Int32) (v_isLeft : (Nat → Int32)) (a1 : Int32) (N : Nat) (ρ : Int32) (h : fX7_firstLeft N v_isLeft a1   = some ρ) (sz : Nat) : Met l yX7_firstLeft (wz yX7_firstLeft cX7_firstLeft 3 (some .int)) (cRm 0 0) (cPre D (TY cI cZ cG) [.ref q, .int a1] (kwX7_firstLeft cI cZ cG q q_gets q_pointsTo q_isLeft v_rings v_isLeft) sz) (cQi D (ρ) (kwX7_firstLeft cI cZ cG q q_gets q_pointsTo q_isLeft v_rings v_isLeft) (kwX7_firstLeft cI cZ cG q q_gets q_pointsTo q_isLeft v_rings v_isLeft) sz) 0 0 (va_A (kwX7_firstLeft cI cZ cG q q_gets q_pointsTo q_isLeft v_rings v_isLeft) sz) :=
  mk_i (by decide) (Nat.le_of_ble_eq_true rfl) (fun X hrm ret hw hl => wX7_firstLeft X hrm ret h _ _ _ hw hl)
theorem dX7_nearestOwner_0 : decode cX7_nearestOwner 0 = .ok (.iload_n 3, 1) := by decide +kernel
theorem dX7_nearestOwner_1 : decode cX7_nearestOwner 1 = .ok (.istore 4, 2) := by decide +kernel
theorem dX7_nearestOwner_3 : decode cX7_nearestOwner 3 = .ok (.bipush 12, 2) := by decide +kernel
theorem dX7_nearestOwner_5 : decode cX7_nearestOwner 5 = .ok (.istore 5, 2) := by decide +kernel
theorem dX7_nearestOwner_7 : decode cX7_nearestOwner 7 = .ok (.iconst 0, 1) := by decide +kernel
theorem dX7_nearestOwner_8 : decode cX7_nearestOwner 8 = .ok (.istore 6, 2) := by decide +kernel
theorem dX7_nearestOwner_10 : decode cX7_nearestOwner 10 = .ok (.iload 6, 2) := by decide +kernel
theorem dX7_nearestOwner_12 : decode cX7_nearestOwner 12 = .ok (.bipush 12, 2) := by decide +kernel
theorem dX7_nearestOwner_14 : decode cX7_nearestOwner 14 = .ok (.if_icmp .ge 57, 3) := by decide +kernel
theorem dX7_nearestOwner_17 : decode cX7_nearestOwner 17 = .ok (.aload_n 1, 1) := by decide +kernel
theorem dX7_nearestOwner_18 : decode cX7_nearestOwner 18 = .ok (.getfield 60, 3) := by decide +kernel
theorem dX7_nearestOwner_21 : decode cX7_nearestOwner 21 = .ok (.iload 6, 2) := by decide +kernel
theorem dX7_nearestOwner_23 : decode cX7_nearestOwner 23 = .ok (.iaload, 1) := by decide +kernel
theorem dX7_nearestOwner_24 : decode cX7_nearestOwner 24 = .ok (.istore 7, 2) := by decide +kernel
theorem dX7_nearestOwner_26 : decode cX7_nearestOwner 26 = .ok (.iload 7, 2) := by decide +kernel
theorem dX7_nearestOwner_28 : decode cX7_nearestOwner 28 = .ok (.iconst (-1), 1) := by decide +kernel
theorem dX7_nearestOwner_29 : decode cX7_nearestOwner 29 = .ok (.if_icmp .eq 36, 3) := by decide +kernel
theorem dX7_nearestOwner_32 : decode cX7_nearestOwner 32 = .ok (.aload_n 0, 1) := by decide +kernel
theorem dX7_nearestOwner_33 : decode cX7_nearestOwner 33 = .ok (.getfield 18, 3) := by decide +kernel
theorem dX7_nearestOwner_36 : decode cX7_nearestOwner 36 = .ok (.iload 7, 2) := by decide +kernel
theorem dX7_nearestOwner_38 : decode cX7_nearestOwner 38 = .ok (.baload, 1) := by decide +kernel
theorem dX7_nearestOwner_39 : decode cX7_nearestOwner 39 = .ok (.ifCond .eq 26, 3) := by decide +kernel
theorem dX7_nearestOwner_42 : decode cX7_nearestOwner 42 = .ok (.iload 6, 2) := by decide +kernel
theorem dX7_nearestOwner_44 : decode cX7_nearestOwner 44 = .ok (.iload_n 2, 1) := by decide +kernel
theorem dX7_nearestOwner_45 : decode cX7_nearestOwner 45 = .ok (.invokestatic 63, 3) := by decide +kernel
theorem dX7_nearestOwner_48 : decode cX7_nearestOwner 48 = .ok (.iload 5, 2) := by decide +kernel
theorem dX7_nearestOwner_50 : decode cX7_nearestOwner 50 = .ok (.if_icmp .ge 15, 3) := by decide +kernel
theorem dX7_nearestOwner_53 : decode cX7_nearestOwner 53 = .ok (.iload 6, 2) := by decide +kernel
theorem dX7_nearestOwner_55 : decode cX7_nearestOwner 55 = .ok (.iload_n 2, 1) := by decide +kernel
theorem dX7_nearestOwner_56 : decode cX7_nearestOwner 56 = .ok (.invokestatic 63, 3) := by decide +kernel
theorem dX7_nearestOwner_59 : decode cX7_nearestOwner 59 = .ok (.istore 5, 2) := by decide +kernel
theorem dX7_nearestOwner_61 : decode cX7_nearestOwner 61 = .ok (.iload 7, 2) := by decide +kernel
theorem dX7_nearestOwner_63 : decode cX7_nearestOwner 63 = .ok (.istore 4, 2) := by decide +kernel
theorem dX7_nearestOwner_65 : decode cX7_nearestOwner 65 = .ok (.iinc 6 1, 3) := by decide +kernel
theorem dX7_nearestOwner_68 : decode cX7_nearestOwner 68 = .ok (.goto (-58), 3) := by decide +kernel
theorem dX7_nearestOwner_71 : decode cX7_nearestOwner 71 = .ok (.iload 4, 2) := by decide +kernel
theorem dX7_nearestOwner_73 : decode cX7_nearestOwner 73 = .ok (.ireturn, 1) := by decide +kernel
abbrev kwX7_nearestOwner (cI cZ cG : ClassId) (q q_gets q_pointsTo q_isLeft q1 q1_kindOf q1_plotOf q1_row q1_standsOn : Nat) (v_rings : Int32) (w1_houses : Int32) (w1_front : Int32) (w1_downFor : Int32) (w1_standsOn : (Nat → Int32)) (v_isLeft : (Nat → Int32)) : va_W := [(q, .inr (7, [.ref q_gets, .ref q_pointsTo, .ref q_isLeft, .int v_rings])), (q1, .inr (6, [.ref q1_kindOf, .ref q1_plotOf, .ref q1_row, .ref q1_standsOn, .int w1_houses, .int w1_front, .int w1_downFor])), (q1_standsOn, .inl (cI, 12, .inl w1_standsOn)), (q_isLeft, .inl (cZ, 6, .inl v_isLeft))]
noncomputable def fX7_nearestOwner_10 (N : Nat) (w1_standsOn : (Nat → Int32)) (v_isLeft : (Nat → Int32)) (a2 : Int32) (a3 : Int32)  (K_10 : Int32 → Int32 → Int32 → Option (Int32)) (l4 : Int32) (l5 : Int32) (l6 : Int32) : Option (Int32) := if (12 : Int32) ≤ l6 then (some l4) else (if l6 < 0 ∨ 12 ≤ (l6).toNatClampNeg then none else (if (w1_standsOn (l6).toNatClampNeg) = (-1 : Int32) then (K_10 l4 l5 (l6 + (1 : Int32))) else (if (w1_standsOn (l6).toNatClampNeg) < 0 ∨ 6 ≤ ((w1_standsOn (l6).toNatClampNeg)).toNatClampNeg then none else (if (v_isLeft ((w1_standsOn (l6).toNatClampNeg)).toNatClampNeg) = 0 then (K_10 l4 l5 (l6 + (1 : Int32))) else ((fX8_wayRound N l6 a2).bind (fun x_45 => if l5 ≤ x_45 then (K_10 l4 l5 (l6 + (1 : Int32))) else ((fX8_wayRound N l6 a2).bind (fun x_56 => K_10 (w1_standsOn (l6).toNatClampNeg) x_56 (l6 + (1 : Int32))))))))))
noncomputable def fX7_nearestOwner (N : Nat) (w1_standsOn : (Nat → Int32)) (v_isLeft : (Nat → Int32)) (a2 : Int32) (a3 : Int32)   : Option (Int32) := lfix (fun (K : Int32 × Int32 × Int32 → Option (Int32)) (a : Int32 × Int32 × Int32) => fX7_nearestOwner_10 N w1_standsOn v_isLeft a2 a3 (fun (l4 : Int32) (l5 : Int32) (l6 : Int32) => K (l4, l5, l6)) a.1 a.2.1 a.2.2) N (a3, (12 : Int32), (0 : Int32))
set_option maxHeartbeats 4000000 in
set_option maxRecDepth 100000 in
theorem wX7_nearestOwner_10 {p : Program} {l : Launch} {e : Env} {R : Room} {s : State} {m : MethodId} {args : Array Value} {below : List Frame} {meth : Method} {c : Code} {cells slots : Nat} {Q : State → Prop} {D : va_G} {A : Nat → Prop} {cI cZ cG : ClassId} {q q_gets q_pointsTo q_isLeft q1 q1_kindOf q1_plotOf q1_row q1_standsOn : Nat} {v_rings : Int32} {w1_houses : Int32} {w1_front : Int32} {w1_downFor : Int32} {w1_standsOn : (Nat → Int32)} {v_isLeft : (Nat → Int32)} {a2 : Int32} {a3 : Int32} {N : Nat} {ρ : Int32} (X : CX p s m args c cX7_nearestOwner 8 RX7 D (TY cI cZ cG) A) (hrm : RM R 2 43 cells slots) (ret : ∀ (pc : Nat) (H : Heap) (locs : List Loc) (ls : Array Slot), decode cX7_nearestOwner pc = .ok (.ireturn, 1) → WD D A (kwX7_nearestOwner cI cZ cG q q_gets q_pointsTo q_isLeft q1 q1_kindOf q1_plotOf q1_row q1_standsOn v_rings w1_houses w1_front w1_downFor w1_standsOn v_isLeft) s.heap H locs → W p l e R s m args below meth c H locs cells slots Q (F0 m pc ls [.int ρ]))  : ∀ (n : Nat) (a : Int32 × Int32 × Int32), lfix (fun (K : Int32 × Int32 × Int32 → Option (Int32)) (a : Int32 × Int32 × Int32) => fX7_nearestOwner_10 N w1_standsOn v_isLeft a2 a3 (fun (l4 : Int32) (l5 : Int32) (l6 : Int32) => K (l4, l5, l6)) a.1 a.2.1 a.2.2) n a = some ρ → (fun (l4 : Int32) (l5 : Int32) (l6 : Int32) => ∀ (H : Heap) (locs : List Loc) (ls : Array Slot), WD D A (kwX7_nearestOwner cI cZ cG q q_gets q_pointsTo q_isLeft q1 q1_kindOf q1_plotOf q1_row q1_standsOn v_rings w1_houses w1_front w1_downFor w1_standsOn v_isLeft) s.heap H locs → lv_has ls 8 [(0, .ref q), (1, .ref q1), (2, .int a2), (4, .int l4), (5, .int l5), (6, .int l6)] → W p l e R s m args below meth c H locs cells slots Q (F0 m 10 ls [])) (a.1) (a.2.1) (a.2.2) := by
  have hx := X.1.1
  have hb := X.1.2.1
  refine lfix_W (fun K hK a h => ?_)
  obtain ⟨l4, l5, l6⟩ := a
  intro H locs ls hw hl
  have h : fX7_nearestOwner_10 N w1_standsOn v_isLeft a2 a3 (fun (l4 : Int32) (l5 : Int32) (l6 : Int32) => K (l4, l5, l6)) l4 l5 l6 = some ρ := h
  have hK_10 : ∀ (l4 : Int32) (l5 : Int32) (l6 : Int32), (fun (l4 : Int32) (l5 : Int32) (l6 : Int32) => K (l4, l5, l6)) l4 l5 l6 = some ρ → ∀ (H : Heap) (locs : List Loc) (ls : Array Slot), WD D A (kwX7_nearestOwner cI cZ cG q q_gets q_pointsTo q_isLeft q1 q1_kindOf q1_plotOf q1_row q1_standsOn v_rings w1_houses w1_front w1_downFor w1_standsOn v_isLeft) s.heap H locs → lv_has ls 8 [(0, .ref q), (1, .ref q1), (2, .int a2), (4, .int l4), (5, .int l5), (6, .int l6)] → W p l e R s m args below meth c H locs cells slots Q (F0 m 10 ls []) := fun l4 l5 l6 h => hK (l4, l5, l6) h
  generalize (fun (l4 : Int32) (l5 : Int32) (l6 : Int32) => K (l4, l5, l6)) = K_10 at h hK_10
  have hw : WD D A (kwX7_nearestOwner cI cZ cG q q_gets q_pointsTo q_isLeft q1 q1_kindOf q1_plotOf q1_row q1_standsOn v_rings w1_houses w1_front w1_downFor w1_standsOn v_isLeft) s.heap H locs := hw
  have hl : lv_has ls 8 [(0, .ref q), (1, .ref q1), (2, .int a2), (4, .int l4), (5, .int l5), (6, .int l6)] := hl
  unfold fX7_nearestOwner_10 at h
  refine lv_iload hx hb dX7_nearestOwner_10 (lv_at hl 5 rfl) ?_
  refine lv_bipush (v := (12 : Int32)) hx hb dX7_nearestOwner_12 (by decide) ?_
  refine lv_icmp_ge (tgt := 71) hx hb dX7_nearestOwner_14 (by decide) (fun c_14 => ?_) (fun c_14 => ?_)
  · have h := ift c_14 h
    refine lv_iload hx hb dX7_nearestOwner_71 (lv_at hl 3 rfl) ?_
    obtain rfl := Option.some.inj h
    exact ret _ _ _ _ dX7_nearestOwner_73 hw
  · have h := iff_ c_14 h
    refine lv_aload_n hx hb dX7_nearestOwner_17 rfl (lv_at hl 1 rfl) ?_
    refine kget (ci := 6) (v := .ref q1_standsOn) X hw iX6 1 rfl rfl 3 (by decide) tw_377 rfl dX7_nearestOwner_18 ?_
    refine lv_iload hx hb dX7_nearestOwner_21 (lv_at hl 5 rfl) ?_
    obtain ⟨g_23, h⟩ := gd h
    refine kiald X hw 2 rfl rfl g_23 dX7_nearestOwner_23 ?_
    refine lv_istore (lv' := [(7, .int (w1_standsOn (l6).toNatClampNeg)), (0, .ref q), (1, .ref q1), (2, .int a2), (4, .int l4), (5, .int l5), (6, .int l6)]) hx hb dX7_nearestOwner_24 hl (by decide) rfl (fun ls hl => ?_)
    refine lv_iload hx hb dX7_nearestOwner_26 (lv_at hl 0 rfl) ?_
    refine lv_iconst (v := (-1 : Int32)) hx hb dX7_nearestOwner_28 (by decide) ?_
    refine lv_icmp_eq (tgt := 65) hx hb dX7_nearestOwner_29 (by decide) (fun c_29 => ?_) (fun c_29 => ?_)
    · have h := ift c_29 h
      refine lv_iinc (v := (l6 + (1 : Int32))) (lv' := [(6, .int (l6 + (1 : Int32))), (7, .int (w1_standsOn (l6).toNatClampNeg)), (0, .ref q), (1, .ref q1), (2, .int a2), (4, .int l4), (5, .int l5)]) hx hb dX7_nearestOwner_65 hl (k := 6) rfl (congrArg (l6 + ·) (by decide)) (by decide) rfl (fun ls hl => ?_)
      refine lv_goto (tgt := 10) hx hb dX7_nearestOwner_68 (by decide) ?_
      exact hK_10 _ _ _ h _ _ _ hw (lv_sub hl [2, 3, 4, 5, 6, 0] rfl)
    · have h := iff_ c_29 h
      refine lv_aload_n hx hb dX7_nearestOwner_32 rfl (lv_at hl 1 rfl) ?_
      refine kget (ci := 7) (v := .ref q_isLeft) X hw iX7 0 rfl rfl 2 (by decide) tw_372 rfl dX7_nearestOwner_33 ?_
      refine lv_iload hx hb dX7_nearestOwner_36 (lv_at hl 0 rfl) ?_
      obtain ⟨g_38, h⟩ := gd h
      refine kzald X hw 3 rfl rfl g_38 dX7_nearestOwner_38 ?_
      refine lv_if_eq (tgt := 65) hx hb dX7_nearestOwner_39 (by decide) (fun c_39 => ?_) (fun c_39 => ?_)
      · have h := ift c_39 h
        refine lv_iinc (v := (l6 + (1 : Int32))) (lv' := [(6, .int (l6 + (1 : Int32))), (7, .int (w1_standsOn (l6).toNatClampNeg)), (0, .ref q), (1, .ref q1), (2, .int a2), (4, .int l4), (5, .int l5)]) hx hb dX7_nearestOwner_65 hl (k := 6) rfl (congrArg (l6 + ·) (by decide)) (by decide) rfl (fun ls hl => ?_)
        refine lv_goto (tgt := 10) hx hb dX7_nearestOwner_68 (by decide) ?_
        exact hK_10 _ _ _ h _ _ _ hw (lv_sub hl [2, 3, 4, 5, 6, 0] rfl)
      · have h := iff_ c_39 h
        refine lv_iload hx hb dX7_nearestOwner_42 (lv_at hl 6 rfl) ?_
        refine lv_iload_n hx hb dX7_nearestOwner_44 rfl (lv_at hl 3 rfl) ?_
        obtain ⟨x_45, hc_45, h⟩ := obd h
        refine ksSN_i (ws2 := (kwX7_nearestOwner cI cZ cG q q_gets q_pointsTo q_isLeft q1 q1_kindOf q1_plotOf q1_row q1_standsOn v_rings w1_houses w1_front w1_downFor w1_standsOn v_isLeft)) (nW := 4) (As := [.int l6, .int a2]) (rest := []) X hw (cX8_wayRound_ct l D cI cZ cG l6 a2 N x_45 hc_45 H.size) mX8_wayRound (List.mem_of_getElem? (i := 10) rfl) (hrm.call (by decide) (by decide)) [] rfl (by decide) rfl (by decide) rfl ⟨rfl, ⟨rfl, ⟨rfl, ⟨rfl, trivial⟩⟩⟩⟩ rfl hl.1 rfl (Nat.le_of_ble_eq_true rfl) dX7_nearestOwner_45 ⟨hrm.2.2.1, hrm.2.2.2⟩ (fun H locs hw => ?_)
        refine lv_iload hx hb dX7_nearestOwner_48 (lv_at hl 5 rfl) ?_
        refine lv_icmp_ge (tgt := 65) hx hb dX7_nearestOwner_50 (by decide) (fun c_50 => ?_) (fun c_50 => ?_)
        · have h := ift c_50 h
          refine lv_iinc (v := (l6 + (1 : Int32))) (lv' := [(6, .int (l6 + (1 : Int32))), (7, .int (w1_standsOn (l6).toNatClampNeg)), (0, .ref q), (1, .ref q1), (2, .int a2), (4, .int l4), (5, .int l5)]) hx hb dX7_nearestOwner_65 hl (k := 6) rfl (congrArg (l6 + ·) (by decide)) (by decide) rfl (fun ls hl => ?_)
          refine lv_goto (tgt := 10) hx hb dX7_nearestOwner_68 (by decide) ?_
          exact hK_10 _ _ _ h _ _ _ hw (lv_sub hl [2, 3, 4, 5, 6, 0] rfl)
        · have h := iff_ c_50 h
          refine lv_iload hx hb dX7_nearestOwner_53 (lv_at hl 6 rfl) ?_
          refine lv_iload_n hx hb dX7_nearestOwner_55 rfl (lv_at hl 3 rfl) ?_
          obtain ⟨x_56, hc_56, h⟩ := obd h
          refine ksSN_i (ws2 := (kwX7_nearestOwner cI cZ cG q q_gets q_pointsTo q_isLeft q1 q1_kindOf q1_plotOf q1_row q1_standsOn v_rings w1_houses w1_front w1_downFor w1_standsOn v_isLeft)) (nW := 4) (As := [.int l6, .int a2]) (rest := []) X hw (cX8_wayRound_ct l D cI cZ cG l6 a2 N x_56 hc_56 H.size) mX8_wayRound (List.mem_of_getElem? (i := 10) rfl) (hrm.call (by decide) (by decide)) [] rfl (by decide) rfl (by decide) rfl ⟨rfl, ⟨rfl, ⟨rfl, ⟨rfl, trivial⟩⟩⟩⟩ rfl hl.1 rfl (Nat.le_of_ble_eq_true rfl) dX7_nearestOwner_56 ⟨hrm.2.2.1, hrm.2.2.2⟩ (fun H locs hw => ?_)
          refine lv_istore (lv' := [(5, .int x_56), (7, .int (w1_standsOn (l6).toNatClampNeg)), (0, .ref q), (1, .ref q1), (2, .int a2), (4, .int l4), (6, .int l6)]) hx hb dX7_nearestOwner_59 hl (by decide) rfl (fun ls hl => ?_)
          refine lv_iload hx hb dX7_nearestOwner_61 (lv_at hl 1 rfl) ?_
          refine lv_istore (lv' := [(4, .int (w1_standsOn (l6).toNatClampNeg)), (5, .int x_56), (7, .int (w1_standsOn (l6).toNatClampNeg)), (0, .ref q), (1, .ref q1), (2, .int a2), (6, .int l6)]) hx hb dX7_nearestOwner_63 hl (by decide) rfl (fun ls hl => ?_)
          refine lv_iinc (v := (l6 + (1 : Int32))) (lv' := [(6, .int (l6 + (1 : Int32))), (4, .int (w1_standsOn (l6).toNatClampNeg)), (5, .int x_56), (7, .int (w1_standsOn (l6).toNatClampNeg)), (0, .ref q), (1, .ref q1), (2, .int a2)]) hx hb dX7_nearestOwner_65 hl (k := 6) rfl (congrArg (l6 + ·) (by decide)) (by decide) rfl (fun ls hl => ?_)
          refine lv_goto (tgt := 10) hx hb dX7_nearestOwner_68 (by decide) ?_
          exact hK_10 _ _ _ h _ _ _ hw (lv_sub hl [4, 5, 6, 1, 2, 0] rfl)
set_option maxHeartbeats 4000000 in
set_option maxRecDepth 100000 in
theorem wX7_nearestOwner {p : Program} {l : Launch} {e : Env} {R : Room} {s : State} {m : MethodId} {args : Array Value} {below : List Frame} {meth : Method} {c : Code} {cells slots : Nat} {Q : State → Prop} {D : va_G} {A : Nat → Prop} {cI cZ cG : ClassId} {q q_gets q_pointsTo q_isLeft q1 q1_kindOf q1_plotOf q1_row q1_standsOn : Nat} {v_rings : Int32} {w1_houses : Int32} {w1_front : Int32} {w1_downFor : Int32} {w1_standsOn : (Nat → Int32)} {v_isLeft : (Nat → Int32)} {a2 : Int32} {a3 : Int32} {N : Nat} {ρ : Int32} (X : CX p s m args c cX7_nearestOwner 8 RX7 D (TY cI cZ cG) A) (hrm : RM R 2 43 cells slots) (ret : ∀ (pc : Nat) (H : Heap) (locs : List Loc) (ls : Array Slot), decode cX7_nearestOwner pc = .ok (.ireturn, 1) → WD D A (kwX7_nearestOwner cI cZ cG q q_gets q_pointsTo q_isLeft q1 q1_kindOf q1_plotOf q1_row q1_standsOn v_rings w1_houses w1_front w1_downFor w1_standsOn v_isLeft) s.heap H locs → W p l e R s m args below meth c H locs cells slots Q (F0 m pc ls [.int ρ])) (h : fX7_nearestOwner N w1_standsOn v_isLeft a2 a3   = some ρ) (H : Heap) (locs : List Loc) (ls : Array Slot) (hw : WD D A (kwX7_nearestOwner cI cZ cG q q_gets q_pointsTo q_isLeft q1 q1_kindOf q1_plotOf q1_row q1_standsOn v_rings w1_houses w1_front w1_downFor w1_standsOn v_isLeft) s.heap H locs) (hl : lv_has ls 8 [(0, .ref q), (1, .ref q1), (2, .int a2), (3, .int a3)]) : W p l e R s m args below meth c H locs cells slots Q (F0 m 0 ls []) := by
  have hx := X.1.1
  have hb := X.1.2.1
  unfold fX7_nearestOwner at h
  refine lv_iload_n hx hb dX7_nearestOwner_0 rfl (lv_at hl 3 rfl) ?_
  refine lv_istore (lv' := [(4, .int a3), (0, .ref q), (1, .ref q1), (2, .int a2), (3, .int a3)]) hx hb dX7_nearestOwner_1 hl (by decide) rfl (fun ls hl => ?_)
  refine lv_bipush (v := (12 : Int32)) hx hb dX7_nearestOwner_3 (by decide) ?_
  refine lv_istore (lv' := [(5, .int (12 : Int32)), (4, .int a3), (0, .ref q), (1, .ref q1), (2, .int a2), (3, .int a3)]) hx hb dX7_nearestOwner_5 hl (by decide) rfl (fun ls hl => ?_)
  refine lv_iconst (v := (0 : Int32)) hx hb dX7_nearestOwner_7 (by decide) ?_
  refine lv_istore (lv' := [(6, .int (0 : Int32)), (5, .int (12 : Int32)), (4, .int a3), (0, .ref q), (1, .ref q1), (2, .int a2), (3, .int a3)]) hx hb dX7_nearestOwner_8 hl (by decide) rfl (fun ls hl => ?_)
  exact wX7_nearestOwner_10 X hrm ret  _ _ h _ _ _ hw (lv_sub hl [3, 4, 5, 2, 1, 0] rfl)
set_option maxHeartbeats 4000000 in
set_option maxRecDepth 100000 in
theorem cX7_nearestOwner_ct (l : Launch) (D : va_G) (cI cZ cG : ClassId) (q q_gets q_pointsTo q_isLeft q1 q1_kindOf q1_plotOf q1_row q1_standsOn : Nat)  (v_rings : Int32) (w1_houses : Int32) (w1_front : Int32) (w1_downFor : Int32) (w1_standsOn : (Nat → Int32)) (v_isLeft : (Nat → Int32)) (a2 : Int32) (a3 : Int32) (N : Nat) (ρ : Int32) (h : fX7_nearestOwner N w1_standsOn v_isLeft a2 a3   = some ρ) (sz : Nat) : Met l yX7_nearestOwner (wz yX7_nearestOwner cX7_nearestOwner 8 (some .int)) (cRm 2 43) (cPre D (TY cI cZ cG) [.ref q, .ref q1, .int a2, .int a3] (kwX7_nearestOwner cI cZ cG q q_gets q_pointsTo q_isLeft q1 q1_kindOf q1_plotOf q1_row q1_standsOn v_rings w1_houses w1_front w1_downFor w1_standsOn v_isLeft) sz) (cQi D (ρ) (kwX7_nearestOwner cI cZ cG q q_gets q_pointsTo q_isLeft q1 q1_kindOf q1_plotOf q1_row q1_standsOn v_rings w1_houses w1_front w1_downFor w1_standsOn v_isLeft) (kwX7_nearestOwner cI cZ cG q q_gets q_pointsTo q_isLeft q1 q1_kindOf q1_plotOf q1_row q1_standsOn v_rings w1_houses w1_front w1_downFor w1_standsOn v_isLeft) sz) 0 0 (va_A (kwX7_nearestOwner cI cZ cG q q_gets q_pointsTo q_isLeft q1 q1_kindOf q1_plotOf q1_row q1_standsOn v_rings w1_houses w1_front w1_downFor w1_standsOn v_isLeft) sz) :=
  mk_i (by decide) (Nat.le_of_ble_eq_true rfl) (fun X hrm ret hw hl => wX7_nearestOwner X hrm ret h _ _ _ hw hl)
theorem dX7_pointAll_0 : decode cX7_pointAll 0 = .ok (.iconst 0, 1) := by decide +kernel
theorem dX7_pointAll_1 : decode cX7_pointAll 1 = .ok (.istore_n 3, 1) := by decide +kernel
theorem dX7_pointAll_2 : decode cX7_pointAll 2 = .ok (.iload_n 3, 1) := by decide +kernel
theorem dX7_pointAll_3 : decode cX7_pointAll 3 = .ok (.aload_n 1, 1) := by decide +kernel
theorem dX7_pointAll_4 : decode cX7_pointAll 4 = .ok (.getfield 26, 3) := by decide +kernel
theorem dX7_pointAll_7 : decode cX7_pointAll 7 = .ok (.if_icmp .ge 36, 3) := by decide +kernel
theorem dX7_pointAll_10 : decode cX7_pointAll 10 = .ok (.aload_n 0, 1) := by decide +kernel
theorem dX7_pointAll_11 : decode cX7_pointAll 11 = .ok (.getfield 18, 3) := by decide +kernel
theorem dX7_pointAll_14 : decode cX7_pointAll 14 = .ok (.iload_n 3, 1) := by decide +kernel
theorem dX7_pointAll_15 : decode cX7_pointAll 15 = .ok (.baload, 1) := by decide +kernel
theorem dX7_pointAll_16 : decode cX7_pointAll 16 = .ok (.ifCond .eq 21, 3) := by decide +kernel
theorem dX7_pointAll_19 : decode cX7_pointAll 19 = .ok (.aload_n 0, 1) := by decide +kernel
theorem dX7_pointAll_20 : decode cX7_pointAll 20 = .ok (.getfield 15, 3) := by decide +kernel
theorem dX7_pointAll_23 : decode cX7_pointAll 23 = .ok (.iload_n 3, 1) := by decide +kernel
theorem dX7_pointAll_24 : decode cX7_pointAll 24 = .ok (.aload_n 0, 1) := by decide +kernel
theorem dX7_pointAll_25 : decode cX7_pointAll 25 = .ok (.aload_n 1, 1) := by decide +kernel
theorem dX7_pointAll_26 : decode cX7_pointAll 26 = .ok (.aload_n 2, 1) := by decide +kernel
theorem dX7_pointAll_27 : decode cX7_pointAll 27 = .ok (.getfield 51, 3) := by decide +kernel
theorem dX7_pointAll_30 : decode cX7_pointAll 30 = .ok (.iload_n 3, 1) := by decide +kernel
theorem dX7_pointAll_31 : decode cX7_pointAll 31 = .ok (.iaload, 1) := by decide +kernel
theorem dX7_pointAll_32 : decode cX7_pointAll 32 = .ok (.iload_n 3, 1) := by decide +kernel
theorem dX7_pointAll_33 : decode cX7_pointAll 33 = .ok (.invokevirtual 56, 3) := by decide +kernel
theorem dX7_pointAll_36 : decode cX7_pointAll 36 = .ok (.iastore, 1) := by decide +kernel
theorem dX7_pointAll_37 : decode cX7_pointAll 37 = .ok (.iinc 3 1, 3) := by decide +kernel
theorem dX7_pointAll_40 : decode cX7_pointAll 40 = .ok (.goto (-38), 3) := by decide +kernel
theorem dX7_pointAll_43 : decode cX7_pointAll 43 = .ok (.return_, 1) := by decide +kernel
abbrev kwX7_pointAll (cI cZ cG : ClassId) (q q_gets q_pointsTo q_isLeft q1 q1_kindOf q1_plotOf q1_row q1_standsOn q2 q2_worth q2_liked : Nat) (v_rings : Int32) (w1_houses : Int32) (w1_front : Int32) (w1_downFor : Int32) (v_isLeft : (Nat → Int32)) (w2_houses : Int32) (w2_liked : (Nat → Int32)) (w1_standsOn : (Nat → Int32)) (v_pointsTo : (Nat → Int32)) : va_W := [(q, .inr (7, [.ref q_gets, .ref q_pointsTo, .ref q_isLeft, .int v_rings])), (q1, .inr (6, [.ref q1_kindOf, .ref q1_plotOf, .ref q1_row, .ref q1_standsOn, .int w1_houses, .int w1_front, .int w1_downFor])), (q_isLeft, .inl (cZ, 6, .inl v_isLeft)), (q2, .inr (0, [.ref q2_worth, .ref q2_liked, .int w2_houses])), (q2_liked, .inl (cI, 6, .inl w2_liked)), (q1_standsOn, .inl (cI, 12, .inl w1_standsOn)), (q_pointsTo, .inl (cI, 6, .inl v_pointsTo))]
noncomputable def fX7_pointAll_2 (N : Nat) (w1_houses : Int32) (v_isLeft : (Nat → Int32)) (w2_liked : (Nat → Int32)) (w1_standsOn : (Nat → Int32))  (K_2 : Int32 → (Nat → Int32) → Option ((Nat → Int32))) (l3 : Int32) (v_pointsTo : (Nat → Int32)) : Option ((Nat → Int32)) := if w1_houses ≤ l3 then (some v_pointsTo) else (if l3 < 0 ∨ 6 ≤ (l3).toNatClampNeg then none else (if (v_isLeft (l3).toNatClampNeg) = 0 then (K_2 (l3 + (1 : Int32)) v_pointsTo) else (if l3 < 0 ∨ 6 ≤ (l3).toNatClampNeg then none else ((fX7_nearestOwner N w1_standsOn v_isLeft (w2_liked (l3).toNatClampNeg) l3).bind (fun x_33 => if l3 < 0 ∨ 6 ≤ (l3).toNatClampNeg then none else (K_2 (l3 + (1 : Int32)) (upd v_pointsTo (l3).toNatClampNeg x_33)))))))
noncomputable def fX7_pointAll (N : Nat) (w1_houses : Int32) (v_isLeft : (Nat → Int32)) (w2_liked : (Nat → Int32)) (w1_standsOn : (Nat → Int32)) (v_pointsTo : (Nat → Int32))  : Option ((Nat → Int32)) := lfix (fun (K : Int32 × (Nat → Int32) → Option ((Nat → Int32))) (a : Int32 × (Nat → Int32)) => fX7_pointAll_2 N w1_houses v_isLeft w2_liked w1_standsOn (fun (l3 : Int32) (v_pointsTo : (Nat → Int32)) => K (l3, v_pointsTo)) a.1 a.2) N ((0 : Int32), v_pointsTo)
set_option maxHeartbeats 4000000 in
set_option maxRecDepth 100000 in
theorem wX7_pointAll_2 {p : Program} {l : Launch} {e : Env} {R : Room} {s : State} {m : MethodId} {args : Array Value} {below : List Frame} {meth : Method} {c : Code} {cells slots : Nat} {Q : State → Prop} {D : va_G} {A : Nat → Prop} {cI cZ cG : ClassId} {q q_gets q_pointsTo q_isLeft q1 q1_kindOf q1_plotOf q1_row q1_standsOn q2 q2_worth q2_liked : Nat} {v_rings : Int32} {w1_houses : Int32} {w1_front : Int32} {w1_downFor : Int32} {v_isLeft : (Nat → Int32)} {w2_houses : Int32} {w2_liked : (Nat → Int32)} {w1_standsOn : (Nat → Int32)} {N : Nat} {ρ : (Nat → Int32)} (X : CX p s m args c cX7_pointAll 4 RX7 D (TY cI cZ cG) A) (hrm : RM R 3 70 cells slots) (ret : ∀ (pc : Nat) (H : Heap) (locs : List Loc) (ls : Array Slot), decode cX7_pointAll pc = .ok (.return_, 1) → WD D A (kwX7_pointAll cI cZ cG q q_gets q_pointsTo q_isLeft q1 q1_kindOf q1_plotOf q1_row q1_standsOn q2 q2_worth q2_liked v_rings w1_houses w1_front w1_downFor v_isLeft w2_houses w2_liked w1_standsOn ρ) s.heap H locs → W p l e R s m args below meth c H locs cells slots Q (F0 m pc ls []))  : ∀ (n : Nat) (a : Int32 × (Nat → Int32)), lfix (fun (K : Int32 × (Nat → Int32) → Option ((Nat → Int32))) (a : Int32 × (Nat → Int32)) => fX7_pointAll_2 N w1_houses v_isLeft w2_liked w1_standsOn (fun (l3 : Int32) (v_pointsTo : (Nat → Int32)) => K (l3, v_pointsTo)) a.1 a.2) n a = some ρ → (fun (l3 : Int32) (v_pointsTo : (Nat → Int32)) => ∀ (H : Heap) (locs : List Loc) (ls : Array Slot), WD D A (kwX7_pointAll cI cZ cG q q_gets q_pointsTo q_isLeft q1 q1_kindOf q1_plotOf q1_row q1_standsOn q2 q2_worth q2_liked v_rings w1_houses w1_front w1_downFor v_isLeft w2_houses w2_liked w1_standsOn v_pointsTo) s.heap H locs → lv_has ls 4 [(0, .ref q), (1, .ref q1), (2, .ref q2), (3, .int l3)] → W p l e R s m args below meth c H locs cells slots Q (F0 m 2 ls [])) (a.1) (a.2) := by
  have hx := X.1.1
  have hb := X.1.2.1
  refine lfix_W (fun K hK a h => ?_)
  obtain ⟨l3, v_pointsTo⟩ := a
  intro H locs ls hw hl
  have h : fX7_pointAll_2 N w1_houses v_isLeft w2_liked w1_standsOn (fun (l3 : Int32) (v_pointsTo : (Nat → Int32)) => K (l3, v_pointsTo)) l3 v_pointsTo = some ρ := h
  have hK_2 : ∀ (l3 : Int32) (v_pointsTo : (Nat → Int32)), (fun (l3 : Int32) (v_pointsTo : (Nat → Int32)) => K (l3, v_pointsTo)) l3 v_pointsTo = some ρ → ∀ (H : Heap) (locs : List Loc) (ls : Array Slot), WD D A (kwX7_pointAll cI cZ cG q q_gets q_pointsTo q_isLeft q1 q1_kindOf q1_plotOf q1_row q1_standsOn q2 q2_worth q2_liked v_rings w1_houses w1_front w1_downFor v_isLeft w2_houses w2_liked w1_standsOn v_pointsTo) s.heap H locs → lv_has ls 4 [(0, .ref q), (1, .ref q1), (2, .ref q2), (3, .int l3)] → W p l e R s m args below meth c H locs cells slots Q (F0 m 2 ls []) := fun l3 v_pointsTo h => hK (l3, v_pointsTo) h
  generalize (fun (l3 : Int32) (v_pointsTo : (Nat → Int32)) => K (l3, v_pointsTo)) = K_2 at h hK_2
  have hw : WD D A (kwX7_pointAll cI cZ cG q q_gets q_pointsTo q_isLeft q1 q1_kindOf q1_plotOf q1_row q1_standsOn q2 q2_worth q2_liked v_rings w1_houses w1_front w1_downFor v_isLeft w2_houses w2_liked w1_standsOn v_pointsTo) s.heap H locs := hw
  have hl : lv_has ls 4 [(0, .ref q), (1, .ref q1), (2, .ref q2), (3, .int l3)] := hl
  unfold fX7_pointAll_2 at h
  refine lv_iload_n hx hb dX7_pointAll_2 rfl (lv_at hl 3 rfl) ?_
  refine lv_aload_n hx hb dX7_pointAll_3 rfl (lv_at hl 1 rfl) ?_
  refine kget (ci := 6) (v := .int w1_houses) X hw iX6 1 rfl rfl 4 (by decide) tw_381 rfl dX7_pointAll_4 ?_
  refine lv_icmp_ge (tgt := 43) hx hb dX7_pointAll_7 (by decide) (fun c_7 => ?_) (fun c_7 => ?_)
  · have h := ift c_7 h
    obtain rfl := Option.some.inj h
    exact ret _ _ _ _ dX7_pointAll_43 hw
  · have h := iff_ c_7 h
    refine lv_aload_n hx hb dX7_pointAll_10 rfl (lv_at hl 0 rfl) ?_
    refine kget (ci := 7) (v := .ref q_isLeft) X hw iX7 0 rfl rfl 2 (by decide) tw_372 rfl dX7_pointAll_11 ?_
    refine lv_iload_n hx hb dX7_pointAll_14 rfl (lv_at hl 3 rfl) ?_
    obtain ⟨g_15, h⟩ := gd h
    refine kzald X hw 2 rfl rfl g_15 dX7_pointAll_15 ?_
    refine lv_if_eq (tgt := 37) hx hb dX7_pointAll_16 (by decide) (fun c_16 => ?_) (fun c_16 => ?_)
    · have h := ift c_16 h
      refine lv_iinc (v := (l3 + (1 : Int32))) (lv' := [(3, .int (l3 + (1 : Int32))), (0, .ref q), (1, .ref q1), (2, .ref q2)]) hx hb dX7_pointAll_37 hl (k := 3) rfl (congrArg (l3 + ·) (by decide)) (by decide) rfl (fun ls hl => ?_)
      refine lv_goto (tgt := 2) hx hb dX7_pointAll_40 (by decide) ?_
      exact hK_2 _ _ h _ _ _ hw (lv_sub hl [1, 2, 3, 0] rfl)
    · have h := iff_ c_16 h
      refine lv_aload_n hx hb dX7_pointAll_19 rfl (lv_at hl 0 rfl) ?_
      refine kget (ci := 7) (v := .ref q_pointsTo) X hw iX7 0 rfl rfl 1 (by decide) tw_382 rfl dX7_pointAll_20 ?_
      refine lv_iload_n hx hb dX7_pointAll_23 rfl (lv_at hl 3 rfl) ?_
      refine lv_aload_n hx hb dX7_pointAll_24 rfl (lv_at hl 0 rfl) ?_
      refine lv_aload_n hx hb dX7_pointAll_25 rfl (lv_at hl 1 rfl) ?_
      refine lv_aload_n hx hb dX7_pointAll_26 rfl (lv_at hl 2 rfl) ?_
      refine kget (ci := 0) (v := .ref q2_liked) X hw iX0 3 rfl rfl 1 (by decide) tw_383 rfl dX7_pointAll_27 ?_
      refine lv_iload_n hx hb dX7_pointAll_30 rfl (lv_at hl 3 rfl) ?_
      obtain ⟨g_31, h⟩ := gd h
      refine kiald X hw 4 rfl rfl g_31 dX7_pointAll_31 ?_
      refine lv_iload_n hx hb dX7_pointAll_32 rfl (lv_at hl 3 rfl) ?_
      obtain ⟨x_33, hc_33, h⟩ := obd h
      refine ksV_i (ws2 := (kwX7_pointAll cI cZ cG q q_gets q_pointsTo q_isLeft q1 q1_kindOf q1_plotOf q1_row q1_standsOn q2 q2_worth q2_liked v_rings w1_houses w1_front w1_downFor v_isLeft w2_houses w2_liked w1_standsOn v_pointsTo)) (nW := 7) (ci := 7) (As := [.ref q1, .int (w2_liked (l3).toNatClampNeg), .int l3]) (rest := [.int l3, .ref q_pointsTo]) X hw rfl rfl rfl (cX7_nearestOwner_ct l D cI cZ cG q q_gets q_pointsTo q_isLeft q1 q1_kindOf q1_plotOf q1_row q1_standsOn v_rings w1_houses w1_front w1_downFor w1_standsOn v_isLeft (w2_liked (l3).toNatClampNeg) l3 N x_33 hc_33 H.size) mX7_nearestOwner tw_384 (hrm.call (by decide) (by decide)) [0, 1, 5, 2] rfl (by decide) rfl (by decide) rfl ⟨rfl, ⟨rfl, ⟨rfl, trivial⟩⟩⟩ rfl hl.1 rfl (Nat.le_of_ble_eq_true rfl) dX7_pointAll_33 ⟨hrm.2.2.1, hrm.2.2.2⟩ (fun H locs hw => ?_)
      obtain ⟨g_36, h⟩ := gd h
      refine kiast X hw 6 rfl rfl g_36 dX7_pointAll_36 (fun H locs hw => ?_)
      have hw : WD D A (kwX7_pointAll cI cZ cG q q_gets q_pointsTo q_isLeft q1 q1_kindOf q1_plotOf q1_row q1_standsOn q2 q2_worth q2_liked v_rings w1_houses w1_front w1_downFor v_isLeft w2_houses w2_liked w1_standsOn (upd v_pointsTo (l3).toNatClampNeg x_33)) s.heap H locs := hw
      refine lv_iinc (v := (l3 + (1 : Int32))) (lv' := [(3, .int (l3 + (1 : Int32))), (0, .ref q), (1, .ref q1), (2, .ref q2)]) hx hb dX7_pointAll_37 hl (k := 3) rfl (congrArg (l3 + ·) (by decide)) (by decide) rfl (fun ls hl => ?_)
      refine lv_goto (tgt := 2) hx hb dX7_pointAll_40 (by decide) ?_
      exact hK_2 _ _ h _ _ _ hw (lv_sub hl [1, 2, 3, 0] rfl)
set_option maxHeartbeats 4000000 in
set_option maxRecDepth 100000 in
theorem wX7_pointAll {p : Program} {l : Launch} {e : Env} {R : Room} {s : State} {m : MethodId} {args : Array Value} {below : List Frame} {meth : Method} {c : Code} {cells slots : Nat} {Q : State → Prop} {D : va_G} {A : Nat → Prop} {cI cZ cG : ClassId} {q q_gets q_pointsTo q_isLeft q1 q1_kindOf q1_plotOf q1_row q1_standsOn q2 q2_worth q2_liked : Nat} {v_rings : Int32} {w1_houses : Int32} {w1_front : Int32} {w1_downFor : Int32} {v_isLeft : (Nat → Int32)} {w2_houses : Int32} {w2_liked : (Nat → Int32)} {w1_standsOn : (Nat → Int32)} {v_pointsTo : (Nat → Int32)} {N : Nat} {ρ : (Nat → Int32)} (X : CX p s m args c cX7_pointAll 4 RX7 D (TY cI cZ cG) A) (hrm : RM R 3 70 cells slots) (ret : ∀ (pc : Nat) (H : Heap) (locs : List Loc) (ls : Array Slot), decode cX7_pointAll pc = .ok (.return_, 1) → WD D A (kwX7_pointAll cI cZ cG q q_gets q_pointsTo q_isLeft q1 q1_kindOf q1_plotOf q1_row q1_standsOn q2 q2_worth q2_liked v_rings w1_houses w1_front w1_downFor v_isLeft w2_houses w2_liked w1_standsOn ρ) s.heap H locs → W p l e R s m args below meth c H locs cells slots Q (F0 m pc ls [])) (h : fX7_pointAll N w1_houses v_isLeft w2_liked w1_standsOn v_pointsTo  = some ρ) (H : Heap) (locs : List Loc) (ls : Array Slot) (hw : WD D A (kwX7_pointAll cI cZ cG q q_gets q_pointsTo q_isLeft q1 q1_kindOf q1_plotOf q1_row q1_standsOn q2 q2_worth q2_liked v_rings w1_houses w1_front w1_downFor v_isLeft w2_houses w2_liked w1_standsOn v_pointsTo) s.heap H locs) (hl : lv_has ls 4 [(0, .ref q), (1, .ref q1), (2, .ref q2)]) : W p l e R s m args below meth c H locs cells slots Q (F0 m 0 ls []) := by
  have hx := X.1.1
  have hb := X.1.2.1
  unfold fX7_pointAll at h
  refine lv_iconst (v := (0 : Int32)) hx hb dX7_pointAll_0 (by decide) ?_
  refine lv_istore_n (lv' := [(3, .int (0 : Int32)), (0, .ref q), (1, .ref q1), (2, .ref q2)]) hx hb dX7_pointAll_1 rfl hl (by decide) rfl (fun ls hl => ?_)
  exact wX7_pointAll_2 X hrm ret  _ _ h _ _ _ hw (lv_sub hl [1, 2, 3, 0] rfl)
set_option maxHeartbeats 4000000 in
set_option maxRecDepth 100000 in
theorem cX7_pointAll_ct (l : Launch) (D : va_G) (cI cZ cG : ClassId) (q q_gets q_pointsTo q_isLeft q1 q1_kindOf q1_plotOf q1_row q1_standsOn q2 q2_worth q2_liked : Nat)  (v_rings : Int32) (w1_houses : Int32) (w1_front : Int32) (w1_downFor : Int32) (v_isLeft : (Nat → Int32)) (w2_houses : Int32) (w2_liked : (Nat → Int32)) (w1_standsOn : (Nat → Int32)) (v_pointsTo : (Nat → Int32))  (N : Nat) (ρ : (Nat → Int32)) (h : fX7_pointAll N w1_houses v_isLeft w2_liked w1_standsOn v_pointsTo  = some ρ) (sz : Nat) : Met l yX7_pointAll (wz yX7_pointAll cX7_pointAll 4 none) (cRm 3 70) (cPre D (TY cI cZ cG) [.ref q, .ref q1, .ref q2] (kwX7_pointAll cI cZ cG q q_gets q_pointsTo q_isLeft q1 q1_kindOf q1_plotOf q1_row q1_standsOn q2 q2_worth q2_liked v_rings w1_houses w1_front w1_downFor v_isLeft w2_houses w2_liked w1_standsOn v_pointsTo) sz) (cQv D (kwX7_pointAll cI cZ cG q q_gets q_pointsTo q_isLeft q1 q1_kindOf q1_plotOf q1_row q1_standsOn q2 q2_worth q2_liked v_rings w1_houses w1_front w1_downFor v_isLeft w2_houses w2_liked w1_standsOn v_pointsTo) (kwX7_pointAll cI cZ cG q q_gets q_pointsTo q_isLeft q1 q1_kindOf q1_plotOf q1_row q1_standsOn q2 q2_worth q2_liked v_rings w1_houses w1_front w1_downFor v_isLeft w2_houses w2_liked w1_standsOn ρ) sz) 0 0 (va_A (kwX7_pointAll cI cZ cG q q_gets q_pointsTo q_isLeft q1 q1_kindOf q1_plotOf q1_row q1_standsOn q2 q2_worth q2_liked v_rings w1_houses w1_front w1_downFor v_isLeft w2_houses w2_liked w1_standsOn v_pointsTo) sz) :=
  mk_v (by decide) (Nat.le_of_ble_eq_true rfl) (fun X hrm ret hw hl => wX7_pointAll X hrm ret h _ _ _ hw hl)
theorem dX7_onRing_0 : decode cX7_onRing 0 = .ok (.iload_n 1, 1) := by decide +kernel
theorem dX7_onRing_1 : decode cX7_onRing 1 = .ok (.istore_n 3, 1) := by decide +kernel
theorem dX7_onRing_2 : decode cX7_onRing 2 = .ok (.iconst 0, 1) := by decide +kernel
theorem dX7_onRing_3 : decode cX7_onRing 3 = .ok (.istore 4, 2) := by decide +kernel
theorem dX7_onRing_5 : decode cX7_onRing 5 = .ok (.iload 4, 2) := by decide +kernel
theorem dX7_onRing_7 : decode cX7_onRing 7 = .ok (.iload_n 2, 1) := by decide +kernel
theorem dX7_onRing_8 : decode cX7_onRing 8 = .ok (.if_icmp .ge 16, 3) := by decide +kernel
theorem dX7_onRing_11 : decode cX7_onRing 11 = .ok (.aload_n 0, 1) := by decide +kernel
theorem dX7_onRing_12 : decode cX7_onRing 12 = .ok (.getfield 15, 3) := by decide +kernel
theorem dX7_onRing_15 : decode cX7_onRing 15 = .ok (.iload_n 3, 1) := by decide +kernel
theorem dX7_onRing_16 : decode cX7_onRing 16 = .ok (.iaload, 1) := by decide +kernel
theorem dX7_onRing_17 : decode cX7_onRing 17 = .ok (.istore_n 3, 1) := by decide +kernel
theorem dX7_onRing_18 : decode cX7_onRing 18 = .ok (.iinc 4 1, 3) := by decide +kernel
theorem dX7_onRing_21 : decode cX7_onRing 21 = .ok (.goto (-16), 3) := by decide +kernel
theorem dX7_onRing_24 : decode cX7_onRing 24 = .ok (.iload_n 3, 1) := by decide +kernel
theorem dX7_onRing_25 : decode cX7_onRing 25 = .ok (.ireturn, 1) := by decide +kernel
abbrev kwX7_onRing (cI cZ cG : ClassId) (q q_gets q_pointsTo q_isLeft : Nat) (v_rings : Int32) (v_pointsTo : (Nat → Int32)) : va_W := [(q, .inr (7, [.ref q_gets, .ref q_pointsTo, .ref q_isLeft, .int v_rings])), (q_pointsTo, .inl (cI, 6, .inl v_pointsTo))]
noncomputable def fX7_onRing_5 (N : Nat) (v_pointsTo : (Nat → Int32)) (a1 : Int32) (a2 : Int32)  (K_5 : Int32 → Int32 → Option (Int32)) (l3 : Int32) (l4 : Int32) : Option (Int32) := if a2 ≤ l4 then (some l3) else (if l3 < 0 ∨ 6 ≤ (l3).toNatClampNeg then none else (K_5 (v_pointsTo (l3).toNatClampNeg) (l4 + (1 : Int32))))
noncomputable def fX7_onRing (N : Nat) (v_pointsTo : (Nat → Int32)) (a1 : Int32) (a2 : Int32)   : Option (Int32) := lfix (fun (K : Int32 × Int32 → Option (Int32)) (a : Int32 × Int32) => fX7_onRing_5 N v_pointsTo a1 a2 (fun (l3 : Int32) (l4 : Int32) => K (l3, l4)) a.1 a.2) N (a1, (0 : Int32))
set_option maxHeartbeats 4000000 in
set_option maxRecDepth 100000 in
theorem wX7_onRing_5 {p : Program} {l : Launch} {e : Env} {R : Room} {s : State} {m : MethodId} {args : Array Value} {below : List Frame} {meth : Method} {c : Code} {cells slots : Nat} {Q : State → Prop} {D : va_G} {A : Nat → Prop} {cI cZ cG : ClassId} {q q_gets q_pointsTo q_isLeft : Nat} {v_rings : Int32} {v_pointsTo : (Nat → Int32)} {a1 : Int32} {a2 : Int32} {N : Nat} {ρ : Int32} (X : CX p s m args c cX7_onRing 5 RX7 D (TY cI cZ cG) A) (hrm : RM R 0 0 cells slots) (ret : ∀ (pc : Nat) (H : Heap) (locs : List Loc) (ls : Array Slot), decode cX7_onRing pc = .ok (.ireturn, 1) → WD D A (kwX7_onRing cI cZ cG q q_gets q_pointsTo q_isLeft v_rings v_pointsTo) s.heap H locs → W p l e R s m args below meth c H locs cells slots Q (F0 m pc ls [.int ρ]))  : ∀ (n : Nat) (a : Int32 × Int32), lfix (fun (K : Int32 × Int32 → Option (Int32)) (a : Int32 × Int32) => fX7_onRing_5 N v_pointsTo a1 a2 (fun (l3 : Int32) (l4 : Int32) => K (l3, l4)) a.1 a.2) n a = some ρ → (fun (l3 : Int32) (l4 : Int32) => ∀ (H : Heap) (locs : List Loc) (ls : Array Slot), WD D A (kwX7_onRing cI cZ cG q q_gets q_pointsTo q_isLeft v_rings v_pointsTo) s.heap H locs → lv_has ls 5 [(0, .ref q), (2, .int a2), (3, .int l3), (4, .int l4)] → W p l e R s m args below meth c H locs cells slots Q (F0 m 5 ls [])) (a.1) (a.2) := by
  have hx := X.1.1
  have hb := X.1.2.1
  refine lfix_W (fun K hK a h => ?_)
  obtain ⟨l3, l4⟩ := a
  intro H locs ls hw hl
  have h : fX7_onRing_5 N v_pointsTo a1 a2 (fun (l3 : Int32) (l4 : Int32) => K (l3, l4)) l3 l4 = some ρ := h
  have hK_5 : ∀ (l3 : Int32) (l4 : Int32), (fun (l3 : Int32) (l4 : Int32) => K (l3, l4)) l3 l4 = some ρ → ∀ (H : Heap) (locs : List Loc) (ls : Array Slot), WD D A (kwX7_onRing cI cZ cG q q_gets q_pointsTo q_isLeft v_rings v_pointsTo) s.heap H locs → lv_has ls 5 [(0, .ref q), (2, .int a2), (3, .int l3), (4, .int l4)] → W p l e R s m args below meth c H locs cells slots Q (F0 m 5 ls []) := fun l3 l4 h => hK (l3, l4) h
  generalize (fun (l3 : Int32) (l4 : Int32) => K (l3, l4)) = K_5 at h hK_5
  have hw : WD D A (kwX7_onRing cI cZ cG q q_gets q_pointsTo q_isLeft v_rings v_pointsTo) s.heap H locs := hw
  have hl : lv_has ls 5 [(0, .ref q), (2, .int a2), (3, .int l3), (4, .int l4)] := hl
  unfold fX7_onRing_5 at h
  refine lv_iload hx hb dX7_onRing_5 (lv_at hl 3 rfl) ?_
  refine lv_iload_n hx hb dX7_onRing_7 rfl (lv_at hl 1 rfl) ?_
  refine lv_icmp_ge (tgt := 24) hx hb dX7_onRing_8 (by decide) (fun c_8 => ?_) (fun c_8 => ?_)
  · have h := ift c_8 h
    refine lv_iload_n hx hb dX7_onRing_24 rfl (lv_at hl 2 rfl) ?_
    obtain rfl := Option.some.inj h
    exact ret _ _ _ _ dX7_onRing_25 hw
  · have h := iff_ c_8 h
    refine lv_aload_n hx hb dX7_onRing_11 rfl (lv_at hl 0 rfl) ?_
    refine kget (ci := 7) (v := .ref q_pointsTo) X hw iX7 0 rfl rfl 1 (by decide) tw_382 rfl dX7_onRing_12 ?_
    refine lv_iload_n hx hb dX7_onRing_15 rfl (lv_at hl 2 rfl) ?_
    obtain ⟨g_16, h⟩ := gd h
    refine kiald X hw 1 rfl rfl g_16 dX7_onRing_16 ?_
    refine lv_istore_n (lv' := [(3, .int (v_pointsTo (l3).toNatClampNeg)), (0, .ref q), (2, .int a2), (4, .int l4)]) hx hb dX7_onRing_17 rfl hl (by decide) rfl (fun ls hl => ?_)
    refine lv_iinc (v := (l4 + (1 : Int32))) (lv' := [(4, .int (l4 + (1 : Int32))), (3, .int (v_pointsTo (l3).toNatClampNeg)), (0, .ref q), (2, .int a2)]) hx hb dX7_onRing_18 hl (k := 3) rfl (congrArg (l4 + ·) (by decide)) (by decide) rfl (fun ls hl => ?_)
    refine lv_goto (tgt := 5) hx hb dX7_onRing_21 (by decide) ?_
    exact hK_5 _ _ h _ _ _ hw (lv_sub hl [2, 3, 1, 0] rfl)
set_option maxHeartbeats 4000000 in
set_option maxRecDepth 100000 in
theorem wX7_onRing {p : Program} {l : Launch} {e : Env} {R : Room} {s : State} {m : MethodId} {args : Array Value} {below : List Frame} {meth : Method} {c : Code} {cells slots : Nat} {Q : State → Prop} {D : va_G} {A : Nat → Prop} {cI cZ cG : ClassId} {q q_gets q_pointsTo q_isLeft : Nat} {v_rings : Int32} {v_pointsTo : (Nat → Int32)} {a1 : Int32} {a2 : Int32} {N : Nat} {ρ : Int32} (X : CX p s m args c cX7_onRing 5 RX7 D (TY cI cZ cG) A) (hrm : RM R 0 0 cells slots) (ret : ∀ (pc : Nat) (H : Heap) (locs : List Loc) (ls : Array Slot), decode cX7_onRing pc = .ok (.ireturn, 1) → WD D A (kwX7_onRing cI cZ cG q q_gets q_pointsTo q_isLeft v_rings v_pointsTo) s.heap H locs → W p l e R s m args below meth c H locs cells slots Q (F0 m pc ls [.int ρ])) (h : fX7_onRing N v_pointsTo a1 a2   = some ρ) (H : Heap) (locs : List Loc) (ls : Array Slot) (hw : WD D A (kwX7_onRing cI cZ cG q q_gets q_pointsTo q_isLeft v_rings v_pointsTo) s.heap H locs) (hl : lv_has ls 5 [(0, .ref q), (1, .int a1), (2, .int a2)]) : W p l e R s m args below meth c H locs cells slots Q (F0 m 0 ls []) := by
  have hx := X.1.1
  have hb := X.1.2.1
  unfold fX7_onRing at h
  refine lv_iload_n hx hb dX7_onRing_0 rfl (lv_at hl 1 rfl) ?_
  refine lv_istore_n (lv' := [(3, .int a1), (0, .ref q), (1, .int a1), (2, .int a2)]) hx hb dX7_onRing_1 rfl hl (by decide) rfl (fun ls hl => ?_)
  refine lv_iconst (v := (0 : Int32)) hx hb dX7_onRing_2 (by decide) ?_
  refine lv_istore (lv' := [(4, .int (0 : Int32)), (3, .int a1), (0, .ref q), (1, .int a1), (2, .int a2)]) hx hb dX7_onRing_3 hl (by decide) rfl (fun ls hl => ?_)
  exact wX7_onRing_5 X hrm ret  _ _ h _ _ _ hw (lv_sub hl [2, 4, 1, 0] rfl)
set_option maxHeartbeats 4000000 in
set_option maxRecDepth 100000 in
theorem cX7_onRing_ct (l : Launch) (D : va_G) (cI cZ cG : ClassId) (q q_gets q_pointsTo q_isLeft : Nat)  (v_rings : Int32) (v_pointsTo : (Nat → Int32)) (a1 : Int32) (a2 : Int32) (N : Nat) (ρ : Int32) (h : fX7_onRing N v_pointsTo a1 a2   = some ρ) (sz : Nat) : Met l yX7_onRing (wz yX7_onRing cX7_onRing 5 (some .int)) (cRm 0 0) (cPre D (TY cI cZ cG) [.ref q, .int a1, .int a2] (kwX7_onRing cI cZ cG q q_gets q_pointsTo q_isLeft v_rings v_pointsTo) sz) (cQi D (ρ) (kwX7_onRing cI cZ cG q q_gets q_pointsTo q_isLeft v_rings v_pointsTo) (kwX7_onRing cI cZ cG q q_gets q_pointsTo q_isLeft v_rings v_pointsTo) sz) 0 0 (va_A (kwX7_onRing cI cZ cG q q_gets q_pointsTo q_isLeft v_rings v_pointsTo) sz) :=
  mk_i (by decide) (Nat.le_of_ble_eq_true rfl) (fun X hrm ret hw hl => wX7_onRing X hrm ret h _ _ _ hw hl)
theorem dX7_closeRing_0 : decode cX7_closeRing 0 = .ok (.iconst 0, 1) := by decide +kernel
theorem dX7_closeRing_1 : decode cX7_closeRing 1 = .ok (.istore_n 3, 1) := by decide +kernel
theorem dX7_closeRing_2 : decode cX7_closeRing 2 = .ok (.iload_n 1, 1) := by decide +kernel
theorem dX7_closeRing_3 : decode cX7_closeRing 3 = .ok (.istore 4, 2) := by decide +kernel
theorem dX7_closeRing_5 : decode cX7_closeRing 5 = .ok (.aload_n 0, 1) := by decide +kernel
theorem dX7_closeRing_6 : decode cX7_closeRing 6 = .ok (.getfield 15, 3) := by decide +kernel
theorem dX7_closeRing_9 : decode cX7_closeRing 9 = .ok (.iload 4, 2) := by decide +kernel
theorem dX7_closeRing_11 : decode cX7_closeRing 11 = .ok (.iaload, 1) := by decide +kernel
theorem dX7_closeRing_12 : decode cX7_closeRing 12 = .ok (.istore 5, 2) := by decide +kernel
theorem dX7_closeRing_14 : decode cX7_closeRing 14 = .ok (.aload_n 0, 1) := by decide +kernel
theorem dX7_closeRing_15 : decode cX7_closeRing 15 = .ok (.getfield 9, 3) := by decide +kernel
theorem dX7_closeRing_18 : decode cX7_closeRing 18 = .ok (.iload 4, 2) := by decide +kernel
theorem dX7_closeRing_20 : decode cX7_closeRing 20 = .ok (.aload_n 2, 1) := by decide +kernel
theorem dX7_closeRing_21 : decode cX7_closeRing 21 = .ok (.getfield 66, 3) := by decide +kernel
theorem dX7_closeRing_24 : decode cX7_closeRing 24 = .ok (.iload 5, 2) := by decide +kernel
theorem dX7_closeRing_26 : decode cX7_closeRing 26 = .ok (.iaload, 1) := by decide +kernel
theorem dX7_closeRing_27 : decode cX7_closeRing 27 = .ok (.iastore, 1) := by decide +kernel
theorem dX7_closeRing_28 : decode cX7_closeRing 28 = .ok (.aload_n 0, 1) := by decide +kernel
theorem dX7_closeRing_29 : decode cX7_closeRing 29 = .ok (.getfield 18, 3) := by decide +kernel
theorem dX7_closeRing_32 : decode cX7_closeRing 32 = .ok (.iload 4, 2) := by decide +kernel
theorem dX7_closeRing_34 : decode cX7_closeRing 34 = .ok (.iconst 0, 1) := by decide +kernel
theorem dX7_closeRing_35 : decode cX7_closeRing 35 = .ok (.bastore, 1) := by decide +kernel
theorem dX7_closeRing_36 : decode cX7_closeRing 36 = .ok (.iload 5, 2) := by decide +kernel
theorem dX7_closeRing_38 : decode cX7_closeRing 38 = .ok (.istore 4, 2) := by decide +kernel
theorem dX7_closeRing_40 : decode cX7_closeRing 40 = .ok (.iinc 3 1, 3) := by decide +kernel
theorem dX7_closeRing_43 : decode cX7_closeRing 43 = .ok (.iload 4, 2) := by decide +kernel
theorem dX7_closeRing_45 : decode cX7_closeRing 45 = .ok (.iload_n 1, 1) := by decide +kernel
theorem dX7_closeRing_46 : decode cX7_closeRing 46 = .ok (.if_icmp .eq 9, 3) := by decide +kernel
theorem dX7_closeRing_49 : decode cX7_closeRing 49 = .ok (.iload_n 3, 1) := by decide +kernel
theorem dX7_closeRing_50 : decode cX7_closeRing 50 = .ok (.bipush 6, 2) := by decide +kernel
theorem dX7_closeRing_52 : decode cX7_closeRing 52 = .ok (.if_icmp .lt (-47), 3) := by decide +kernel
theorem dX7_closeRing_55 : decode cX7_closeRing 55 = .ok (.iload_n 3, 1) := by decide +kernel
theorem dX7_closeRing_56 : decode cX7_closeRing 56 = .ok (.iconst 1, 1) := by decide +kernel
theorem dX7_closeRing_57 : decode cX7_closeRing 57 = .ok (.if_icmp .le 13, 3) := by decide +kernel
theorem dX7_closeRing_60 : decode cX7_closeRing 60 = .ok (.aload_n 0, 1) := by decide +kernel
theorem dX7_closeRing_61 : decode cX7_closeRing 61 = .ok (.dup, 1) := by decide +kernel
theorem dX7_closeRing_62 : decode cX7_closeRing 62 = .ok (.getfield 22, 3) := by decide +kernel
theorem dX7_closeRing_65 : decode cX7_closeRing 65 = .ok (.iconst 1, 1) := by decide +kernel
theorem dX7_closeRing_66 : decode cX7_closeRing 66 = .ok (.iadd, 1) := by decide +kernel
theorem dX7_closeRing_67 : decode cX7_closeRing 67 = .ok (.putfield 22, 3) := by decide +kernel
theorem dX7_closeRing_70 : decode cX7_closeRing 70 = .ok (.return_, 1) := by decide +kernel
abbrev kwX7_closeRing (cI cZ cG : ClassId) (q q_gets q_pointsTo q_isLeft q2 q2_kindOf q2_plotOf q2_row q2_standsOn : Nat) (v_rings : Int32) (v_pointsTo : (Nat → Int32)) (w2_houses : Int32) (w2_front : Int32) (w2_downFor : Int32) (w2_plotOf : (Nat → Int32)) (v_gets : (Nat → Int32)) (v_isLeft : (Nat → Int32)) : va_W := [(q, .inr (7, [.ref q_gets, .ref q_pointsTo, .ref q_isLeft, .int v_rings])), (q_pointsTo, .inl (cI, 6, .inl v_pointsTo)), (q2, .inr (6, [.ref q2_kindOf, .ref q2_plotOf, .ref q2_row, .ref q2_standsOn, .int w2_houses, .int w2_front, .int w2_downFor])), (q2_plotOf, .inl (cI, 6, .inl w2_plotOf)), (q_gets, .inl (cI, 6, .inl v_gets)), (q_isLeft, .inl (cZ, 6, .inl v_isLeft))]
noncomputable def fX7_closeRing_5 (N : Nat) (v_pointsTo : (Nat → Int32)) (w2_plotOf : (Nat → Int32)) (a1 : Int32)  (K_5 : Int32 → Int32 → Int32 → (Nat → Int32) → (Nat → Int32) → Option (Int32 × (Nat → Int32) × (Nat → Int32))) (l3 : Int32) (l4 : Int32) (v_rings : Int32) (v_gets : (Nat → Int32)) (v_isLeft : (Nat → Int32)) : Option (Int32 × (Nat → Int32) × (Nat → Int32)) := if l4 < 0 ∨ 6 ≤ (l4).toNatClampNeg then none else (if (v_pointsTo (l4).toNatClampNeg) < 0 ∨ 6 ≤ ((v_pointsTo (l4).toNatClampNeg)).toNatClampNeg then none else (if l4 < 0 ∨ 6 ≤ (l4).toNatClampNeg then none else (if l4 < 0 ∨ 6 ≤ (l4).toNatClampNeg then none else (if (v_pointsTo (l4).toNatClampNeg) = a1 then (if (l3 + (1 : Int32)) ≤ (1 : Int32) then (some (v_rings, (upd v_gets (l4).toNatClampNeg (w2_plotOf ((v_pointsTo (l4).toNatClampNeg)).toNatClampNeg)), (upd v_isLeft (l4).toNatClampNeg (vp_nar .boolean (0 : Int32))))) else (some ((v_rings + (1 : Int32)), (upd v_gets (l4).toNatClampNeg (w2_plotOf ((v_pointsTo (l4).toNatClampNeg)).toNatClampNeg)), (upd v_isLeft (l4).toNatClampNeg (vp_nar .boolean (0 : Int32)))))) else (if (l3 + (1 : Int32)) < (6 : Int32) then (K_5 (l3 + (1 : Int32)) (v_pointsTo (l4).toNatClampNeg) v_rings (upd v_gets (l4).toNatClampNeg (w2_plotOf ((v_pointsTo (l4).toNatClampNeg)).toNatClampNeg)) (upd v_isLeft (l4).toNatClampNeg (vp_nar .boolean (0 : Int32)))) else (if (l3 + (1 : Int32)) ≤ (1 : Int32) then (some (v_rings, (upd v_gets (l4).toNatClampNeg (w2_plotOf ((v_pointsTo (l4).toNatClampNeg)).toNatClampNeg)), (upd v_isLeft (l4).toNatClampNeg (vp_nar .boolean (0 : Int32))))) else (some ((v_rings + (1 : Int32)), (upd v_gets (l4).toNatClampNeg (w2_plotOf ((v_pointsTo (l4).toNatClampNeg)).toNatClampNeg)), (upd v_isLeft (l4).toNatClampNeg (vp_nar .boolean (0 : Int32)))))))))))
noncomputable def fX7_closeRing (N : Nat) (v_pointsTo : (Nat → Int32)) (w2_plotOf : (Nat → Int32)) (a1 : Int32) (v_rings : Int32) (v_gets : (Nat → Int32)) (v_isLeft : (Nat → Int32))  : Option (Int32 × (Nat → Int32) × (Nat → Int32)) := lfix (fun (K : Int32 × Int32 × Int32 × (Nat → Int32) × (Nat → Int32) → Option (Int32 × (Nat → Int32) × (Nat → Int32))) (a : Int32 × Int32 × Int32 × (Nat → Int32) × (Nat → Int32)) => fX7_closeRing_5 N v_pointsTo w2_plotOf a1 (fun (l3 : Int32) (l4 : Int32) (v_rings : Int32) (v_gets : (Nat → Int32)) (v_isLeft : (Nat → Int32)) => K (l3, l4, v_rings, v_gets, v_isLeft)) a.1 a.2.1 a.2.2.1 a.2.2.2.1 a.2.2.2.2) N ((0 : Int32), a1, v_rings, v_gets, v_isLeft)
set_option maxHeartbeats 4000000 in
set_option maxRecDepth 100000 in
theorem wX7_closeRing_5 {p : Program} {l : Launch} {e : Env} {R : Room} {s : State} {m : MethodId} {args : Array Value} {below : List Frame} {meth : Method} {c : Code} {cells slots : Nat} {Q : State → Prop} {D : va_G} {A : Nat → Prop} {cI cZ cG : ClassId} {q q_gets q_pointsTo q_isLeft q2 q2_kindOf q2_plotOf q2_row q2_standsOn : Nat} {v_pointsTo : (Nat → Int32)} {w2_houses : Int32} {w2_front : Int32} {w2_downFor : Int32} {w2_plotOf : (Nat → Int32)} {a1 : Int32} {N : Nat} {ρ : Int32 × (Nat → Int32) × (Nat → Int32)} (X : CX p s m args c cX7_closeRing 6 RX7 D (TY cI cZ cG) A) (hrm : RM R 0 0 cells slots) (ret : ∀ (pc : Nat) (H : Heap) (locs : List Loc) (ls : Array Slot), decode cX7_closeRing pc = .ok (.return_, 1) → WD D A (kwX7_closeRing cI cZ cG q q_gets q_pointsTo q_isLeft q2 q2_kindOf q2_plotOf q2_row q2_standsOn (ρ.1) v_pointsTo w2_houses w2_front w2_downFor w2_plotOf (ρ.2.1) (ρ.2.2)) s.heap H locs → W p l e R s m args below meth c H locs cells slots Q (F0 m pc ls []))  : ∀ (n : Nat) (a : Int32 × Int32 × Int32 × (Nat → Int32) × (Nat → Int32)), lfix (fun (K : Int32 × Int32 × Int32 × (Nat → Int32) × (Nat → Int32) → Option (Int32 × (Nat → Int32) × (Nat → Int32))) (a : Int32 × Int32 × Int32 × (Nat → Int32) × (Nat → Int32)) => fX7_closeRing_5 N v_pointsTo w2_plotOf a1 (fun (l3 : Int32) (l4 : Int32) (v_rings : Int32) (v_gets : (Nat → Int32)) (v_isLeft : (Nat → Int32)) => K (l3, l4, v_rings, v_gets, v_isLeft)) a.1 a.2.1 a.2.2.1 a.2.2.2.1 a.2.2.2.2) n a = some ρ → (fun (l3 : Int32) (l4 : Int32) (v_rings : Int32) (v_gets : (Nat → Int32)) (v_isLeft : (Nat → Int32)) => ∀ (H : Heap) (locs : List Loc) (ls : Array Slot), WD D A (kwX7_closeRing cI cZ cG q q_gets q_pointsTo q_isLeft q2 q2_kindOf q2_plotOf q2_row q2_standsOn v_rings v_pointsTo w2_houses w2_front w2_downFor w2_plotOf v_gets v_isLeft) s.heap H locs → lv_has ls 6 [(0, .ref q), (1, .int a1), (2, .ref q2), (3, .int l3), (4, .int l4)] → W p l e R s m args below meth c H locs cells slots Q (F0 m 5 ls [])) (a.1) (a.2.1) (a.2.2.1) (a.2.2.2.1) (a.2.2.2.2) := by
  have hx := X.1.1
  have hb := X.1.2.1
  refine lfix_W (fun K hK a h => ?_)
  obtain ⟨l3, l4, v_rings, v_gets, v_isLeft⟩ := a
  intro H locs ls hw hl
  have h : fX7_closeRing_5 N v_pointsTo w2_plotOf a1 (fun (l3 : Int32) (l4 : Int32) (v_rings : Int32) (v_gets : (Nat → Int32)) (v_isLeft : (Nat → Int32)) => K (l3, l4, v_rings, v_gets, v_isLeft)) l3 l4 v_rings v_gets v_isLeft = some ρ := h
  have hK_5 : ∀ (l3 : Int32) (l4 : Int32) (v_rings : Int32) (v_gets : (Nat → Int32)) (v_isLeft : (Nat → Int32)), (fun (l3 : Int32) (l4 : Int32) (v_rings : Int32) (v_gets : (Nat → Int32)) (v_isLeft : (Nat → Int32)) => K (l3, l4, v_rings, v_gets, v_isLeft)) l3 l4 v_rings v_gets v_isLeft = some ρ → ∀ (H : Heap) (locs : List Loc) (ls : Array Slot), WD D A (kwX7_closeRing cI cZ cG q q_gets q_pointsTo q_isLeft q2 q2_kindOf q2_plotOf q2_row q2_standsOn v_rings v_pointsTo w2_houses w2_front w2_downFor w2_plotOf v_gets v_isLeft) s.heap H locs → lv_has ls 6 [(0, .ref q), (1, .int a1), (2, .ref q2), (3, .int l3), (4, .int l4)] → W p l e R s m args below meth c H locs cells slots Q (F0 m 5 ls []) := fun l3 l4 v_rings v_gets v_isLeft h => hK (l3, l4, v_rings, v_gets, v_isLeft) h
  generalize (fun (l3 : Int32) (l4 : Int32) (v_rings : Int32) (v_gets : (Nat → Int32)) (v_isLeft : (Nat → Int32)) => K (l3, l4, v_rings, v_gets, v_isLeft)) = K_5 at h hK_5
  have hw : WD D A (kwX7_closeRing cI cZ cG q q_gets q_pointsTo q_isLeft q2 q2_kindOf q2_plotOf q2_row q2_standsOn v_rings v_pointsTo w2_houses w2_front w2_downFor w2_plotOf v_gets v_isLeft) s.heap H locs := hw
  have hl : lv_has ls 6 [(0, .ref q), (1, .int a1), (2, .ref q2), (3, .int l3), (4, .int l4)] := hl
  unfold fX7_closeRing_5 at h
  refine lv_aload_n hx hb dX7_closeRing_5 rfl (lv_at hl 0 rfl) ?_
  refine kget (ci := 7) (v := .ref q_pointsTo) X hw iX7 0 rfl rfl 1 (by decide) tw_382 rfl dX7_closeRing_6 ?_
  refine lv_iload hx hb dX7_closeRing_9 (lv_at hl 4 rfl) ?_
  obtain ⟨g_11, h⟩ := gd h
  refine kiald X hw 1 rfl rfl g_11 dX7_closeRing_11 ?_
  refine lv_istore (lv' := [(5, .int (v_pointsTo (l4).toNatClampNeg)), (0, .ref q), (1, .int a1), (2, .ref q2), (3, .int l3), (4, .int l4)]) hx hb dX7_closeRing_12 hl (by decide) rfl (fun ls hl => ?_)
  refine lv_aload_n hx hb dX7_closeRing_14 rfl (lv_at hl 1 rfl) ?_
  refine kget (ci := 7) (v := .ref q_gets) X hw iX7 0 rfl rfl 0 (by decide) tw_391 rfl dX7_closeRing_15 ?_
  refine lv_iload hx hb dX7_closeRing_18 (lv_at hl 5 rfl) ?_
  refine lv_aload_n hx hb dX7_closeRing_20 rfl (lv_at hl 3 rfl) ?_
  refine kget (ci := 6) (v := .ref q2_plotOf) X hw iX6 2 rfl rfl 1 (by decide) tw_392 rfl dX7_closeRing_21 ?_
  refine lv_iload hx hb dX7_closeRing_24 (lv_at hl 0 rfl) ?_
  obtain ⟨g_26, h⟩ := gd h
  refine kiald X hw 3 rfl rfl g_26 dX7_closeRing_26 ?_
  obtain ⟨g_27, h⟩ := gd h
  refine kiast X hw 4 rfl rfl g_27 dX7_closeRing_27 (fun H locs hw => ?_)
  have hw : WD D A (kwX7_closeRing cI cZ cG q q_gets q_pointsTo q_isLeft q2 q2_kindOf q2_plotOf q2_row q2_standsOn v_rings v_pointsTo w2_houses w2_front w2_downFor w2_plotOf (upd v_gets (l4).toNatClampNeg (w2_plotOf ((v_pointsTo (l4).toNatClampNeg)).toNatClampNeg)) v_isLeft) s.heap H locs := hw
  refine lv_aload_n hx hb dX7_closeRing_28 rfl (lv_at hl 1 rfl) ?_
  refine kget (ci := 7) (v := .ref q_isLeft) X hw iX7 0 rfl rfl 2 (by decide) tw_372 rfl dX7_closeRing_29 ?_
  refine lv_iload hx hb dX7_closeRing_32 (lv_at hl 5 rfl) ?_
  refine lv_iconst (v := (0 : Int32)) hx hb dX7_closeRing_34 (by decide) ?_
  obtain ⟨g_35, h⟩ := gd h
  refine kzast X hw 5 rfl rfl g_35 dX7_closeRing_35 (fun H locs hw => ?_)
  have hw : WD D A (kwX7_closeRing cI cZ cG q q_gets q_pointsTo q_isLeft q2 q2_kindOf q2_plotOf q2_row q2_standsOn v_rings v_pointsTo w2_houses w2_front w2_downFor w2_plotOf (upd v_gets (l4).toNatClampNeg (w2_plotOf ((v_pointsTo (l4).toNatClampNeg)).toNatClampNeg)) (upd v_isLeft (l4).toNatClampNeg (vp_nar .boolean (0 : Int32)))) s.heap H locs := hw
  refine lv_iload hx hb dX7_closeRing_36 (lv_at hl 0 rfl) ?_
  refine lv_istore (lv' := [(4, .int (v_pointsTo (l4).toNatClampNeg)), (5, .int (v_pointsTo (l4).toNatClampNeg)), (0, .ref q), (1, .int a1), (2, .ref q2), (3, .int l3)]) hx hb dX7_closeRing_38 hl (by decide) rfl (fun ls hl => ?_)
  refine lv_iinc (v := (l3 + (1 : Int32))) (lv' := [(3, .int (l3 + (1 : Int32))), (4, .int (v_pointsTo (l4).toNatClampNeg)), (5, .int (v_pointsTo (l4).toNatClampNeg)), (0, .ref q), (1, .int a1), (2, .ref q2)]) hx hb dX7_closeRing_40 hl (k := 5) rfl (congrArg (l3 + ·) (by decide)) (by decide) rfl (fun ls hl => ?_)
  refine lv_iload hx hb dX7_closeRing_43 (lv_at hl 1 rfl) ?_
  refine lv_iload_n hx hb dX7_closeRing_45 rfl (lv_at hl 4 rfl) ?_
  refine lv_icmp_eq (tgt := 55) hx hb dX7_closeRing_46 (by decide) (fun c_46 => ?_) (fun c_46 => ?_)
  · have h := ift c_46 h
    refine lv_iload_n hx hb dX7_closeRing_55 rfl (lv_at hl 0 rfl) ?_
    refine lv_iconst (v := (1 : Int32)) hx hb dX7_closeRing_56 (by decide) ?_
    refine lv_icmp_le (tgt := 70) hx hb dX7_closeRing_57 (by decide) (fun c_57 => ?_) (fun c_57 => ?_)
    · have h := ift c_57 h
      obtain rfl := Option.some.inj h
      exact ret _ _ _ _ dX7_closeRing_70 hw
    · have h := iff_ c_57 h
      refine lv_aload_n hx hb dX7_closeRing_60 rfl (lv_at hl 3 rfl) ?_
      refine lv_dup hx hb dX7_closeRing_61 rfl ?_
      refine kget (ci := 7) (v := .int v_rings) X hw iX7 0 rfl rfl 3 (by decide) tw_393 rfl dX7_closeRing_62 ?_
      refine lv_iconst (v := (1 : Int32)) hx hb dX7_closeRing_65 (by decide) ?_
      refine lv_iadd hx hb dX7_closeRing_66 ?_
      refine kput (ci := 7) (v := .int (v_rings + (1 : Int32))) (ty := .int) X hw iX7 tyX7_ok nmX7 0 rfl rfl 3 (by decide) tw_393 rfl rfl rfl rfl (Nat.le_of_ble_eq_true rfl) dX7_closeRing_67 (fun H locs hw => ?_)
      have hw : WD D A (kwX7_closeRing cI cZ cG q q_gets q_pointsTo q_isLeft q2 q2_kindOf q2_plotOf q2_row q2_standsOn (v_rings + (1 : Int32)) v_pointsTo w2_houses w2_front w2_downFor w2_plotOf (upd v_gets (l4).toNatClampNeg (w2_plotOf ((v_pointsTo (l4).toNatClampNeg)).toNatClampNeg)) (upd v_isLeft (l4).toNatClampNeg (vp_nar .boolean (0 : Int32)))) s.heap H locs := hw
      obtain rfl := Option.some.inj h
      exact ret _ _ _ _ dX7_closeRing_70 hw
  · have h := iff_ c_46 h
    refine lv_iload_n hx hb dX7_closeRing_49 rfl (lv_at hl 0 rfl) ?_
    refine lv_bipush (v := (6 : Int32)) hx hb dX7_closeRing_50 (by decide) ?_
    refine lv_icmp_lt (tgt := 5) hx hb dX7_closeRing_52 (by decide) (fun c_52 => ?_) (fun c_52 => ?_)
    · have h := ift c_52 h
      exact hK_5 _ _ _ _ _ h _ _ _ hw (lv_sub hl [3, 4, 5, 0, 1] rfl)
    · have h := iff_ c_52 h
      refine lv_iload_n hx hb dX7_closeRing_55 rfl (lv_at hl 0 rfl) ?_
      refine lv_iconst (v := (1 : Int32)) hx hb dX7_closeRing_56 (by decide) ?_
      refine lv_icmp_le (tgt := 70) hx hb dX7_closeRing_57 (by decide) (fun c_57 => ?_) (fun c_57 => ?_)
      · have h := ift c_57 h
        obtain rfl := Option.some.inj h
        exact ret _ _ _ _ dX7_closeRing_70 hw
      · have h := iff_ c_57 h
        refine lv_aload_n hx hb dX7_closeRing_60 rfl (lv_at hl 3 rfl) ?_
        refine lv_dup hx hb dX7_closeRing_61 rfl ?_
        refine kget (ci := 7) (v := .int v_rings) X hw iX7 0 rfl rfl 3 (by decide) tw_393 rfl dX7_closeRing_62 ?_
        refine lv_iconst (v := (1 : Int32)) hx hb dX7_closeRing_65 (by decide) ?_
        refine lv_iadd hx hb dX7_closeRing_66 ?_
        refine kput (ci := 7) (v := .int (v_rings + (1 : Int32))) (ty := .int) X hw iX7 tyX7_ok nmX7 0 rfl rfl 3 (by decide) tw_393 rfl rfl rfl rfl (Nat.le_of_ble_eq_true rfl) dX7_closeRing_67 (fun H locs hw => ?_)
        have hw : WD D A (kwX7_closeRing cI cZ cG q q_gets q_pointsTo q_isLeft q2 q2_kindOf q2_plotOf q2_row q2_standsOn (v_rings + (1 : Int32)) v_pointsTo w2_houses w2_front w2_downFor w2_plotOf (upd v_gets (l4).toNatClampNeg (w2_plotOf ((v_pointsTo (l4).toNatClampNeg)).toNatClampNeg)) (upd v_isLeft (l4).toNatClampNeg (vp_nar .boolean (0 : Int32)))) s.heap H locs := hw
        obtain rfl := Option.some.inj h
        exact ret _ _ _ _ dX7_closeRing_70 hw
set_option maxHeartbeats 4000000 in
set_option maxRecDepth 100000 in
theorem wX7_closeRing {p : Program} {l : Launch} {e : Env} {R : Room} {s : State} {m : MethodId} {args : Array Value} {below : List Frame} {meth : Method} {c : Code} {cells slots : Nat} {Q : State → Prop} {D : va_G} {A : Nat → Prop} {cI cZ cG : ClassId} {q q_gets q_pointsTo q_isLeft q2 q2_kindOf q2_plotOf q2_row q2_standsOn : Nat} {v_rings : Int32} {v_pointsTo : (Nat → Int32)} {w2_houses : Int32} {w2_front : Int32} {w2_downFor : Int32} {w2_plotOf : (Nat → Int32)} {v_gets : (Nat → Int32)} {v_isLeft : (Nat → Int32)} {a1 : Int32} {N : Nat} {ρ : Int32 × (Nat → Int32) × (Nat → Int32)} (X : CX p s m args c cX7_closeRing 6 RX7 D (TY cI cZ cG) A) (hrm : RM R 0 0 cells slots) (ret : ∀ (pc : Nat) (H : Heap) (locs : List Loc) (ls : Array Slot), decode cX7_closeRing pc = .ok (.return_, 1) → WD D A (kwX7_closeRing cI cZ cG q q_gets q_pointsTo q_isLeft q2 q2_kindOf q2_plotOf q2_row q2_standsOn (ρ.1) v_pointsTo w2_houses w2_front w2_downFor w2_plotOf (ρ.2.1) (ρ.2.2)) s.heap H locs → W p l e R s m args below meth c H locs cells slots Q (F0 m pc ls [])) (h : fX7_closeRing N v_pointsTo w2_plotOf a1 v_rings v_gets v_isLeft  = some ρ) (H : Heap) (locs : List Loc) (ls : Array Slot) (hw : WD D A (kwX7_closeRing cI cZ cG q q_gets q_pointsTo q_isLeft q2 q2_kindOf q2_plotOf q2_row q2_standsOn v_rings v_pointsTo w2_houses w2_front w2_downFor w2_plotOf v_gets v_isLeft) s.heap H locs) (hl : lv_has ls 6 [(0, .ref q), (1, .int a1), (2, .ref q2)]) : W p l e R s m args below meth c H locs cells slots Q (F0 m 0 ls []) := by
  have hx := X.1.1
  have hb := X.1.2.1
  unfold fX7_closeRing at h
  refine lv_iconst (v := (0 : Int32)) hx hb dX7_closeRing_0 (by decide) ?_
  refine lv_istore_n (lv' := [(3, .int (0 : Int32)), (0, .ref q), (1, .int a1), (2, .ref q2)]) hx hb dX7_closeRing_1 rfl hl (by decide) rfl (fun ls hl => ?_)
  refine lv_iload_n hx hb dX7_closeRing_2 rfl (lv_at hl 2 rfl) ?_
  refine lv_istore (lv' := [(4, .int a1), (3, .int (0 : Int32)), (0, .ref q), (1, .int a1), (2, .ref q2)]) hx hb dX7_closeRing_3 hl (by decide) rfl (fun ls hl => ?_)
  exact wX7_closeRing_5 X hrm ret  _ _ h _ _ _ hw (lv_sub hl [2, 3, 4, 1, 0] rfl)
set_option maxHeartbeats 4000000 in
set_option maxRecDepth 100000 in
theorem cX7_closeRing_ct (l : Launch) (D : va_G) (cI cZ cG : ClassId) (q q_gets q_pointsTo q_isLeft q2 q2_kindOf q2_plotOf q2_row q2_standsOn : Nat)  (v_rings : Int32) (v_pointsTo : (Nat → Int32)) (w2_houses : Int32) (w2_front : Int32) (w2_downFor : Int32) (w2_plotOf : (Nat → Int32)) (v_gets : (Nat → Int32)) (v_isLeft : (Nat → Int32)) (a1 : Int32) (N : Nat) (ρ : Int32 × (Nat → Int32) × (Nat → Int32)) (h : fX7_closeRing N v_pointsTo w2_plotOf a1 v_rings v_gets v_isLeft  = some ρ) (sz : Nat) : Met l yX7_closeRing (wz yX7_closeRing cX7_closeRing 6 none) (cRm 0 0) (cPre D (TY cI cZ cG) [.ref q, .int a1, .ref q2] (kwX7_closeRing cI cZ cG q q_gets q_pointsTo q_isLeft q2 q2_kindOf q2_plotOf q2_row q2_standsOn v_rings v_pointsTo w2_houses w2_front w2_downFor w2_plotOf v_gets v_isLeft) sz) (cQv D (kwX7_closeRing cI cZ cG q q_gets q_pointsTo q_isLeft q2 q2_kindOf q2_plotOf q2_row q2_standsOn v_rings v_pointsTo w2_houses w2_front w2_downFor w2_plotOf v_gets v_isLeft) (kwX7_closeRing cI cZ cG q q_gets q_pointsTo q_isLeft q2 q2_kindOf q2_plotOf q2_row q2_standsOn (ρ.1) v_pointsTo w2_houses w2_front w2_downFor w2_plotOf (ρ.2.1) (ρ.2.2)) sz) 0 0 (va_A (kwX7_closeRing cI cZ cG q q_gets q_pointsTo q_isLeft q2 q2_kindOf q2_plotOf q2_row q2_standsOn v_rings v_pointsTo w2_houses w2_front w2_downFor w2_plotOf v_gets v_isLeft) sz) :=
  mk_v (by decide) (Nat.le_of_ble_eq_true rfl) (fun X hrm ret hw hl => wX7_closeRing X hrm ret h _ _ _ hw hl)
theorem dX7_close_0 : decode cX7_close 0 = .ok (.aload_n 0, 1) := by decide +kernel
theorem dX7_close_1 : decode cX7_close 1 = .ok (.iconst 0, 1) := by decide +kernel
theorem dX7_close_2 : decode cX7_close 2 = .ok (.putfield 22, 3) := by decide +kernel
theorem dX7_close_5 : decode cX7_close 5 = .ok (.iconst 0, 1) := by decide +kernel
theorem dX7_close_6 : decode cX7_close 6 = .ok (.istore_n 3, 1) := by decide +kernel
theorem dX7_close_7 : decode cX7_close 7 = .ok (.iload_n 3, 1) := by decide +kernel
theorem dX7_close_8 : decode cX7_close 8 = .ok (.aload_n 1, 1) := by decide +kernel
theorem dX7_close_9 : decode cX7_close 9 = .ok (.getfield 26, 3) := by decide +kernel
theorem dX7_close_12 : decode cX7_close 12 = .ok (.if_icmp .ge 35, 3) := by decide +kernel
theorem dX7_close_15 : decode cX7_close 15 = .ok (.aload_n 0, 1) := by decide +kernel
theorem dX7_close_16 : decode cX7_close 16 = .ok (.getfield 9, 3) := by decide +kernel
theorem dX7_close_19 : decode cX7_close 19 = .ok (.iload_n 3, 1) := by decide +kernel
theorem dX7_close_20 : decode cX7_close 20 = .ok (.iconst (-1), 1) := by decide +kernel
theorem dX7_close_21 : decode cX7_close 21 = .ok (.iastore, 1) := by decide +kernel
theorem dX7_close_22 : decode cX7_close 22 = .ok (.aload_n 0, 1) := by decide +kernel
theorem dX7_close_23 : decode cX7_close 23 = .ok (.getfield 18, 3) := by decide +kernel
theorem dX7_close_26 : decode cX7_close 26 = .ok (.iload_n 3, 1) := by decide +kernel
theorem dX7_close_27 : decode cX7_close 27 = .ok (.aload_n 1, 1) := by decide +kernel
theorem dX7_close_28 : decode cX7_close 28 = .ok (.iload_n 3, 1) := by decide +kernel
theorem dX7_close_29 : decode cX7_close 29 = .ok (.invokevirtual 31, 3) := by decide +kernel
theorem dX7_close_32 : decode cX7_close 32 = .ok (.ifCond .ne 7, 3) := by decide +kernel
theorem dX7_close_35 : decode cX7_close 35 = .ok (.iconst 1, 1) := by decide +kernel
theorem dX7_close_36 : decode cX7_close 36 = .ok (.goto 4, 3) := by decide +kernel
theorem dX7_close_39 : decode cX7_close 39 = .ok (.iconst 0, 1) := by decide +kernel
theorem dX7_close_40 : decode cX7_close 40 = .ok (.bastore, 1) := by decide +kernel
theorem dX7_close_41 : decode cX7_close 41 = .ok (.iinc 3 1, 3) := by decide +kernel
theorem dX7_close_44 : decode cX7_close 44 = .ok (.goto (-37), 3) := by decide +kernel
theorem dX7_close_47 : decode cX7_close 47 = .ok (.iconst 0, 1) := by decide +kernel
theorem dX7_close_48 : decode cX7_close 48 = .ok (.istore_n 3, 1) := by decide +kernel
theorem dX7_close_49 : decode cX7_close 49 = .ok (.iload_n 3, 1) := by decide +kernel
theorem dX7_close_50 : decode cX7_close 50 = .ok (.aload_n 1, 1) := by decide +kernel
theorem dX7_close_51 : decode cX7_close 51 = .ok (.getfield 26, 3) := by decide +kernel
theorem dX7_close_54 : decode cX7_close 54 = .ok (.if_icmp .ge 47, 3) := by decide +kernel
theorem dX7_close_57 : decode cX7_close 57 = .ok (.aload_n 0, 1) := by decide +kernel
theorem dX7_close_58 : decode cX7_close 58 = .ok (.aload_n 1, 1) := by decide +kernel
theorem dX7_close_59 : decode cX7_close 59 = .ok (.getfield 26, 3) := by decide +kernel
theorem dX7_close_62 : decode cX7_close 62 = .ok (.invokevirtual 35, 3) := by decide +kernel
theorem dX7_close_65 : decode cX7_close 65 = .ok (.istore 4, 2) := by decide +kernel
theorem dX7_close_67 : decode cX7_close 67 = .ok (.iload 4, 2) := by decide +kernel
theorem dX7_close_69 : decode cX7_close 69 = .ok (.iconst (-1), 1) := by decide +kernel
theorem dX7_close_70 : decode cX7_close 70 = .ok (.if_icmp .ne 4, 3) := by decide +kernel
theorem dX7_close_73 : decode cX7_close 73 = .ok (.return_, 1) := by decide +kernel
theorem dX7_close_74 : decode cX7_close 74 = .ok (.aload_n 0, 1) := by decide +kernel
theorem dX7_close_75 : decode cX7_close 75 = .ok (.aload_n 1, 1) := by decide +kernel
theorem dX7_close_76 : decode cX7_close 76 = .ok (.aload_n 2, 1) := by decide +kernel
theorem dX7_close_77 : decode cX7_close 77 = .ok (.invokevirtual 39, 3) := by decide +kernel
theorem dX7_close_80 : decode cX7_close 80 = .ok (.aload_n 0, 1) := by decide +kernel
theorem dX7_close_81 : decode cX7_close 81 = .ok (.aload_n 0, 1) := by decide +kernel
theorem dX7_close_82 : decode cX7_close 82 = .ok (.iload 4, 2) := by decide +kernel
theorem dX7_close_84 : decode cX7_close 84 = .ok (.aload_n 1, 1) := by decide +kernel
theorem dX7_close_85 : decode cX7_close 85 = .ok (.getfield 26, 3) := by decide +kernel
theorem dX7_close_88 : decode cX7_close 88 = .ok (.invokevirtual 43, 3) := by decide +kernel
theorem dX7_close_91 : decode cX7_close 91 = .ok (.aload_n 1, 1) := by decide +kernel
theorem dX7_close_92 : decode cX7_close 92 = .ok (.invokevirtual 47, 3) := by decide +kernel
theorem dX7_close_95 : decode cX7_close 95 = .ok (.iinc 3 1, 3) := by decide +kernel
theorem dX7_close_98 : decode cX7_close 98 = .ok (.goto (-49), 3) := by decide +kernel
theorem dX7_close_101 : decode cX7_close 101 = .ok (.return_, 1) := by decide +kernel
abbrev kwX7_close (cI cZ cG : ClassId) (q q_gets q_pointsTo q_isLeft q1 q1_kindOf q1_plotOf q1_row q1_standsOn q2 q2_worth q2_liked : Nat) (v_rings : Int32) (w1_houses : Int32) (w1_front : Int32) (w1_downFor : Int32) (v_gets : (Nat → Int32)) (w1_plotOf : (Nat → Int32)) (v_isLeft : (Nat → Int32)) (w2_houses : Int32) (w2_liked : (Nat → Int32)) (w1_standsOn : (Nat → Int32)) (v_pointsTo : (Nat → Int32)) : va_W := [(q, .inr (7, [.ref q_gets, .ref q_pointsTo, .ref q_isLeft, .int v_rings])), (q1, .inr (6, [.ref q1_kindOf, .ref q1_plotOf, .ref q1_row, .ref q1_standsOn, .int w1_houses, .int w1_front, .int w1_downFor])), (q_gets, .inl (cI, 6, .inl v_gets)), (q1_plotOf, .inl (cI, 6, .inl w1_plotOf)), (q_isLeft, .inl (cZ, 6, .inl v_isLeft)), (q2, .inr (0, [.ref q2_worth, .ref q2_liked, .int w2_houses])), (q2_liked, .inl (cI, 6, .inl w2_liked)), (q1_standsOn, .inl (cI, 12, .inl w1_standsOn)), (q_pointsTo, .inl (cI, 6, .inl v_pointsTo))]
noncomputable def fX7_close_49 (N : Nat) (w1_houses : Int32) (w1_plotOf : (Nat → Int32)) (w2_liked : (Nat → Int32)) (w1_standsOn : (Nat → Int32))  (K_49 : Int32 → Int32 → (Nat → Int32) → (Nat → Int32) → (Nat → Int32) → Option (Int32 × (Nat → Int32) × (Nat → Int32) × (Nat → Int32))) (l3 : Int32) (v_rings : Int32) (v_gets : (Nat → Int32)) (v_isLeft : (Nat → Int32)) (v_pointsTo : (Nat → Int32)) : Option (Int32 × (Nat → Int32) × (Nat → Int32) × (Nat → Int32)) := if w1_houses ≤ l3 then (some (v_rings, v_gets, v_isLeft, v_pointsTo)) else ((fX7_firstLeft N v_isLeft w1_houses).bind (fun x_62 => if x_62 = (-1 : Int32) then (some (v_rings, v_gets, v_isLeft, v_pointsTo)) else ((fX7_pointAll N w1_houses v_isLeft w2_liked w1_standsOn v_pointsTo).bind (fun x_77 => (fX7_onRing N x_77 x_62 w1_houses).bind (fun x_88 => (fX7_closeRing N x_77 w1_plotOf x_88 v_rings v_gets v_isLeft).bind (fun x_92 => K_49 (l3 + (1 : Int32)) x_92.1 x_92.2.1 x_92.2.2 x_77))))))
noncomputable def fX7_close_7 (N : Nat) (w1_houses : Int32) (w1_plotOf : (Nat → Int32)) (w2_liked : (Nat → Int32)) (w1_standsOn : (Nat → Int32))  (K_7 : Int32 → Int32 → (Nat → Int32) → (Nat → Int32) → (Nat → Int32) → Option (Int32 × (Nat → Int32) × (Nat → Int32) × (Nat → Int32))) (l3 : Int32) (v_rings : Int32) (v_gets : (Nat → Int32)) (v_isLeft : (Nat → Int32)) (v_pointsTo : (Nat → Int32)) : Option (Int32 × (Nat → Int32) × (Nat → Int32) × (Nat → Int32)) := if w1_houses ≤ l3 then (lfix (fun (K : Int32 × Int32 × (Nat → Int32) × (Nat → Int32) × (Nat → Int32) → Option (Int32 × (Nat → Int32) × (Nat → Int32) × (Nat → Int32))) (a : Int32 × Int32 × (Nat → Int32) × (Nat → Int32) × (Nat → Int32)) => fX7_close_49 N w1_houses w1_plotOf w2_liked w1_standsOn (fun (l3 : Int32) (v_rings : Int32) (v_gets : (Nat → Int32)) (v_isLeft : (Nat → Int32)) (v_pointsTo : (Nat → Int32)) => K (l3, v_rings, v_gets, v_isLeft, v_pointsTo)) a.1 a.2.1 a.2.2.1 a.2.2.2.1 a.2.2.2.2) N ((0 : Int32), v_rings, v_gets, v_isLeft, v_pointsTo)) else (if l3 < 0 ∨ 6 ≤ (l3).toNatClampNeg then none else ((fX6_isDown N w1_plotOf l3).bind (fun x_29 => if x_29 = 0 then (if l3 < 0 ∨ 6 ≤ (l3).toNatClampNeg then none else (K_7 (l3 + (1 : Int32)) v_rings (upd v_gets (l3).toNatClampNeg (-1 : Int32)) (upd v_isLeft (l3).toNatClampNeg (vp_nar .boolean (1 : Int32))) v_pointsTo)) else (if l3 < 0 ∨ 6 ≤ (l3).toNatClampNeg then none else (K_7 (l3 + (1 : Int32)) v_rings (upd v_gets (l3).toNatClampNeg (-1 : Int32)) (upd v_isLeft (l3).toNatClampNeg (vp_nar .boolean (0 : Int32))) v_pointsTo)))))
noncomputable def fX7_close (N : Nat) (w1_houses : Int32) (w1_plotOf : (Nat → Int32)) (w2_liked : (Nat → Int32)) (w1_standsOn : (Nat → Int32)) (v_rings : Int32) (v_gets : (Nat → Int32)) (v_isLeft : (Nat → Int32)) (v_pointsTo : (Nat → Int32))  : Option (Int32 × (Nat → Int32) × (Nat → Int32) × (Nat → Int32)) := lfix (fun (K : Int32 × Int32 × (Nat → Int32) × (Nat → Int32) × (Nat → Int32) → Option (Int32 × (Nat → Int32) × (Nat → Int32) × (Nat → Int32))) (a : Int32 × Int32 × (Nat → Int32) × (Nat → Int32) × (Nat → Int32)) => fX7_close_7 N w1_houses w1_plotOf w2_liked w1_standsOn (fun (l3 : Int32) (v_rings : Int32) (v_gets : (Nat → Int32)) (v_isLeft : (Nat → Int32)) (v_pointsTo : (Nat → Int32)) => K (l3, v_rings, v_gets, v_isLeft, v_pointsTo)) a.1 a.2.1 a.2.2.1 a.2.2.2.1 a.2.2.2.2) N ((0 : Int32), (0 : Int32), v_gets, v_isLeft, v_pointsTo)
set_option maxHeartbeats 4000000 in
set_option maxRecDepth 100000 in
theorem wX7_close_49 {p : Program} {l : Launch} {e : Env} {R : Room} {s : State} {m : MethodId} {args : Array Value} {below : List Frame} {meth : Method} {c : Code} {cells slots : Nat} {Q : State → Prop} {D : va_G} {A : Nat → Prop} {cI cZ cG : ClassId} {q q_gets q_pointsTo q_isLeft q1 q1_kindOf q1_plotOf q1_row q1_standsOn q2 q2_worth q2_liked : Nat} {w1_houses : Int32} {w1_front : Int32} {w1_downFor : Int32} {w1_plotOf : (Nat → Int32)} {w2_houses : Int32} {w2_liked : (Nat → Int32)} {w1_standsOn : (Nat → Int32)} {N : Nat} {ρ : Int32 × (Nat → Int32) × (Nat → Int32) × (Nat → Int32)} (X : CX p s m args c cX7_close 5 RX7 D (TY cI cZ cG) A) (hrm : RM R 4 93 cells slots) (ret : ∀ (pc : Nat) (H : Heap) (locs : List Loc) (ls : Array Slot), decode cX7_close pc = .ok (.return_, 1) → WD D A (kwX7_close cI cZ cG q q_gets q_pointsTo q_isLeft q1 q1_kindOf q1_plotOf q1_row q1_standsOn q2 q2_worth q2_liked (ρ.1) w1_houses w1_front w1_downFor (ρ.2.1) w1_plotOf (ρ.2.2.1) w2_houses w2_liked w1_standsOn (ρ.2.2.2)) s.heap H locs → W p l e R s m args below meth c H locs cells slots Q (F0 m pc ls []))  : ∀ (n : Nat) (a : Int32 × Int32 × (Nat → Int32) × (Nat → Int32) × (Nat → Int32)), lfix (fun (K : Int32 × Int32 × (Nat → Int32) × (Nat → Int32) × (Nat → Int32) → Option (Int32 × (Nat → Int32) × (Nat → Int32) × (Nat → Int32))) (a : Int32 × Int32 × (Nat → Int32) × (Nat → Int32) × (Nat → Int32)) => fX7_close_49 N w1_houses w1_plotOf w2_liked w1_standsOn (fun (l3 : Int32) (v_rings : Int32) (v_gets : (Nat → Int32)) (v_isLeft : (Nat → Int32)) (v_pointsTo : (Nat → Int32)) => K (l3, v_rings, v_gets, v_isLeft, v_pointsTo)) a.1 a.2.1 a.2.2.1 a.2.2.2.1 a.2.2.2.2) n a = some ρ → (fun (l3 : Int32) (v_rings : Int32) (v_gets : (Nat → Int32)) (v_isLeft : (Nat → Int32)) (v_pointsTo : (Nat → Int32)) => ∀ (H : Heap) (locs : List Loc) (ls : Array Slot), WD D A (kwX7_close cI cZ cG q q_gets q_pointsTo q_isLeft q1 q1_kindOf q1_plotOf q1_row q1_standsOn q2 q2_worth q2_liked v_rings w1_houses w1_front w1_downFor v_gets w1_plotOf v_isLeft w2_houses w2_liked w1_standsOn v_pointsTo) s.heap H locs → lv_has ls 5 [(0, .ref q), (1, .ref q1), (2, .ref q2), (3, .int l3)] → W p l e R s m args below meth c H locs cells slots Q (F0 m 49 ls [])) (a.1) (a.2.1) (a.2.2.1) (a.2.2.2.1) (a.2.2.2.2) := by
  have hx := X.1.1
  have hb := X.1.2.1
  refine lfix_W (fun K hK a h => ?_)
  obtain ⟨l3, v_rings, v_gets, v_isLeft, v_pointsTo⟩ := a
  intro H locs ls hw hl
  have h : fX7_close_49 N w1_houses w1_plotOf w2_liked w1_standsOn (fun (l3 : Int32) (v_rings : Int32) (v_gets : (Nat → Int32)) (v_isLeft : (Nat → Int32)) (v_pointsTo : (Nat → Int32)) => K (l3, v_rings, v_gets, v_isLeft, v_pointsTo)) l3 v_rings v_gets v_isLeft v_pointsTo = some ρ := h
  have hK_49 : ∀ (l3 : Int32) (v_rings : Int32) (v_gets : (Nat → Int32)) (v_isLeft : (Nat → Int32)) (v_pointsTo : (Nat → Int32)), (fun (l3 : Int32) (v_rings : Int32) (v_gets : (Nat → Int32)) (v_isLeft : (Nat → Int32)) (v_pointsTo : (Nat → Int32)) => K (l3, v_rings, v_gets, v_isLeft, v_pointsTo)) l3 v_rings v_gets v_isLeft v_pointsTo = some ρ → ∀ (H : Heap) (locs : List Loc) (ls : Array Slot), WD D A (kwX7_close cI cZ cG q q_gets q_pointsTo q_isLeft q1 q1_kindOf q1_plotOf q1_row q1_standsOn q2 q2_worth q2_liked v_rings w1_houses w1_front w1_downFor v_gets w1_plotOf v_isLeft w2_houses w2_liked w1_standsOn v_pointsTo) s.heap H locs → lv_has ls 5 [(0, .ref q), (1, .ref q1), (2, .ref q2), (3, .int l3)] → W p l e R s m args below meth c H locs cells slots Q (F0 m 49 ls []) := fun l3 v_rings v_gets v_isLeft v_pointsTo h => hK (l3, v_rings, v_gets, v_isLeft, v_pointsTo) h
  generalize (fun (l3 : Int32) (v_rings : Int32) (v_gets : (Nat → Int32)) (v_isLeft : (Nat → Int32)) (v_pointsTo : (Nat → Int32)) => K (l3, v_rings, v_gets, v_isLeft, v_pointsTo)) = K_49 at h hK_49
  have hw : WD D A (kwX7_close cI cZ cG q q_gets q_pointsTo q_isLeft q1 q1_kindOf q1_plotOf q1_row q1_standsOn q2 q2_worth q2_liked v_rings w1_houses w1_front w1_downFor v_gets w1_plotOf v_isLeft w2_houses w2_liked w1_standsOn v_pointsTo) s.heap H locs := hw
  have hl : lv_has ls 5 [(0, .ref q), (1, .ref q1), (2, .ref q2), (3, .int l3)] := hl
  unfold fX7_close_49 at h
  refine lv_iload_n hx hb dX7_close_49 rfl (lv_at hl 3 rfl) ?_
  refine lv_aload_n hx hb dX7_close_50 rfl (lv_at hl 1 rfl) ?_
  refine kget (ci := 6) (v := .int w1_houses) X hw iX6 1 rfl rfl 4 (by decide) tw_381 rfl dX7_close_51 ?_
  refine lv_icmp_ge (tgt := 101) hx hb dX7_close_54 (by decide) (fun c_54 => ?_) (fun c_54 => ?_)
  · have h := ift c_54 h
    obtain rfl := Option.some.inj h
    exact ret _ _ _ _ dX7_close_101 hw
  · have h := iff_ c_54 h
    refine lv_aload_n hx hb dX7_close_57 rfl (lv_at hl 0 rfl) ?_
    refine lv_aload_n hx hb dX7_close_58 rfl (lv_at hl 1 rfl) ?_
    refine kget (ci := 6) (v := .int w1_houses) X hw iX6 1 rfl rfl 4 (by decide) tw_381 rfl dX7_close_59 ?_
    obtain ⟨x_62, hc_62, h⟩ := obd h
    refine ksV_i (ws2 := (kwX7_close cI cZ cG q q_gets q_pointsTo q_isLeft q1 q1_kindOf q1_plotOf q1_row q1_standsOn q2 q2_worth q2_liked v_rings w1_houses w1_front w1_downFor v_gets w1_plotOf v_isLeft w2_houses w2_liked w1_standsOn v_pointsTo)) (nW := 9) (ci := 7) (As := [.int w1_houses]) (rest := []) X hw rfl rfl rfl (cX7_firstLeft_ct l D cI cZ cG q q_gets q_pointsTo q_isLeft v_rings v_isLeft w1_houses N x_62 hc_62 H.size) mX7_firstLeft tw_397 (hrm.call (by decide) (by decide)) [0, 4] rfl (by decide) rfl (by decide) rfl ⟨rfl, ⟨rfl, ⟨rfl, ⟨rfl, ⟨rfl, ⟨rfl, ⟨rfl, trivial⟩⟩⟩⟩⟩⟩⟩ rfl hl.1 rfl (Nat.le_of_ble_eq_true rfl) dX7_close_62 ⟨hrm.2.2.1, hrm.2.2.2⟩ (fun H locs hw => ?_)
    refine lv_istore (lv' := [(4, .int x_62), (0, .ref q), (1, .ref q1), (2, .ref q2), (3, .int l3)]) hx hb dX7_close_65 hl (by decide) rfl (fun ls hl => ?_)
    refine lv_iload hx hb dX7_close_67 (lv_at hl 0 rfl) ?_
    refine lv_iconst (v := (-1 : Int32)) hx hb dX7_close_69 (by decide) ?_
    refine lv_icmp_ne (tgt := 74) hx hb dX7_close_70 (by decide) (fun c_70 => ?_) (fun c_70 => ?_)
    · have h := iff_ c_70 h
      refine lv_aload_n hx hb dX7_close_74 rfl (lv_at hl 1 rfl) ?_
      refine lv_aload_n hx hb dX7_close_75 rfl (lv_at hl 2 rfl) ?_
      refine lv_aload_n hx hb dX7_close_76 rfl (lv_at hl 3 rfl) ?_
      obtain ⟨x_77, hc_77, h⟩ := obd h
      refine ksV_v (ws2 := (kwX7_close cI cZ cG q q_gets q_pointsTo q_isLeft q1 q1_kindOf q1_plotOf q1_row q1_standsOn q2 q2_worth q2_liked v_rings w1_houses w1_front w1_downFor v_gets w1_plotOf v_isLeft w2_houses w2_liked w1_standsOn x_77)) (nW := 9) (ci := 7) (As := [.ref q1, .ref q2]) (rest := []) X hw rfl rfl rfl (cX7_pointAll_ct l D cI cZ cG q q_gets q_pointsTo q_isLeft q1 q1_kindOf q1_plotOf q1_row q1_standsOn q2 q2_worth q2_liked v_rings w1_houses w1_front w1_downFor v_isLeft w2_houses w2_liked w1_standsOn v_pointsTo N x_77 hc_77 H.size) mX7_pointAll tw_398 (hrm.call (by decide) (by decide)) [0, 1, 4, 5, 6, 7, 8] rfl (by decide) rfl (by decide) rfl ⟨rfl, ⟨rfl, trivial⟩⟩ rfl hl.1 rfl (Nat.le_of_ble_eq_true rfl) dX7_close_77 ⟨hrm.2.2.1, hrm.2.2.2⟩ (fun H locs hw => ?_)
      refine lv_aload_n hx hb dX7_close_80 rfl (lv_at hl 1 rfl) ?_
      refine lv_aload_n hx hb dX7_close_81 rfl (lv_at hl 1 rfl) ?_
      refine lv_iload hx hb dX7_close_82 (lv_at hl 0 rfl) ?_
      refine lv_aload_n hx hb dX7_close_84 rfl (lv_at hl 2 rfl) ?_
      refine kget (ci := 6) (v := .int w1_houses) X hw iX6 1 rfl rfl 4 (by decide) tw_381 rfl dX7_close_85 ?_
      obtain ⟨x_88, hc_88, h⟩ := obd h
      refine ksV_i (ws2 := (kwX7_close cI cZ cG q q_gets q_pointsTo q_isLeft q1 q1_kindOf q1_plotOf q1_row q1_standsOn q2 q2_worth q2_liked v_rings w1_houses w1_front w1_downFor v_gets w1_plotOf v_isLeft w2_houses w2_liked w1_standsOn x_77)) (nW := 9) (ci := 7) (As := [.int x_62, .int w1_houses]) (rest := [.ref q]) X hw rfl rfl rfl (cX7_onRing_ct l D cI cZ cG q q_gets q_pointsTo q_isLeft v_rings x_77 x_62 w1_houses N x_88 hc_88 H.size) mX7_onRing tw_399 (hrm.call (by decide) (by decide)) [0, 8] rfl (by decide) rfl (by decide) rfl ⟨rfl, ⟨rfl, ⟨rfl, ⟨rfl, ⟨rfl, ⟨rfl, ⟨rfl, trivial⟩⟩⟩⟩⟩⟩⟩ rfl hl.1 rfl (Nat.le_of_ble_eq_true rfl) dX7_close_88 ⟨hrm.2.2.1, hrm.2.2.2⟩ (fun H locs hw => ?_)
      refine lv_aload_n hx hb dX7_close_91 rfl (lv_at hl 2 rfl) ?_
      obtain ⟨x_92, hc_92, h⟩ := obd h
      refine ksV_v (ws2 := (kwX7_close cI cZ cG q q_gets q_pointsTo q_isLeft q1 q1_kindOf q1_plotOf q1_row q1_standsOn q2 q2_worth q2_liked x_92.1 w1_houses w1_front w1_downFor x_92.2.1 w1_plotOf x_92.2.2 w2_houses w2_liked w1_standsOn x_77)) (nW := 9) (ci := 7) (As := [.int x_88, .ref q1]) (rest := []) X hw rfl rfl rfl (cX7_closeRing_ct l D cI cZ cG q q_gets q_pointsTo q_isLeft q1 q1_kindOf q1_plotOf q1_row q1_standsOn v_rings x_77 w1_houses w1_front w1_downFor w1_plotOf v_gets v_isLeft x_88 N x_92 hc_92 H.size) mX7_closeRing tw_400 (hrm.call (by decide) (by decide)) [0, 8, 1, 3, 2, 4] rfl (by decide) rfl (by decide) rfl ⟨rfl, ⟨rfl, ⟨rfl, trivial⟩⟩⟩ rfl hl.1 rfl (Nat.le_of_ble_eq_true rfl) dX7_close_92 ⟨hrm.2.2.1, hrm.2.2.2⟩ (fun H locs hw => ?_)
      refine lv_iinc (v := (l3 + (1 : Int32))) (lv' := [(3, .int (l3 + (1 : Int32))), (4, .int x_62), (0, .ref q), (1, .ref q1), (2, .ref q2)]) hx hb dX7_close_95 hl (k := 4) rfl (congrArg (l3 + ·) (by decide)) (by decide) rfl (fun ls hl => ?_)
      refine lv_goto (tgt := 49) hx hb dX7_close_98 (by decide) ?_
      exact hK_49 _ _ _ _ _ h _ _ _ hw (lv_sub hl [2, 3, 4, 0] rfl)
    · have h := ift c_70 h
      obtain rfl := Option.some.inj h
      exact ret _ _ _ _ dX7_close_73 hw
set_option maxHeartbeats 4000000 in
set_option maxRecDepth 100000 in
theorem wX7_close_7 {p : Program} {l : Launch} {e : Env} {R : Room} {s : State} {m : MethodId} {args : Array Value} {below : List Frame} {meth : Method} {c : Code} {cells slots : Nat} {Q : State → Prop} {D : va_G} {A : Nat → Prop} {cI cZ cG : ClassId} {q q_gets q_pointsTo q_isLeft q1 q1_kindOf q1_plotOf q1_row q1_standsOn q2 q2_worth q2_liked : Nat} {w1_houses : Int32} {w1_front : Int32} {w1_downFor : Int32} {w1_plotOf : (Nat → Int32)} {w2_houses : Int32} {w2_liked : (Nat → Int32)} {w1_standsOn : (Nat → Int32)} {N : Nat} {ρ : Int32 × (Nat → Int32) × (Nat → Int32) × (Nat → Int32)} (X : CX p s m args c cX7_close 5 RX7 D (TY cI cZ cG) A) (hrm : RM R 4 93 cells slots) (ret : ∀ (pc : Nat) (H : Heap) (locs : List Loc) (ls : Array Slot), decode cX7_close pc = .ok (.return_, 1) → WD D A (kwX7_close cI cZ cG q q_gets q_pointsTo q_isLeft q1 q1_kindOf q1_plotOf q1_row q1_standsOn q2 q2_worth q2_liked (ρ.1) w1_houses w1_front w1_downFor (ρ.2.1) w1_plotOf (ρ.2.2.1) w2_houses w2_liked w1_standsOn (ρ.2.2.2)) s.heap H locs → W p l e R s m args below meth c H locs cells slots Q (F0 m pc ls []))  : ∀ (n : Nat) (a : Int32 × Int32 × (Nat → Int32) × (Nat → Int32) × (Nat → Int32)), lfix (fun (K : Int32 × Int32 × (Nat → Int32) × (Nat → Int32) × (Nat → Int32) → Option (Int32 × (Nat → Int32) × (Nat → Int32) × (Nat → Int32))) (a : Int32 × Int32 × (Nat → Int32) × (Nat → Int32) × (Nat → Int32)) => fX7_close_7 N w1_houses w1_plotOf w2_liked w1_standsOn (fun (l3 : Int32) (v_rings : Int32) (v_gets : (Nat → Int32)) (v_isLeft : (Nat → Int32)) (v_pointsTo : (Nat → Int32)) => K (l3, v_rings, v_gets, v_isLeft, v_pointsTo)) a.1 a.2.1 a.2.2.1 a.2.2.2.1 a.2.2.2.2) n a = some ρ → (fun (l3 : Int32) (v_rings : Int32) (v_gets : (Nat → Int32)) (v_isLeft : (Nat → Int32)) (v_pointsTo : (Nat → Int32)) => ∀ (H : Heap) (locs : List Loc) (ls : Array Slot), WD D A (kwX7_close cI cZ cG q q_gets q_pointsTo q_isLeft q1 q1_kindOf q1_plotOf q1_row q1_standsOn q2 q2_worth q2_liked v_rings w1_houses w1_front w1_downFor v_gets w1_plotOf v_isLeft w2_houses w2_liked w1_standsOn v_pointsTo) s.heap H locs → lv_has ls 5 [(0, .ref q), (1, .ref q1), (2, .ref q2), (3, .int l3)] → W p l e R s m args below meth c H locs cells slots Q (F0 m 7 ls [])) (a.1) (a.2.1) (a.2.2.1) (a.2.2.2.1) (a.2.2.2.2) := by
  have hx := X.1.1
  have hb := X.1.2.1
  refine lfix_W (fun K hK a h => ?_)
  obtain ⟨l3, v_rings, v_gets, v_isLeft, v_pointsTo⟩ := a
  intro H locs ls hw hl
  have h : fX7_close_7 N w1_houses w1_plotOf w2_liked w1_standsOn (fun (l3 : Int32) (v_rings : Int32) (v_gets : (Nat → Int32)) (v_isLeft : (Nat → Int32)) (v_pointsTo : (Nat → Int32)) => K (l3, v_rings, v_gets, v_isLeft, v_pointsTo)) l3 v_rings v_gets v_isLeft v_pointsTo = some ρ := h
  have hK_7 : ∀ (l3 : Int32) (v_rings : Int32) (v_gets : (Nat → Int32)) (v_isLeft : (Nat → Int32)) (v_pointsTo : (Nat → Int32)), (fun (l3 : Int32) (v_rings : Int32) (v_gets : (Nat → Int32)) (v_isLeft : (Nat → Int32)) (v_pointsTo : (Nat → Int32)) => K (l3, v_rings, v_gets, v_isLeft, v_pointsTo)) l3 v_rings v_gets v_isLeft v_pointsTo = some ρ → ∀ (H : Heap) (locs : List Loc) (ls : Array Slot), WD D A (kwX7_close cI cZ cG q q_gets q_pointsTo q_isLeft q1 q1_kindOf q1_plotOf q1_row q1_standsOn q2 q2_worth q2_liked v_rings w1_houses w1_front w1_downFor v_gets w1_plotOf v_isLeft w2_houses w2_liked w1_standsOn v_pointsTo) s.heap H locs → lv_has ls 5 [(0, .ref q), (1, .ref q1), (2, .ref q2), (3, .int l3)] → W p l e R s m args below meth c H locs cells slots Q (F0 m 7 ls []) := fun l3 v_rings v_gets v_isLeft v_pointsTo h => hK (l3, v_rings, v_gets, v_isLeft, v_pointsTo) h
  generalize (fun (l3 : Int32) (v_rings : Int32) (v_gets : (Nat → Int32)) (v_isLeft : (Nat → Int32)) (v_pointsTo : (Nat → Int32)) => K (l3, v_rings, v_gets, v_isLeft, v_pointsTo)) = K_7 at h hK_7
  have hw : WD D A (kwX7_close cI cZ cG q q_gets q_pointsTo q_isLeft q1 q1_kindOf q1_plotOf q1_row q1_standsOn q2 q2_worth q2_liked v_rings w1_houses w1_front w1_downFor v_gets w1_plotOf v_isLeft w2_houses w2_liked w1_standsOn v_pointsTo) s.heap H locs := hw
  have hl : lv_has ls 5 [(0, .ref q), (1, .ref q1), (2, .ref q2), (3, .int l3)] := hl
  unfold fX7_close_7 at h
  refine lv_iload_n hx hb dX7_close_7 rfl (lv_at hl 3 rfl) ?_
  refine lv_aload_n hx hb dX7_close_8 rfl (lv_at hl 1 rfl) ?_
  refine kget (ci := 6) (v := .int w1_houses) X hw iX6 1 rfl rfl 4 (by decide) tw_381 rfl dX7_close_9 ?_
  refine lv_icmp_ge (tgt := 47) hx hb dX7_close_12 (by decide) (fun c_12 => ?_) (fun c_12 => ?_)
  · have h := ift c_12 h
    refine lv_iconst (v := (0 : Int32)) hx hb dX7_close_47 (by decide) ?_
    refine lv_istore_n (lv' := [(3, .int (0 : Int32)), (0, .ref q), (1, .ref q1), (2, .ref q2)]) hx hb dX7_close_48 rfl hl (by decide) rfl (fun ls hl => ?_)
    exact wX7_close_49 X hrm ret  _ _ h _ _ _ hw (lv_sub hl [1, 2, 3, 0] rfl)
  · have h := iff_ c_12 h
    refine lv_aload_n hx hb dX7_close_15 rfl (lv_at hl 0 rfl) ?_
    refine kget (ci := 7) (v := .ref q_gets) X hw iX7 0 rfl rfl 0 (by decide) tw_391 rfl dX7_close_16 ?_
    refine lv_iload_n hx hb dX7_close_19 rfl (lv_at hl 3 rfl) ?_
    refine lv_iconst (v := (-1 : Int32)) hx hb dX7_close_20 (by decide) ?_
    obtain ⟨g_21, h⟩ := gd h
    refine kiast X hw 2 rfl rfl g_21 dX7_close_21 (fun H locs hw => ?_)
    have hw : WD D A (kwX7_close cI cZ cG q q_gets q_pointsTo q_isLeft q1 q1_kindOf q1_plotOf q1_row q1_standsOn q2 q2_worth q2_liked v_rings w1_houses w1_front w1_downFor (upd v_gets (l3).toNatClampNeg (-1 : Int32)) w1_plotOf v_isLeft w2_houses w2_liked w1_standsOn v_pointsTo) s.heap H locs := hw
    refine lv_aload_n hx hb dX7_close_22 rfl (lv_at hl 0 rfl) ?_
    refine kget (ci := 7) (v := .ref q_isLeft) X hw iX7 0 rfl rfl 2 (by decide) tw_372 rfl dX7_close_23 ?_
    refine lv_iload_n hx hb dX7_close_26 rfl (lv_at hl 3 rfl) ?_
    refine lv_aload_n hx hb dX7_close_27 rfl (lv_at hl 1 rfl) ?_
    refine lv_iload_n hx hb dX7_close_28 rfl (lv_at hl 3 rfl) ?_
    obtain ⟨x_29, hc_29, h⟩ := obd h
    refine ksV_i (ws2 := (kwX7_close cI cZ cG q q_gets q_pointsTo q_isLeft q1 q1_kindOf q1_plotOf q1_row q1_standsOn q2 q2_worth q2_liked v_rings w1_houses w1_front w1_downFor (upd v_gets (l3).toNatClampNeg (-1 : Int32)) w1_plotOf v_isLeft w2_houses w2_liked w1_standsOn v_pointsTo)) (nW := 9) (ci := 6) (As := [.int l3]) (rest := [.int l3, .ref q_isLeft]) X hw rfl rfl rfl (cX6_isDown_ct l D cI cZ cG q1 q1_kindOf q1_plotOf q1_row q1_standsOn w1_houses w1_front w1_downFor w1_plotOf l3 N x_29 hc_29 H.size) mX6_isDown tw_401 (hrm.call (by decide) (by decide)) [1, 3] rfl (by decide) rfl (by decide) rfl ⟨rfl, ⟨rfl, ⟨rfl, ⟨rfl, ⟨rfl, ⟨rfl, ⟨rfl, trivial⟩⟩⟩⟩⟩⟩⟩ rfl hl.1 rfl (Nat.le_of_ble_eq_true rfl) dX7_close_29 ⟨hrm.2.2.1, hrm.2.2.2⟩ (fun H locs hw => ?_)
    refine lv_if_ne (tgt := 39) hx hb dX7_close_32 (by decide) (fun c_32 => ?_) (fun c_32 => ?_)
    · have h := iff_ c_32 h
      refine lv_iconst (v := (0 : Int32)) hx hb dX7_close_39 (by decide) ?_
      obtain ⟨g_40, h⟩ := gd h
      refine kzast X hw 4 rfl rfl g_40 dX7_close_40 (fun H locs hw => ?_)
      have hw : WD D A (kwX7_close cI cZ cG q q_gets q_pointsTo q_isLeft q1 q1_kindOf q1_plotOf q1_row q1_standsOn q2 q2_worth q2_liked v_rings w1_houses w1_front w1_downFor (upd v_gets (l3).toNatClampNeg (-1 : Int32)) w1_plotOf (upd v_isLeft (l3).toNatClampNeg (vp_nar .boolean (0 : Int32))) w2_houses w2_liked w1_standsOn v_pointsTo) s.heap H locs := hw
      refine lv_iinc (v := (l3 + (1 : Int32))) (lv' := [(3, .int (l3 + (1 : Int32))), (0, .ref q), (1, .ref q1), (2, .ref q2)]) hx hb dX7_close_41 hl (k := 3) rfl (congrArg (l3 + ·) (by decide)) (by decide) rfl (fun ls hl => ?_)
      refine lv_goto (tgt := 7) hx hb dX7_close_44 (by decide) ?_
      exact hK_7 _ _ _ _ _ h _ _ _ hw (lv_sub hl [1, 2, 3, 0] rfl)
    · have h := ift c_32 h
      refine lv_iconst (v := (1 : Int32)) hx hb dX7_close_35 (by decide) ?_
      refine lv_goto (tgt := 40) hx hb dX7_close_36 (by decide) ?_
      obtain ⟨g_40, h⟩ := gd h
      refine kzast X hw 4 rfl rfl g_40 dX7_close_40 (fun H locs hw => ?_)
      have hw : WD D A (kwX7_close cI cZ cG q q_gets q_pointsTo q_isLeft q1 q1_kindOf q1_plotOf q1_row q1_standsOn q2 q2_worth q2_liked v_rings w1_houses w1_front w1_downFor (upd v_gets (l3).toNatClampNeg (-1 : Int32)) w1_plotOf (upd v_isLeft (l3).toNatClampNeg (vp_nar .boolean (1 : Int32))) w2_houses w2_liked w1_standsOn v_pointsTo) s.heap H locs := hw
      refine lv_iinc (v := (l3 + (1 : Int32))) (lv' := [(3, .int (l3 + (1 : Int32))), (0, .ref q), (1, .ref q1), (2, .ref q2)]) hx hb dX7_close_41 hl (k := 3) rfl (congrArg (l3 + ·) (by decide)) (by decide) rfl (fun ls hl => ?_)
      refine lv_goto (tgt := 7) hx hb dX7_close_44 (by decide) ?_
      exact hK_7 _ _ _ _ _ h _ _ _ hw (lv_sub hl [1, 2, 3, 0] rfl)
set_option maxHeartbeats 4000000 in
set_option maxRecDepth 100000 in
theorem wX7_close {p : Program} {l : Launch} {e : Env} {R : Room} {s : State} {m : MethodId} {args : Array Value} {below : List Frame} {meth : Method} {c : Code} {cells slots : Nat} {Q : State → Prop} {D : va_G} {A : Nat → Prop} {cI cZ cG : ClassId} {q q_gets q_pointsTo q_isLeft q1 q1_kindOf q1_plotOf q1_row q1_standsOn q2 q2_worth q2_liked : Nat} {v_rings : Int32} {w1_houses : Int32} {w1_front : Int32} {w1_downFor : Int32} {v_gets : (Nat → Int32)} {w1_plotOf : (Nat → Int32)} {v_isLeft : (Nat → Int32)} {w2_houses : Int32} {w2_liked : (Nat → Int32)} {w1_standsOn : (Nat → Int32)} {v_pointsTo : (Nat → Int32)} {N : Nat} {ρ : Int32 × (Nat → Int32) × (Nat → Int32) × (Nat → Int32)} (X : CX p s m args c cX7_close 5 RX7 D (TY cI cZ cG) A) (hrm : RM R 4 93 cells slots) (ret : ∀ (pc : Nat) (H : Heap) (locs : List Loc) (ls : Array Slot), decode cX7_close pc = .ok (.return_, 1) → WD D A (kwX7_close cI cZ cG q q_gets q_pointsTo q_isLeft q1 q1_kindOf q1_plotOf q1_row q1_standsOn q2 q2_worth q2_liked (ρ.1) w1_houses w1_front w1_downFor (ρ.2.1) w1_plotOf (ρ.2.2.1) w2_houses w2_liked w1_standsOn (ρ.2.2.2)) s.heap H locs → W p l e R s m args below meth c H locs cells slots Q (F0 m pc ls [])) (h : fX7_close N w1_houses w1_plotOf w2_liked w1_standsOn v_rings v_gets v_isLeft v_pointsTo  = some ρ) (H : Heap) (locs : List Loc) (ls : Array Slot) (hw : WD D A (kwX7_close cI cZ cG q q_gets q_pointsTo q_isLeft q1 q1_kindOf q1_plotOf q1_row q1_standsOn q2 q2_worth q2_liked v_rings w1_houses w1_front w1_downFor v_gets w1_plotOf v_isLeft w2_houses w2_liked w1_standsOn v_pointsTo) s.heap H locs) (hl : lv_has ls 5 [(0, .ref q), (1, .ref q1), (2, .ref q2)]) : W p l e R s m args below meth c H locs cells slots Q (F0 m 0 ls []) := by
  have hx := X.1.1
  have hb := X.1.2.1
  unfold fX7_close at h
  refine lv_aload_n hx hb dX7_close_0 rfl (lv_at hl 0 rfl) ?_
  refine lv_iconst (v := (0 : Int32)) hx hb dX7_close_1 (by decide) ?_
  refine kput (ci := 7) (v := .int (0 : Int32)) (ty := .int) X hw iX7 tyX7_ok nmX7 0 rfl rfl 3 (by decide) tw_393 rfl rfl rfl rfl (Nat.le_of_ble_eq_true rfl) dX7_close_2 (fun H locs hw => ?_)
  have hw : WD D A (kwX7_close cI cZ cG q q_gets q_pointsTo q_isLeft q1 q1_kindOf q1_plotOf q1_row q1_standsOn q2 q2_worth q2_liked (0 : Int32) w1_houses w1_front w1_downFor v_gets w1_plotOf v_isLeft w2_houses w2_liked w1_standsOn v_pointsTo) s.heap H locs := hw
  refine lv_iconst (v := (0 : Int32)) hx hb dX7_close_5 (by decide) ?_
  refine lv_istore_n (lv' := [(3, .int (0 : Int32)), (0, .ref q), (1, .ref q1), (2, .ref q2)]) hx hb dX7_close_6 rfl hl (by decide) rfl (fun ls hl => ?_)
  exact wX7_close_7 X hrm ret  _ _ h _ _ _ hw (lv_sub hl [1, 2, 3, 0] rfl)
set_option maxHeartbeats 4000000 in
set_option maxRecDepth 100000 in
theorem cX7_close_ct (l : Launch) (D : va_G) (cI cZ cG : ClassId) (q q_gets q_pointsTo q_isLeft q1 q1_kindOf q1_plotOf q1_row q1_standsOn q2 q2_worth q2_liked : Nat)  (v_rings : Int32) (w1_houses : Int32) (w1_front : Int32) (w1_downFor : Int32) (v_gets : (Nat → Int32)) (w1_plotOf : (Nat → Int32)) (v_isLeft : (Nat → Int32)) (w2_houses : Int32) (w2_liked : (Nat → Int32)) (w1_standsOn : (Nat → Int32)) (v_pointsTo : (Nat → Int32))  (N : Nat) (ρ : Int32 × (Nat → Int32) × (Nat → Int32) × (Nat → Int32)) (h : fX7_close N w1_houses w1_plotOf w2_liked w1_standsOn v_rings v_gets v_isLeft v_pointsTo  = some ρ) (sz : Nat) : Met l yX7_close (wz yX7_close cX7_close 5 none) (cRm 4 93) (cPre D (TY cI cZ cG) [.ref q, .ref q1, .ref q2] (kwX7_close cI cZ cG q q_gets q_pointsTo q_isLeft q1 q1_kindOf q1_plotOf q1_row q1_standsOn q2 q2_worth q2_liked v_rings w1_houses w1_front w1_downFor v_gets w1_plotOf v_isLeft w2_houses w2_liked w1_standsOn v_pointsTo) sz) (cQv D (kwX7_close cI cZ cG q q_gets q_pointsTo q_isLeft q1 q1_kindOf q1_plotOf q1_row q1_standsOn q2 q2_worth q2_liked v_rings w1_houses w1_front w1_downFor v_gets w1_plotOf v_isLeft w2_houses w2_liked w1_standsOn v_pointsTo) (kwX7_close cI cZ cG q q_gets q_pointsTo q_isLeft q1 q1_kindOf q1_plotOf q1_row q1_standsOn q2 q2_worth q2_liked (ρ.1) w1_houses w1_front w1_downFor (ρ.2.1) w1_plotOf (ρ.2.2.1) w2_houses w2_liked w1_standsOn (ρ.2.2.2)) sz) 0 0 (va_A (kwX7_close cI cZ cG q q_gets q_pointsTo q_isLeft q1 q1_kindOf q1_plotOf q1_row q1_standsOn q2 q2_worth q2_liked v_rings w1_houses w1_front w1_downFor v_gets w1_plotOf v_isLeft w2_houses w2_liked w1_standsOn v_pointsTo) sz) :=
  mk_v (by decide) (Nat.le_of_ble_eq_true rfl) (fun X hrm ret hw hl => wX7_close X hrm ret h _ _ _ hw hl)
theorem dX8_letter_0 : decode cX8_letter 0 = .ok (.iload_n 1, 1) := by decide +kernel
theorem dX8_letter_1 : decode cX8_letter 1 = .ok (.iconst 1, 1) := by decide +kernel
theorem dX8_letter_2 : decode cX8_letter 2 = .ok (.if_icmp .lt 9, 3) := by decide +kernel
theorem dX8_letter_5 : decode cX8_letter 5 = .ok (.iload_n 1, 1) := by decide +kernel
theorem dX8_letter_6 : decode cX8_letter 6 = .ok (.bipush 126, 2) := by decide +kernel
theorem dX8_letter_8 : decode cX8_letter 8 = .ok (.if_icmp .le 6, 3) := by decide +kernel
theorem dX8_letter_11 : decode cX8_letter 11 = .ok (.bipush (-102), 2) := by decide +kernel
theorem dX8_letter_13 : decode cX8_letter 13 = .ok (.ireturn, 1) := by decide +kernel
theorem dX8_letter_14 : decode cX8_letter 14 = .ok (.aload_n 0, 1) := by decide +kernel
theorem dX8_letter_15 : decode cX8_letter 15 = .ok (.getfield 10, 3) := by decide +kernel
theorem dX8_letter_18 : decode cX8_letter 18 = .ok (.getfield 61, 3) := by decide +kernel
theorem dX8_letter_21 : decode cX8_letter 21 = .ok (.bipush 32, 2) := by decide +kernel
theorem dX8_letter_23 : decode cX8_letter 23 = .ok (.if_icmp .lt 6, 3) := by decide +kernel
theorem dX8_letter_26 : decode cX8_letter 26 = .ok (.bipush (-104), 2) := by decide +kernel
theorem dX8_letter_28 : decode cX8_letter 28 = .ok (.ireturn, 1) := by decide +kernel
theorem dX8_letter_29 : decode cX8_letter 29 = .ok (.aload_n 0, 1) := by decide +kernel
theorem dX8_letter_30 : decode cX8_letter 30 = .ok (.getfield 10, 3) := by decide +kernel
theorem dX8_letter_33 : decode cX8_letter 33 = .ok (.iload_n 1, 1) := by decide +kernel
theorem dX8_letter_34 : decode cX8_letter 34 = .ok (.invokevirtual 65, 3) := by decide +kernel
theorem dX8_letter_37 : decode cX8_letter 37 = .ok (.aload_n 0, 1) := by decide +kernel
theorem dX8_letter_38 : decode cX8_letter 38 = .ok (.getfield 10, 3) := by decide +kernel
theorem dX8_letter_41 : decode cX8_letter 41 = .ok (.getfield 61, 3) := by decide +kernel
theorem dX8_letter_44 : decode cX8_letter 44 = .ok (.ireturn, 1) := by decide +kernel
abbrev kwX8_letter (cI cZ cG : ClassId) (q q_page q_ground q_now q_kept q_ahead q_trade q_plan q_guess q_page_letters : Nat) (v_isKept : Int32) (v_squaresRead : Int32) (v_ordersDone : Int32) (v_page_size : Int32) (v_page_letters : (Nat → Int32)) : va_W := [(q, .inr (8, [.ref q_page, .ref q_ground, .ref q_now, .ref q_kept, .ref q_ahead, .ref q_trade, .ref q_plan, .ref q_guess, .int v_isKept, .int v_squaresRead, .int v_ordersDone])), (q_page, .inr (3, [.ref q_page_letters, .int v_page_size])), (q_page_letters, .inl (cI, 32, .inl v_page_letters))]
noncomputable def fX8_letter (N : Nat) (a1 : Int32) (v_page_size : Int32) (v_page_letters : (Nat → Int32))  : Option (Int32 × Int32 × (Nat → Int32)) := if a1 < (1 : Int32) then (some ((-102 : Int32), v_page_size, v_page_letters)) else (if a1 ≤ (126 : Int32) then (if v_page_size < (32 : Int32) then ((fX3_write N a1 v_page_size v_page_letters).bind (fun x_34 => some (x_34.1, x_34.1, x_34.2))) else (some ((-104 : Int32), v_page_size, v_page_letters))) else (some ((-102 : Int32), v_page_size, v_page_letters)))
set_option maxHeartbeats 4000000 in
set_option maxRecDepth 100000 in
theorem wX8_letter {p : Program} {l : Launch} {e : Env} {R : Room} {s : State} {m : MethodId} {args : Array Value} {below : List Frame} {meth : Method} {c : Code} {cells slots : Nat} {Q : State → Prop} {D : va_G} {A : Nat → Prop} {cI cZ cG : ClassId} {q q_page q_ground q_now q_kept q_ahead q_trade q_plan q_guess q_page_letters : Nat} {v_isKept : Int32} {v_squaresRead : Int32} {v_ordersDone : Int32} {v_page_size : Int32} {v_page_letters : (Nat → Int32)} {a1 : Int32} {N : Nat} {ρ : Int32 × Int32 × (Nat → Int32)} (X : CX p s m args c cX8_letter 2 RX8 D (TY cI cZ cG) A) (hrm : RM R 1 21 cells slots) (ret : ∀ (pc : Nat) (H : Heap) (locs : List Loc) (ls : Array Slot), decode cX8_letter pc = .ok (.ireturn, 1) → WD D A (kwX8_letter cI cZ cG q q_page q_ground q_now q_kept q_ahead q_trade q_plan q_guess q_page_letters v_isKept v_squaresRead v_ordersDone (ρ.2.1) (ρ.2.2)) s.heap H locs → W p l e R s m args below meth c H locs cells slots Q (F0 m pc ls [.int ρ.1])) (h : fX8_letter N a1 v_page_size v_page_letters  = some ρ) (H : Heap) (locs : List Loc) (ls : Array Slot) (hw : WD D A (kwX8_letter cI cZ cG q q_page q_ground q_now q_kept q_ahead q_trade q_plan q_guess q_page_letters v_isKept v_squaresRead v_ordersDone v_page_size v_page_letters) s.heap H locs) (hl : lv_has ls 2 [(0, .ref q), (1, .int a1)]) : W p l e R s m args below meth c H locs cells slots Q (F0 m 0 ls []) := by
  have hx := X.1.1
  have hb := X.1.2.1
  unfold fX8_letter at h
  refine lv_iload_n hx hb dX8_letter_0 rfl (lv_at hl 1 rfl) ?_
  refine lv_iconst (v := (1 : Int32)) hx hb dX8_letter_1 (by decide) ?_
  refine lv_icmp_lt (tgt := 11) hx hb dX8_letter_2 (by decide) (fun c_2 => ?_) (fun c_2 => ?_)
  · have h := ift c_2 h
    refine lv_bipush (v := (-102 : Int32)) hx hb dX8_letter_11 (by decide) ?_
    obtain rfl := Option.some.inj h
    exact ret _ _ _ _ dX8_letter_13 hw
  · have h := iff_ c_2 h
    refine lv_iload_n hx hb dX8_letter_5 rfl (lv_at hl 1 rfl) ?_
    refine lv_bipush (v := (126 : Int32)) hx hb dX8_letter_6 (by decide) ?_
    refine lv_icmp_le (tgt := 14) hx hb dX8_letter_8 (by decide) (fun c_8 => ?_) (fun c_8 => ?_)
    · have h := ift c_8 h
      refine lv_aload_n hx hb dX8_letter_14 rfl (lv_at hl 0 rfl) ?_
      refine kget (ci := 8) (v := .ref q_page) X hw iX8 0 rfl rfl 0 (by decide) tw_405 rfl dX8_letter_15 ?_
      refine kget (ci := 3) (v := .int v_page_size) X hw iX3 1 rfl rfl 1 (by decide) tw_406 rfl dX8_letter_18 ?_
      refine lv_bipush (v := (32 : Int32)) hx hb dX8_letter_21 (by decide) ?_
      refine lv_icmp_lt (tgt := 29) hx hb dX8_letter_23 (by decide) (fun c_23 => ?_) (fun c_23 => ?_)
      · have h := ift c_23 h
        refine lv_aload_n hx hb dX8_letter_29 rfl (lv_at hl 0 rfl) ?_
        refine kget (ci := 8) (v := .ref q_page) X hw iX8 0 rfl rfl 0 (by decide) tw_405 rfl dX8_letter_30 ?_
        refine lv_iload_n hx hb dX8_letter_33 rfl (lv_at hl 1 rfl) ?_
        obtain ⟨x_34, hc_34, h⟩ := obd h
        refine ksV_v (ws2 := (kwX8_letter cI cZ cG q q_page q_ground q_now q_kept q_ahead q_trade q_plan q_guess q_page_letters v_isKept v_squaresRead v_ordersDone x_34.1 x_34.2)) (nW := 3) (ci := 3) (As := [.int a1]) (rest := []) X hw rfl rfl rfl (cX3_write_ct l D cI cZ cG q_page q_page_letters v_page_size v_page_letters a1 N x_34 hc_34 H.size) mX3_write tw_407 (hrm.call (by decide) (by decide)) [1, 2] rfl (by decide) rfl (by decide) rfl ⟨rfl, trivial⟩ rfl hl.1 rfl (Nat.le_of_ble_eq_true rfl) dX8_letter_34 ⟨hrm.2.2.1, hrm.2.2.2⟩ (fun H locs hw => ?_)
        refine lv_aload_n hx hb dX8_letter_37 rfl (lv_at hl 0 rfl) ?_
        refine kget (ci := 8) (v := .ref q_page) X hw iX8 0 rfl rfl 0 (by decide) tw_405 rfl dX8_letter_38 ?_
        refine kget (ci := 3) (v := .int x_34.1) X hw iX3 1 rfl rfl 1 (by decide) tw_406 rfl dX8_letter_41 ?_
        obtain rfl := Option.some.inj h
        exact ret _ _ _ _ dX8_letter_44 hw
      · have h := iff_ c_23 h
        refine lv_bipush (v := (-104 : Int32)) hx hb dX8_letter_26 (by decide) ?_
        obtain rfl := Option.some.inj h
        exact ret _ _ _ _ dX8_letter_28 hw
    · have h := iff_ c_8 h
      refine lv_bipush (v := (-102 : Int32)) hx hb dX8_letter_11 (by decide) ?_
      obtain rfl := Option.some.inj h
      exact ret _ _ _ _ dX8_letter_13 hw
set_option maxHeartbeats 4000000 in
set_option maxRecDepth 100000 in
theorem cX8_letter_ct (l : Launch) (D : va_G) (cI cZ cG : ClassId) (q q_page q_ground q_now q_kept q_ahead q_trade q_plan q_guess q_page_letters : Nat)  (v_isKept : Int32) (v_squaresRead : Int32) (v_ordersDone : Int32) (v_page_size : Int32) (v_page_letters : (Nat → Int32)) (a1 : Int32) (N : Nat) (ρ : Int32 × Int32 × (Nat → Int32)) (h : fX8_letter N a1 v_page_size v_page_letters  = some ρ) (sz : Nat) : Met l yX8_letter (wz yX8_letter cX8_letter 2 (some .int)) (cRm 1 21) (cPre D (TY cI cZ cG) [.ref q, .int a1] (kwX8_letter cI cZ cG q q_page q_ground q_now q_kept q_ahead q_trade q_plan q_guess q_page_letters v_isKept v_squaresRead v_ordersDone v_page_size v_page_letters) sz) (cQi D (ρ.1) (kwX8_letter cI cZ cG q q_page q_ground q_now q_kept q_ahead q_trade q_plan q_guess q_page_letters v_isKept v_squaresRead v_ordersDone v_page_size v_page_letters) (kwX8_letter cI cZ cG q q_page q_ground q_now q_kept q_ahead q_trade q_plan q_guess q_page_letters v_isKept v_squaresRead v_ordersDone (ρ.2.1) (ρ.2.2)) sz) 0 0 (va_A (kwX8_letter cI cZ cG q q_page q_ground q_now q_kept q_ahead q_trade q_plan q_guess q_page_letters v_isKept v_squaresRead v_ordersDone v_page_size v_page_letters) sz) :=
  mk_i (by decide) (Nat.le_of_ble_eq_true rfl) (fun X hrm ret hw hl => wX8_letter X hrm ret h _ _ _ hw hl)
theorem dX8_blank_0 : decode cX8_blank 0 = .ok (.aload_n 0, 1) := by decide +kernel
theorem dX8_blank_1 : decode cX8_blank 1 = .ok (.getfield 10, 3) := by decide +kernel
theorem dX8_blank_4 : decode cX8_blank 4 = .ok (.getfield 61, 3) := by decide +kernel
theorem dX8_blank_7 : decode cX8_blank 7 = .ok (.istore_n 1, 1) := by decide +kernel
theorem dX8_blank_8 : decode cX8_blank 8 = .ok (.aload_n 0, 1) := by decide +kernel
theorem dX8_blank_9 : decode cX8_blank 9 = .ok (.getfield 10, 3) := by decide +kernel
theorem dX8_blank_12 : decode cX8_blank 12 = .ok (.iconst 0, 1) := by decide +kernel
theorem dX8_blank_13 : decode cX8_blank 13 = .ok (.putfield 61, 3) := by decide +kernel
theorem dX8_blank_16 : decode cX8_blank 16 = .ok (.iload_n 1, 1) := by decide +kernel
theorem dX8_blank_17 : decode cX8_blank 17 = .ok (.ireturn, 1) := by decide +kernel
abbrev kwX8_blank (cI cZ cG : ClassId) (q q_page q_ground q_now q_kept q_ahead q_trade q_plan q_guess q_page_letters : Nat) (v_isKept : Int32) (v_squaresRead : Int32) (v_ordersDone : Int32) (v_page_size : Int32) : va_W := [(q, .inr (8, [.ref q_page, .ref q_ground, .ref q_now, .ref q_kept, .ref q_ahead, .ref q_trade, .ref q_plan, .ref q_guess, .int v_isKept, .int v_squaresRead, .int v_ordersDone])), (q_page, .inr (3, [.ref q_page_letters, .int v_page_size]))]
noncomputable def fX8_blank (N : Nat) (v_page_size : Int32)  : Option (Int32 × Int32) := some (v_page_size, (0 : Int32))
set_option maxHeartbeats 4000000 in
set_option maxRecDepth 100000 in
theorem wX8_blank {p : Program} {l : Launch} {e : Env} {R : Room} {s : State} {m : MethodId} {args : Array Value} {below : List Frame} {meth : Method} {c : Code} {cells slots : Nat} {Q : State → Prop} {D : va_G} {A : Nat → Prop} {cI cZ cG : ClassId} {q q_page q_ground q_now q_kept q_ahead q_trade q_plan q_guess q_page_letters : Nat} {v_isKept : Int32} {v_squaresRead : Int32} {v_ordersDone : Int32} {v_page_size : Int32} {N : Nat} {ρ : Int32 × Int32} (X : CX p s m args c cX8_blank 2 RX8 D (TY cI cZ cG) A) (hrm : RM R 0 0 cells slots) (ret : ∀ (pc : Nat) (H : Heap) (locs : List Loc) (ls : Array Slot), decode cX8_blank pc = .ok (.ireturn, 1) → WD D A (kwX8_blank cI cZ cG q q_page q_ground q_now q_kept q_ahead q_trade q_plan q_guess q_page_letters v_isKept v_squaresRead v_ordersDone (ρ.2)) s.heap H locs → W p l e R s m args below meth c H locs cells slots Q (F0 m pc ls [.int ρ.1])) (h : fX8_blank N v_page_size  = some ρ) (H : Heap) (locs : List Loc) (ls : Array Slot) (hw : WD D A (kwX8_blank cI cZ cG q q_page q_ground q_now q_kept q_ahead q_trade q_plan q_guess q_page_letters v_isKept v_squaresRead v_ordersDone v_page_size) s.heap H locs) (hl : lv_has ls 2 [(0, .ref q)]) : W p l e R s m args below meth c H locs cells slots Q (F0 m 0 ls []) := by
  have hx := X.1.1
  have hb := X.1.2.1
  unfold fX8_blank at h
  refine lv_aload_n hx hb dX8_blank_0 rfl (lv_at hl 0 rfl) ?_
  refine kget (ci := 8) (v := .ref q_page) X hw iX8 0 rfl rfl 0 (by decide) tw_405 rfl dX8_blank_1 ?_
  refine kget (ci := 3) (v := .int v_page_size) X hw iX3 1 rfl rfl 1 (by decide) tw_406 rfl dX8_blank_4 ?_
  refine lv_istore_n (lv' := [(1, .int v_page_size), (0, .ref q)]) hx hb dX8_blank_7 rfl hl (by decide) rfl (fun ls hl => ?_)
  refine lv_aload_n hx hb dX8_blank_8 rfl (lv_at hl 1 rfl) ?_
  refine kget (ci := 8) (v := .ref q_page) X hw iX8 0 rfl rfl 0 (by decide) tw_405 rfl dX8_blank_9 ?_
  refine lv_iconst (v := (0 : Int32)) hx hb dX8_blank_12 (by decide) ?_
  refine kput (ci := 3) (v := .int (0 : Int32)) (ty := .int) X hw iX3 tyX3_ok nmX3 1 rfl rfl 1 (by decide) tw_406 rfl rfl rfl rfl (Nat.le_of_ble_eq_true rfl) dX8_blank_13 (fun H locs hw => ?_)
  have hw : WD D A (kwX8_blank cI cZ cG q q_page q_ground q_now q_kept q_ahead q_trade q_plan q_guess q_page_letters v_isKept v_squaresRead v_ordersDone (0 : Int32)) s.heap H locs := hw
  refine lv_iload_n hx hb dX8_blank_16 rfl (lv_at hl 0 rfl) ?_
  obtain rfl := Option.some.inj h
  exact ret _ _ _ _ dX8_blank_17 hw
set_option maxHeartbeats 4000000 in
set_option maxRecDepth 100000 in
theorem cX8_blank_ct (l : Launch) (D : va_G) (cI cZ cG : ClassId) (q q_page q_ground q_now q_kept q_ahead q_trade q_plan q_guess q_page_letters : Nat)  (v_isKept : Int32) (v_squaresRead : Int32) (v_ordersDone : Int32) (v_page_size : Int32)  (N : Nat) (ρ : Int32 × Int32) (h : fX8_blank N v_page_size  = some ρ) (sz : Nat) : Met l yX8_blank (wz yX8_blank cX8_blank 2 (some .int)) (cRm 0 0) (cPre D (TY cI cZ cG) [.ref q] (kwX8_blank cI cZ cG q q_page q_ground q_now q_kept q_ahead q_trade q_plan q_guess q_page_letters v_isKept v_squaresRead v_ordersDone v_page_size) sz) (cQi D (ρ.1) (kwX8_blank cI cZ cG q q_page q_ground q_now q_kept q_ahead q_trade q_plan q_guess q_page_letters v_isKept v_squaresRead v_ordersDone v_page_size) (kwX8_blank cI cZ cG q q_page q_ground q_now q_kept q_ahead q_trade q_plan q_guess q_page_letters v_isKept v_squaresRead v_ordersDone (ρ.2)) sz) 0 0 (va_A (kwX8_blank cI cZ cG q q_page q_ground q_now q_kept q_ahead q_trade q_plan q_guess q_page_letters v_isKept v_squaresRead v_ordersDone v_page_size) sz) :=
  mk_i (by decide) (Nat.le_of_ble_eq_true rfl) (fun X hrm ret hw hl => wX8_blank X hrm ret h _ _ _ hw hl)
theorem dX8_fault_0 : decode cX8_fault 0 = .ok (.aload_n 0, 1) := by decide +kernel
theorem dX8_fault_1 : decode cX8_fault 1 = .ok (.getfield 10, 3) := by decide +kernel
theorem dX8_fault_4 : decode cX8_fault 4 = .ok (.invokevirtual 69, 3) := by decide +kernel
theorem dX8_fault_7 : decode cX8_fault 7 = .ok (.ireturn, 1) := by decide +kernel
abbrev kwX8_fault (cI cZ cG : ClassId) (q q_page q_ground q_now q_kept q_ahead q_trade q_plan q_guess q_page_letters : Nat) (v_isKept : Int32) (v_squaresRead : Int32) (v_ordersDone : Int32) (v_page_size : Int32) (v_page_letters : (Nat → Int32)) : va_W := [(q, .inr (8, [.ref q_page, .ref q_ground, .ref q_now, .ref q_kept, .ref q_ahead, .ref q_trade, .ref q_plan, .ref q_guess, .int v_isKept, .int v_squaresRead, .int v_ordersDone])), (q_page, .inr (3, [.ref q_page_letters, .int v_page_size])), (q_page_letters, .inl (cI, 32, .inl v_page_letters))]
noncomputable def fX8_fault (N : Nat) (v_page_size : Int32) (v_page_letters : (Nat → Int32))   : Option (Int32) := (fX3_firstWrong N v_page_size v_page_letters).bind (fun x_4 => some x_4)
set_option maxHeartbeats 4000000 in
set_option maxRecDepth 100000 in
theorem wX8_fault {p : Program} {l : Launch} {e : Env} {R : Room} {s : State} {m : MethodId} {args : Array Value} {below : List Frame} {meth : Method} {c : Code} {cells slots : Nat} {Q : State → Prop} {D : va_G} {A : Nat → Prop} {cI cZ cG : ClassId} {q q_page q_ground q_now q_kept q_ahead q_trade q_plan q_guess q_page_letters : Nat} {v_isKept : Int32} {v_squaresRead : Int32} {v_ordersDone : Int32} {v_page_size : Int32} {v_page_letters : (Nat → Int32)} {N : Nat} {ρ : Int32} (X : CX p s m args c cX8_fault 1 RX8 D (TY cI cZ cG) A) (hrm : RM R 7 153 cells slots) (ret : ∀ (pc : Nat) (H : Heap) (locs : List Loc) (ls : Array Slot), decode cX8_fault pc = .ok (.ireturn, 1) → WD D A (kwX8_fault cI cZ cG q q_page q_ground q_now q_kept q_ahead q_trade q_plan q_guess q_page_letters v_isKept v_squaresRead v_ordersDone v_page_size v_page_letters) s.heap H locs → W p l e R s m args below meth c H locs cells slots Q (F0 m pc ls [.int ρ])) (h : fX8_fault N v_page_size v_page_letters   = some ρ) (H : Heap) (locs : List Loc) (ls : Array Slot) (hw : WD D A (kwX8_fault cI cZ cG q q_page q_ground q_now q_kept q_ahead q_trade q_plan q_guess q_page_letters v_isKept v_squaresRead v_ordersDone v_page_size v_page_letters) s.heap H locs) (hl : lv_has ls 1 [(0, .ref q)]) : W p l e R s m args below meth c H locs cells slots Q (F0 m 0 ls []) := by
  have hx := X.1.1
  have hb := X.1.2.1
  unfold fX8_fault at h
  refine lv_aload_n hx hb dX8_fault_0 rfl (lv_at hl 0 rfl) ?_
  refine kget (ci := 8) (v := .ref q_page) X hw iX8 0 rfl rfl 0 (by decide) tw_405 rfl dX8_fault_1 ?_
  obtain ⟨x_4, hc_4, h⟩ := obd h
  refine ksV_i (ws2 := (kwX8_fault cI cZ cG q q_page q_ground q_now q_kept q_ahead q_trade q_plan q_guess q_page_letters v_isKept v_squaresRead v_ordersDone v_page_size v_page_letters)) (nW := 3) (ci := 3) (As := []) (rest := []) X hw rfl rfl rfl (cX3_firstWrong_ct l D cI cZ cG q_page q_page_letters v_page_size v_page_letters N x_4 hc_4 H.size) mX3_firstWrong tw_414 (hrm.call (by decide) (by decide)) [1, 2] rfl (by decide) rfl (by decide) rfl ⟨rfl, trivial⟩ rfl hl.1 rfl (Nat.le_of_ble_eq_true rfl) dX8_fault_4 ⟨hrm.2.2.1, hrm.2.2.2⟩ (fun H locs hw => ?_)
  obtain rfl := Option.some.inj h
  exact ret _ _ _ _ dX8_fault_7 hw
set_option maxHeartbeats 4000000 in
set_option maxRecDepth 100000 in
theorem cX8_fault_ct (l : Launch) (D : va_G) (cI cZ cG : ClassId) (q q_page q_ground q_now q_kept q_ahead q_trade q_plan q_guess q_page_letters : Nat)  (v_isKept : Int32) (v_squaresRead : Int32) (v_ordersDone : Int32) (v_page_size : Int32) (v_page_letters : (Nat → Int32))  (N : Nat) (ρ : Int32) (h : fX8_fault N v_page_size v_page_letters   = some ρ) (sz : Nat) : Met l yX8_fault (wz yX8_fault cX8_fault 1 (some .int)) (cRm 7 153) (cPre D (TY cI cZ cG) [.ref q] (kwX8_fault cI cZ cG q q_page q_ground q_now q_kept q_ahead q_trade q_plan q_guess q_page_letters v_isKept v_squaresRead v_ordersDone v_page_size v_page_letters) sz) (cQi D (ρ) (kwX8_fault cI cZ cG q q_page q_ground q_now q_kept q_ahead q_trade q_plan q_guess q_page_letters v_isKept v_squaresRead v_ordersDone v_page_size v_page_letters) (kwX8_fault cI cZ cG q q_page q_ground q_now q_kept q_ahead q_trade q_plan q_guess q_page_letters v_isKept v_squaresRead v_ordersDone v_page_size v_page_letters) sz) 0 0 (va_A (kwX8_fault cI cZ cG q q_page q_ground q_now q_kept q_ahead q_trade q_plan q_guess q_page_letters v_isKept v_squaresRead v_ordersDone v_page_size v_page_letters) sz) :=
  mk_i (by decide) (Nat.le_of_ble_eq_true rfl) (fun X hrm ret hw hl => wX8_fault X hrm ret h _ _ _ hw hl)
