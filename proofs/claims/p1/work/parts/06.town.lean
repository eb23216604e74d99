theorem dX6_isDown_0 : decode cX6_isDown 0 = .ok (.aload_n 0, 1) := by decide +kernel
theorem dX6_isDown_1 : decode cX6_isDown 1 = .ok (.getfield 15, 3) := by decide +kernel
theorem dX6_isDown_4 : decode cX6_isDown 4 = .ok (.iload_n 1, 1) := by decide +kernel
theorem dX6_isDown_5 : decode cX6_isDown 5 = .ok (.iaload, 1) := by decide +kernel
theorem dX6_isDown_6 : decode cX6_isDown 6 = .ok (.iconst (-1), 1) := by decide +kernel
theorem dX6_isDown_7 : decode cX6_isDown 7 = .ok (.if_icmp .ne 7, 3) := by decide +kernel
theorem dX6_isDown_10 : decode cX6_isDown 10 = .ok (.iconst 1, 1) := by decide +kernel
theorem dX6_isDown_11 : decode cX6_isDown 11 = .ok (.goto 4, 3) := by decide +kernel
theorem dX6_isDown_14 : decode cX6_isDown 14 = .ok (.iconst 0, 1) := by decide +kernel
theorem dX6_isDown_15 : decode cX6_isDown 15 = .ok (.ireturn, 1) := by decide +kernel
noncomputable def fX6_isDown (N : Nat) (v_plotOf : (Nat → Int32)) (a1 : Int32)   : Option (Int32) := if a1 < 0 ∨ 6 ≤ (a1).toNatClampNeg then none else (if (v_plotOf (a1).toNatClampNeg) = (-1 : Int32) then (some (1 : Int32)) else (some (0 : Int32)))
set_option maxHeartbeats 4000000 in
set_option maxRecDepth 100000 in
theorem wX6_isDown {p : Program} {l : Launch} {e : Env} {R : Room} {s : State} {m : MethodId} {args : Array Value} {below : List Frame} {meth : Method} {c : Code} {cells slots : Nat} {Q : State → Prop} {D : va_G} {A : Nat → Prop} {cI cZ cG : ClassId} {q q_kindOf q_plotOf q_row q_standsOn : Nat} {v_houses : Int32} {v_front : Int32} {v_downFor : Int32} {v_plotOf : (Nat → Int32)} {a1 : Int32} {N : Nat} {ρ : Int32} (X : CX p s m args c cX6_isDown 2 RX6 D (TY cI cZ cG) A) (hrm : RM R 0 0 cells slots) (ret : ∀ (pc : Nat) (H : Heap) (locs : List Loc) (ls : Array Slot), narrow .boolean (.int ρ) = .int ρ → decode cX6_isDown pc = .ok (.ireturn, 1) → WD D A [(q, .inr (6, [.ref q_kindOf, .ref q_plotOf, .ref q_row, .ref q_standsOn, .int v_houses, .int v_front, .int v_downFor])), (q_plotOf, .inl (cI, 6, .inl v_plotOf))] s.heap H locs → W p l e R s m args below meth c H locs cells slots Q (F0 m pc ls [.int ρ])) (h : fX6_isDown N v_plotOf a1   = some ρ) (H : Heap) (locs : List Loc) (ls : Array Slot) (hw : WD D A [(q, .inr (6, [.ref q_kindOf, .ref q_plotOf, .ref q_row, .ref q_standsOn, .int v_houses, .int v_front, .int v_downFor])), (q_plotOf, .inl (cI, 6, .inl v_plotOf))] s.heap H locs) (hl : lv_has ls 2 [(0, .ref q), (1, .int a1)]) : W p l e R s m args below meth c H locs cells slots Q (F0 m 0 ls []) := by
  have hx := X.1.1
  have hb := X.1.2.1
  unfold fX6_isDown at h
  refine lv_aload_n hx hb dX6_isDown_0 rfl (lv_at hl 0 rfl) ?_
  refine kget (ci := 6) (v := .ref q_plotOf) X hw iX6 0 rfl rfl 1 (by decide) tw_85 rfl dX6_isDown_1 ?_
  refine lv_iload_n hx hb dX6_isDown_4 rfl (lv_at hl 1 rfl) ?_
  obtain ⟨g_5, h⟩ := gd h
  refine kiald X hw 1 rfl rfl g_5 dX6_isDown_5 ?_
  refine lv_iconst (v := (-1 : Int32)) hx hb dX6_isDown_6 (by decide) ?_
  refine lv_icmp_ne (tgt := 14) hx hb dX6_isDown_7 (by decide) (fun c_7 => ?_) (fun c_7 => ?_)
  · have h := iff_ c_7 h
    refine lv_iconst (v := (0 : Int32)) hx hb dX6_isDown_14 (by decide) ?_
    obtain rfl := Option.some.inj h
    exact ret _ _ _ _ rfl dX6_isDown_15 hw
  · have h := ift c_7 h
    refine lv_iconst (v := (1 : Int32)) hx hb dX6_isDown_10 (by decide) ?_
    refine lv_goto (tgt := 15) hx hb dX6_isDown_11 (by decide) ?_
    obtain rfl := Option.some.inj h
    exact ret _ _ _ _ rfl dX6_isDown_15 hw
set_option maxHeartbeats 4000000 in
set_option maxRecDepth 100000 in
theorem cX6_isDown_ct (l : Launch) (D : va_G) (cI cZ cG : ClassId) (q q_kindOf q_plotOf q_row q_standsOn : Nat)  (v_houses : Int32) (v_front : Int32) (v_downFor : Int32) (v_plotOf : (Nat → Int32)) (a1 : Int32) (N : Nat) (ρ : Int32) (h : fX6_isDown N v_plotOf a1   = some ρ) (sz : Nat) : Met l yX6_isDown (wz yX6_isDown cX6_isDown 2 (some .boolean)) (cRm 0 0) (cPre D (TY cI cZ cG) [.ref q, .int a1] [(q, .inr (6, [.ref q_kindOf, .ref q_plotOf, .ref q_row, .ref q_standsOn, .int v_houses, .int v_front, .int v_downFor])), (q_plotOf, .inl (cI, 6, .inl v_plotOf))] sz) (cQi D (ρ) [(q, .inr (6, [.ref q_kindOf, .ref q_plotOf, .ref q_row, .ref q_standsOn, .int v_houses, .int v_front, .int v_downFor])), (q_plotOf, .inl (cI, 6, .inl v_plotOf))] [(q, .inr (6, [.ref q_kindOf, .ref q_plotOf, .ref q_row, .ref q_standsOn, .int v_houses, .int v_front, .int v_downFor])), (q_plotOf, .inl (cI, 6, .inl v_plotOf))] sz) 0 0 (va_A [(q, .inr (6, [.ref q_kindOf, .ref q_plotOf, .ref q_row, .ref q_standsOn, .int v_houses, .int v_front, .int v_downFor])), (q_plotOf, .inl (cI, 6, .inl v_plotOf))] sz) :=
  mk_z (by decide) (Nat.le_of_ble_eq_true rfl) (fun X hrm ret hw hl => wX6_isDown X hrm ret h _ _ _ hw hl)
theorem dX6_standing_0 : decode cX6_standing 0 = .ok (.iconst 0, 1) := by decide +kernel
theorem dX6_standing_1 : decode cX6_standing 1 = .ok (.istore_n 1, 1) := by decide +kernel
theorem dX6_standing_2 : decode cX6_standing 2 = .ok (.iconst 0, 1) := by decide +kernel
theorem dX6_standing_3 : decode cX6_standing 3 = .ok (.istore_n 2, 1) := by decide +kernel
theorem dX6_standing_4 : decode cX6_standing 4 = .ok (.iload_n 2, 1) := by decide +kernel
theorem dX6_standing_5 : decode cX6_standing 5 = .ok (.aload_n 0, 1) := by decide +kernel
theorem dX6_standing_6 : decode cX6_standing 6 = .ok (.getfield 30, 3) := by decide +kernel
theorem dX6_standing_9 : decode cX6_standing 9 = .ok (.if_icmp .ge 20, 3) := by decide +kernel
theorem dX6_standing_12 : decode cX6_standing 12 = .ok (.aload_n 0, 1) := by decide +kernel
theorem dX6_standing_13 : decode cX6_standing 13 = .ok (.iload_n 2, 1) := by decide +kernel
theorem dX6_standing_14 : decode cX6_standing 14 = .ok (.invokevirtual 63, 3) := by decide +kernel
theorem dX6_standing_17 : decode cX6_standing 17 = .ok (.ifCond .ne 6, 3) := by decide +kernel
theorem dX6_standing_20 : decode cX6_standing 20 = .ok (.iinc 1 1, 3) := by decide +kernel
theorem dX6_standing_23 : decode cX6_standing 23 = .ok (.iinc 2 1, 3) := by decide +kernel
theorem dX6_standing_26 : decode cX6_standing 26 = .ok (.goto (-22), 3) := by decide +kernel
theorem dX6_standing_29 : decode cX6_standing 29 = .ok (.iload_n 1, 1) := by decide +kernel
theorem dX6_standing_30 : decode cX6_standing 30 = .ok (.ireturn, 1) := by decide +kernel
noncomputable def fX6_standing_4 (N : Nat) (v_houses : Int32) (v_plotOf : (Nat → Int32))  (K_4 : Int32 × Int32 → Option (Int32)) (l1 : Int32) (l2 : Int32) : Option (Int32) := if v_houses ≤ l2 then (some l1) else ((fX6_isDown N v_plotOf l2).bind (fun x_14 => if x_14 = 0 then (K_4 ((l1 + (1 : Int32)), (l2 + (1 : Int32)))) else (K_4 (l1, (l2 + (1 : Int32))))))
noncomputable def fX6_standing (N : Nat) (v_houses : Int32) (v_plotOf : (Nat → Int32))   : Option (Int32) := lfix (fun K a => fX6_standing_4 N v_houses v_plotOf K a.1 a.2) N ((0 : Int32), (0 : Int32))
set_option maxHeartbeats 4000000 in
set_option maxRecDepth 100000 in
theorem wX6_standing_4 {p : Program} {l : Launch} {e : Env} {R : Room} {s : State} {m : MethodId} {args : Array Value} {below : List Frame} {meth : Method} {c : Code} {cells slots : Nat} {Q : State → Prop} {D : va_G} {A : Nat → Prop} {cI cZ cG : ClassId} {q q_kindOf q_plotOf q_row q_standsOn : Nat} {v_houses : Int32} {v_front : Int32} {v_downFor : Int32} {v_plotOf : (Nat → Int32)} {N : Nat} {ρ : Int32} (X : CX p s m args c cX6_standing 3 RX6 D (TY cI cZ cG) A) (hrm : RM R 1 21 cells slots) (ret : ∀ (pc : Nat) (H : Heap) (locs : List Loc) (ls : Array Slot), decode cX6_standing pc = .ok (.ireturn, 1) → WD D A [(q, .inr (6, [.ref q_kindOf, .ref q_plotOf, .ref q_row, .ref q_standsOn, .int v_houses, .int v_front, .int v_downFor])), (q_plotOf, .inl (cI, 6, .inl v_plotOf))] s.heap H locs → W p l e R s m args below meth c H locs cells slots Q (F0 m pc ls [.int ρ]))  : ∀ (n : Nat) (a : Int32 × Int32), lfix (fun K a => fX6_standing_4 N v_houses v_plotOf K a.1 a.2) n a = some ρ → ∀ (H : Heap) (locs : List Loc) (ls : Array Slot), WD D A [(q, .inr (6, [.ref q_kindOf, .ref q_plotOf, .ref q_row, .ref q_standsOn, .int v_houses, .int v_front, .int v_downFor])), (q_plotOf, .inl (cI, 6, .inl v_plotOf))] s.heap H locs → lv_has ls 3 [(0, .ref q), (1, .int a.1), (2, .int a.2)] → W p l e R s m args below meth c H locs cells slots Q (F0 m 4 ls []) := by
  have hx := X.1.1
  have hb := X.1.2.1
  refine lfix_W (fun K_4 hK_4 a h => ?_)
  obtain ⟨l1, l2⟩ := a
  intro H locs ls hw hl
  have h : fX6_standing_4 N v_houses v_plotOf K_4 l1 l2 = some ρ := h
  have hw : WD D A [(q, .inr (6, [.ref q_kindOf, .ref q_plotOf, .ref q_row, .ref q_standsOn, .int v_houses, .int v_front, .int v_downFor])), (q_plotOf, .inl (cI, 6, .inl v_plotOf))] s.heap H locs := hw
  have hl : lv_has ls 3 [(0, .ref q), (1, .int l1), (2, .int l2)] := hl
  unfold fX6_standing_4 at h
  refine lv_iload_n hx hb dX6_standing_4 rfl (lv_at hl 2 rfl) ?_
  refine lv_aload_n hx hb dX6_standing_5 rfl (lv_at hl 0 rfl) ?_
  refine kget (ci := 6) (v := .int v_houses) X hw iX6 0 rfl rfl 4 (by decide) tw_90 rfl dX6_standing_6 ?_
  refine lv_icmp_ge (tgt := 29) hx hb dX6_standing_9 (by decide) (fun c_9 => ?_) (fun c_9 => ?_)
  · have h := ift c_9 h
    refine lv_iload_n hx hb dX6_standing_29 rfl (lv_at hl 1 rfl) ?_
    obtain rfl := Option.some.inj h
    exact ret _ _ _ _ dX6_standing_30 hw
  · have h := iff_ c_9 h
    refine lv_aload_n hx hb dX6_standing_12 rfl (lv_at hl 0 rfl) ?_
    refine lv_iload_n hx hb dX6_standing_13 rfl (lv_at hl 2 rfl) ?_
    obtain ⟨x_14, hc_14, h⟩ := obd h
    refine kcV_i (ci := 6) (As := [.int l2]) (rest := []) X hw rfl rfl rfl (cX6_isDown_ct l D cI cZ cG q q_kindOf q_plotOf q_row q_standsOn v_houses v_front v_downFor v_plotOf l2 N x_14 hc_14 H.size) mX6_isDown tw_91 (hrm.call (by decide) (by decide)) [0, 1] [] rfl (by decide) rfl (by decide) (by decide) rfl hl.1 rfl (Nat.le_of_ble_eq_true rfl) dX6_standing_14 ⟨hrm.2.2.1, hrm.2.2.2⟩ (fun H locs hw => ?_)
    have hw : WD D A [(q, .inr (6, [.ref q_kindOf, .ref q_plotOf, .ref q_row, .ref q_standsOn, .int v_houses, .int v_front, .int v_downFor])), (q_plotOf, .inl (cI, 6, .inl v_plotOf))] s.heap H locs := hw
    refine lv_if_ne (tgt := 23) hx hb dX6_standing_17 (by decide) (fun c_17 => ?_) (fun c_17 => ?_)
    · have h := iff_ c_17 h
      refine lv_iinc (v := (l2 + (1 : Int32))) (lv' := [(2, .int (l2 + (1 : Int32))), (0, .ref q), (1, .int l1)]) hx hb dX6_standing_23 hl (k := 2) rfl (congrArg (l2 + ·) (by decide)) (by decide) rfl (fun ls hl => ?_)
      refine lv_goto (tgt := 4) hx hb dX6_standing_26 (by decide) ?_
      exact hK_4 _ h _ _ _ hw (lv_sub hl [1, 2, 0] rfl)
    · have h := ift c_17 h
      refine lv_iinc (v := (l1 + (1 : Int32))) (lv' := [(1, .int (l1 + (1 : Int32))), (0, .ref q), (2, .int l2)]) hx hb dX6_standing_20 hl (k := 1) rfl (congrArg (l1 + ·) (by decide)) (by decide) rfl (fun ls hl => ?_)
      refine lv_iinc (v := (l2 + (1 : Int32))) (lv' := [(2, .int (l2 + (1 : Int32))), (1, .int (l1 + (1 : Int32))), (0, .ref q)]) hx hb dX6_standing_23 hl (k := 2) rfl (congrArg (l2 + ·) (by decide)) (by decide) rfl (fun ls hl => ?_)
      refine lv_goto (tgt := 4) hx hb dX6_standing_26 (by decide) ?_
      exact hK_4 _ h _ _ _ hw (lv_sub hl [2, 1, 0] rfl)
set_option maxHeartbeats 4000000 in
set_option maxRecDepth 100000 in
theorem wX6_standing {p : Program} {l : Launch} {e : Env} {R : Room} {s : State} {m : MethodId} {args : Array Value} {below : List Frame} {meth : Method} {c : Code} {cells slots : Nat} {Q : State → Prop} {D : va_G} {A : Nat → Prop} {cI cZ cG : ClassId} {q q_kindOf q_plotOf q_row q_standsOn : Nat} {v_houses : Int32} {v_front : Int32} {v_downFor : Int32} {v_plotOf : (Nat → Int32)} {N : Nat} {ρ : Int32} (X : CX p s m args c cX6_standing 3 RX6 D (TY cI cZ cG) A) (hrm : RM R 1 21 cells slots) (ret : ∀ (pc : Nat) (H : Heap) (locs : List Loc) (ls : Array Slot), decode cX6_standing pc = .ok (.ireturn, 1) → WD D A [(q, .inr (6, [.ref q_kindOf, .ref q_plotOf, .ref q_row, .ref q_standsOn, .int v_houses, .int v_front, .int v_downFor])), (q_plotOf, .inl (cI, 6, .inl v_plotOf))] s.heap H locs → W p l e R s m args below meth c H locs cells slots Q (F0 m pc ls [.int ρ])) (h : fX6_standing N v_houses v_plotOf   = some ρ) (H : Heap) (locs : List Loc) (ls : Array Slot) (hw : WD D A [(q, .inr (6, [.ref q_kindOf, .ref q_plotOf, .ref q_row, .ref q_standsOn, .int v_houses, .int v_front, .int v_downFor])), (q_plotOf, .inl (cI, 6, .inl v_plotOf))] s.heap H locs) (hl : lv_has ls 3 [(0, .ref q)]) : W p l e R s m args below meth c H locs cells slots Q (F0 m 0 ls []) := by
  have hx := X.1.1
  have hb := X.1.2.1
  unfold fX6_standing at h
  refine lv_iconst (v := (0 : Int32)) hx hb dX6_standing_0 (by decide) ?_
  refine lv_istore_n (lv' := [(1, .int (0 : Int32)), (0, .ref q)]) hx hb dX6_standing_1 rfl hl (by decide) rfl (fun ls hl => ?_)
  refine lv_iconst (v := (0 : Int32)) hx hb dX6_standing_2 (by decide) ?_
  refine lv_istore_n (lv' := [(2, .int (0 : Int32)), (1, .int (0 : Int32)), (0, .ref q)]) hx hb dX6_standing_3 rfl hl (by decide) rfl (fun ls hl => ?_)
  exact wX6_standing_4 X hrm ret  _ _ h _ _ _ hw (lv_sub hl [2, 1, 0] rfl)
set_option maxHeartbeats 4000000 in
set_option maxRecDepth 100000 in
theorem cX6_standing_ct (l : Launch) (D : va_G) (cI cZ cG : ClassId) (q q_kindOf q_plotOf q_row q_standsOn : Nat)  (v_houses : Int32) (v_front : Int32) (v_downFor : Int32) (v_plotOf : (Nat → Int32))  (N : Nat) (ρ : Int32) (h : fX6_standing N v_houses v_plotOf   = some ρ) (sz : Nat) : Met l yX6_standing (wz yX6_standing cX6_standing 3 (some .int)) (cRm 1 21) (cPre D (TY cI cZ cG) [.ref q] [(q, .inr (6, [.ref q_kindOf, .ref q_plotOf, .ref q_row, .ref q_standsOn, .int v_houses, .int v_front, .int v_downFor])), (q_plotOf, .inl (cI, 6, .inl v_plotOf))] sz) (cQi D (ρ) [(q, .inr (6, [.ref q_kindOf, .ref q_plotOf, .ref q_row, .ref q_standsOn, .int v_houses, .int v_front, .int v_downFor])), (q_plotOf, .inl (cI, 6, .inl v_plotOf))] [(q, .inr (6, [.ref q_kindOf, .ref q_plotOf, .ref q_row, .ref q_standsOn, .int v_houses, .int v_front, .int v_downFor])), (q_plotOf, .inl (cI, 6, .inl v_plotOf))] sz) 0 0 (va_A [(q, .inr (6, [.ref q_kindOf, .ref q_plotOf, .ref q_row, .ref q_standsOn, .int v_houses, .int v_front, .int v_downFor])), (q_plotOf, .inl (cI, 6, .inl v_plotOf))] sz) :=
  mk_i (by decide) (Nat.le_of_ble_eq_true rfl) (fun X hrm ret hw hl => wX6_standing X hrm ret h _ _ _ hw hl)
theorem dX8_wayRound_0 : decode cX8_wayRound 0 = .ok (.iload_n 0, 1) := by decide +kernel
theorem dX8_wayRound_1 : decode cX8_wayRound 1 = .ok (.iload_n 1, 1) := by decide +kernel
theorem dX8_wayRound_2 : decode cX8_wayRound 2 = .ok (.isub, 1) := by decide +kernel
theorem dX8_wayRound_3 : decode cX8_wayRound 3 = .ok (.invokestatic 285, 3) := by decide +kernel
theorem dX8_wayRound_6 : decode cX8_wayRound 6 = .ok (.istore_n 2, 1) := by decide +kernel
theorem dX8_wayRound_7 : decode cX8_wayRound 7 = .ok (.iload_n 2, 1) := by decide +kernel
theorem dX8_wayRound_8 : decode cX8_wayRound 8 = .ok (.bipush 12, 2) := by decide +kernel
theorem dX8_wayRound_10 : decode cX8_wayRound 10 = .ok (.iload_n 2, 1) := by decide +kernel
theorem dX8_wayRound_11 : decode cX8_wayRound 11 = .ok (.isub, 1) := by decide +kernel
theorem dX8_wayRound_12 : decode cX8_wayRound 12 = .ok (.invokestatic 290, 3) := by decide +kernel
theorem dX8_wayRound_15 : decode cX8_wayRound 15 = .ok (.ireturn, 1) := by decide +kernel
noncomputable def fX8_wayRound (N : Nat) (a0 : Int32) (a1 : Int32)   : Option (Int32) := some (if ((12 : Int32) - (if 0 ≤ (a0 - a1) then (a0 - a1) else 0 - (a0 - a1))) < (if 0 ≤ (a0 - a1) then (a0 - a1) else 0 - (a0 - a1)) then ((12 : Int32) - (if 0 ≤ (a0 - a1) then (a0 - a1) else 0 - (a0 - a1))) else (if 0 ≤ (a0 - a1) then (a0 - a1) else 0 - (a0 - a1)))
set_option maxHeartbeats 4000000 in
set_option maxRecDepth 100000 in
theorem wX8_wayRound {p : Program} {l : Launch} {e : Env} {R : Room} {s : State} {m : MethodId} {args : Array Value} {below : List Frame} {meth : Method} {c : Code} {cells slots : Nat} {Q : State → Prop} {D : va_G} {A : Nat → Prop} {cI cZ cG : ClassId} {a0 : Int32} {a1 : Int32} {N : Nat} {ρ : Int32} (X : CX p s m args c cX8_wayRound 3 RX8 D (TY cI cZ cG) A) (hrm : RM R 1 21 cells slots) (ret : ∀ (pc : Nat) (H : Heap) (locs : List Loc) (ls : Array Slot), decode cX8_wayRound pc = .ok (.ireturn, 1) → WD D A [] s.heap H locs → W p l e R s m args below meth c H locs cells slots Q (F0 m pc ls [.int ρ])) (h : fX8_wayRound N a0 a1   = some ρ) (H : Heap) (locs : List Loc) (ls : Array Slot) (hw : WD D A [] s.heap H locs) (hl : lv_has ls 3 [(0, .int a0), (1, .int a1)]) : W p l e R s m args below meth c H locs cells slots Q (F0 m 0 ls []) := by
  have hx := X.1.1
  have hb := X.1.2.1
  unfold fX8_wayRound at h
  refine lv_iload_n hx hb dX8_wayRound_0 rfl (lv_at hl 0 rfl) ?_
  refine lv_iload_n hx hb dX8_wayRound_1 rfl (lv_at hl 1 rfl) ?_
  refine lv_isub hx hb dX8_wayRound_2 ?_
  refine kabs X hl.1 tw_95 tw_96 tw_97 tw_98 (Nat.le_trans (by decide) hrm.1) (Nat.le_trans (Nat.le_of_ble_eq_true rfl) hrm.2.1) ⟨hrm.2.2.1, hrm.2.2.2⟩ dX8_wayRound_3 ?_
  refine lv_istore_n (lv' := [(2, .int (if 0 ≤ (a0 - a1) then (a0 - a1) else 0 - (a0 - a1))), (0, .int a0), (1, .int a1)]) hx hb dX8_wayRound_6 rfl hl (by decide) rfl (fun ls hl => ?_)
  refine lv_iload_n hx hb dX8_wayRound_7 rfl (lv_at hl 0 rfl) ?_
  refine lv_bipush (v := (12 : Int32)) hx hb dX8_wayRound_8 (by decide) ?_
  refine lv_iload_n hx hb dX8_wayRound_10 rfl (lv_at hl 0 rfl) ?_
  refine lv_isub hx hb dX8_wayRound_11 ?_
  refine kmin X hl.1 tw_99 tw_100 tw_97 tw_101 (Nat.le_trans (by decide) hrm.1) (Nat.le_trans (Nat.le_of_ble_eq_true rfl) hrm.2.1) ⟨hrm.2.2.1, hrm.2.2.2⟩ dX8_wayRound_12 ?_
  obtain rfl := Option.some.inj h
  exact ret _ _ _ _ dX8_wayRound_15 hw
set_option maxHeartbeats 4000000 in
set_option maxRecDepth 100000 in
theorem cX8_wayRound_ct (l : Launch) (D : va_G) (cI cZ cG : ClassId)    (a0 : Int32) (a1 : Int32) (N : Nat) (ρ : Int32) (h : fX8_wayRound N a0 a1   = some ρ) (sz : Nat) : Met l yX8_wayRound (wz yX8_wayRound cX8_wayRound 3 (some .int)) (cRm 1 21) (cPre D (TY cI cZ cG) [.int a0, .int a1] [] sz) (cQi D (ρ) [] [] sz) 0 0 (va_A [] sz) :=
  mk_i (by decide) (Nat.le_of_ble_eq_true rfl) (fun X hrm ret hw hl => wX8_wayRound X hrm ret h _ _ _ hw hl)
theorem dX6_areBeside_0 : decode cX6_areBeside 0 = .ok (.aload_n 0, 1) := by decide +kernel
theorem dX6_areBeside_1 : decode cX6_areBeside 1 = .ok (.iload_n 1, 1) := by decide +kernel
theorem dX6_areBeside_2 : decode cX6_areBeside 2 = .ok (.invokevirtual 63, 3) := by decide +kernel
theorem dX6_areBeside_5 : decode cX6_areBeside 5 = .ok (.ifCond .ne 34, 3) := by decide +kernel
theorem dX6_areBeside_8 : decode cX6_areBeside 8 = .ok (.aload_n 0, 1) := by decide +kernel
theorem dX6_areBeside_9 : decode cX6_areBeside 9 = .ok (.iload_n 2, 1) := by decide +kernel
theorem dX6_areBeside_10 : decode cX6_areBeside 10 = .ok (.invokevirtual 63, 3) := by decide +kernel
theorem dX6_areBeside_13 : decode cX6_areBeside 13 = .ok (.ifCond .ne 26, 3) := by decide +kernel
theorem dX6_areBeside_16 : decode cX6_areBeside 16 = .ok (.aload_n 0, 1) := by decide +kernel
theorem dX6_areBeside_17 : decode cX6_areBeside 17 = .ok (.getfield 15, 3) := by decide +kernel
theorem dX6_areBeside_20 : decode cX6_areBeside 20 = .ok (.iload_n 1, 1) := by decide +kernel
theorem dX6_areBeside_21 : decode cX6_areBeside 21 = .ok (.iaload, 1) := by decide +kernel
theorem dX6_areBeside_22 : decode cX6_areBeside 22 = .ok (.aload_n 0, 1) := by decide +kernel
theorem dX6_areBeside_23 : decode cX6_areBeside 23 = .ok (.getfield 15, 3) := by decide +kernel
theorem dX6_areBeside_26 : decode cX6_areBeside 26 = .ok (.iload_n 2, 1) := by decide +kernel
theorem dX6_areBeside_27 : decode cX6_areBeside 27 = .ok (.iaload, 1) := by decide +kernel
theorem dX6_areBeside_28 : decode cX6_areBeside 28 = .ok (.invokestatic 67, 3) := by decide +kernel
theorem dX6_areBeside_31 : decode cX6_areBeside 31 = .ok (.iconst 1, 1) := by decide +kernel
theorem dX6_areBeside_32 : decode cX6_areBeside 32 = .ok (.if_icmp .ne 7, 3) := by decide +kernel
theorem dX6_areBeside_35 : decode cX6_areBeside 35 = .ok (.iconst 1, 1) := by decide +kernel
theorem dX6_areBeside_36 : decode cX6_areBeside 36 = .ok (.goto 4, 3) := by decide +kernel
theorem dX6_areBeside_39 : decode cX6_areBeside 39 = .ok (.iconst 0, 1) := by decide +kernel
theorem dX6_areBeside_40 : decode cX6_areBeside 40 = .ok (.ireturn, 1) := by decide +kernel
noncomputable def fX6_areBeside (N : Nat) (v_plotOf : (Nat → Int32)) (a1 : Int32) (a2 : Int32)   : Option (Int32) := (fX6_isDown N v_plotOf a1).bind (fun x_2 => if x_2 = 0 then ((fX6_isDown N v_plotOf a2).bind (fun x_10 => if x_10 = 0 then (if a1 < 0 ∨ 6 ≤ (a1).toNatClampNeg then none else (if a2 < 0 ∨ 6 ≤ (a2).toNatClampNeg then none else ((fX8_wayRound N (v_plotOf (a1).toNatClampNeg) (v_plotOf (a2).toNatClampNeg)).bind (fun x_28 => if x_28 = (1 : Int32) then (some (1 : Int32)) else (some (0 : Int32)))))) else (some (0 : Int32)))) else (some (0 : Int32)))
set_option maxHeartbeats 4000000 in
set_option maxRecDepth 100000 in
theorem wX6_areBeside {p : Program} {l : Launch} {e : Env} {R : Room} {s : State} {m : MethodId} {args : Array Value} {below : List Frame} {meth : Method} {c : Code} {cells slots : Nat} {Q : State → Prop} {D : va_G} {A : Nat → Prop} {cI cZ cG : ClassId} {q q_kindOf q_plotOf q_row q_standsOn : Nat} {v_houses : Int32} {v_front : Int32} {v_downFor : Int32} {v_plotOf : (Nat → Int32)} {a1 : Int32} {a2 : Int32} {N : Nat} {ρ : Int32} (X : CX p s m args c cX6_areBeside 3 RX6 D (TY cI cZ cG) A) (hrm : RM R 2 43 cells slots) (ret : ∀ (pc : Nat) (H : Heap) (locs : List Loc) (ls : Array Slot), narrow .boolean (.int ρ) = .int ρ → decode cX6_areBeside pc = .ok (.ireturn, 1) → WD D A [(q, .inr (6, [.ref q_kindOf, .ref q_plotOf, .ref q_row, .ref q_standsOn, .int v_houses, .int v_front, .int v_downFor])), (q_plotOf, .inl (cI, 6, .inl v_plotOf))] s.heap H locs → W p l e R s m args below meth c H locs cells slots Q (F0 m pc ls [.int ρ])) (h : fX6_areBeside N v_plotOf a1 a2   = some ρ) (H : Heap) (locs : List Loc) (ls : Array Slot) (hw : WD D A [(q, .inr (6, [.ref q_kindOf, .ref q_plotOf, .ref q_row, .ref q_standsOn, .int v_houses, .int v_front, .int v_downFor])), (q_plotOf, .inl (cI, 6, .inl v_plotOf))] s.heap H locs) (hl : lv_has ls 3 [(0, .ref q), (1, .int a1), (2, .int a2)]) : W p l e R s m args below meth c H locs cells slots Q (F0 m 0 ls []) := by
  have hx := X.1.1
  have hb := X.1.2.1
  unfold fX6_areBeside at h
  refine lv_aload_n hx hb dX6_areBeside_0 rfl (lv_at hl 0 rfl) ?_
  refine lv_iload_n hx hb dX6_areBeside_1 rfl (lv_at hl 1 rfl) ?_
  obtain ⟨x_2, hc_2, h⟩ := obd h
  refine kcV_i (ci := 6) (As := [.int a1]) (rest := []) X hw rfl rfl rfl (cX6_isDown_ct l D cI cZ cG q q_kindOf q_plotOf q_row q_standsOn v_houses v_front v_downFor v_plotOf a1 N x_2 hc_2 H.size) mX6_isDown tw_91 (hrm.call (by decide) (by decide)) [0, 1] [] rfl (by decide) rfl (by decide) (by decide) rfl hl.1 rfl (Nat.le_of_ble_eq_true rfl) dX6_areBeside_2 ⟨hrm.2.2.1, hrm.2.2.2⟩ (fun H locs hw => ?_)
  have hw : WD D A [(q, .inr (6, [.ref q_kindOf, .ref q_plotOf, .ref q_row, .ref q_standsOn, .int v_houses, .int v_front, .int v_downFor])), (q_plotOf, .inl (cI, 6, .inl v_plotOf))] s.heap H locs := hw
  refine lv_if_ne (tgt := 39) hx hb dX6_areBeside_5 (by decide) (fun c_5 => ?_) (fun c_5 => ?_)
  · have h := iff_ c_5 h
    refine lv_iconst (v := (0 : Int32)) hx hb dX6_areBeside_39 (by decide) ?_
    obtain rfl := Option.some.inj h
    exact ret _ _ _ _ rfl dX6_areBeside_40 hw
  · have h := ift c_5 h
    refine lv_aload_n hx hb dX6_areBeside_8 rfl (lv_at hl 0 rfl) ?_
    refine lv_iload_n hx hb dX6_areBeside_9 rfl (lv_at hl 2 rfl) ?_
    obtain ⟨x_10, hc_10, h⟩ := obd h
    refine kcV_i (ci := 6) (As := [.int a2]) (rest := []) X hw rfl rfl rfl (cX6_isDown_ct l D cI cZ cG q q_kindOf q_plotOf q_row q_standsOn v_houses v_front v_downFor v_plotOf a2 N x_10 hc_10 H.size) mX6_isDown tw_91 (hrm.call (by decide) (by decide)) [0, 1] [] rfl (by decide) rfl (by decide) (by decide) rfl hl.1 rfl (Nat.le_of_ble_eq_true rfl) dX6_areBeside_10 ⟨hrm.2.2.1, hrm.2.2.2⟩ (fun H locs hw => ?_)
    have hw : WD D A [(q, .inr (6, [.ref q_kindOf, .ref q_plotOf, .ref q_row, .ref q_standsOn, .int v_houses, .int v_front, .int v_downFor])), (q_plotOf, .inl (cI, 6, .inl v_plotOf))] s.heap H locs := hw
    refine lv_if_ne (tgt := 39) hx hb dX6_areBeside_13 (by decide) (fun c_13 => ?_) (fun c_13 => ?_)
    · have h := iff_ c_13 h
      refine lv_iconst (v := (0 : Int32)) hx hb dX6_areBeside_39 (by decide) ?_
      obtain rfl := Option.some.inj h
      exact ret _ _ _ _ rfl dX6_areBeside_40 hw
    · have h := ift c_13 h
      refine lv_aload_n hx hb dX6_areBeside_16 rfl (lv_at hl 0 rfl) ?_
      refine kget (ci := 6) (v := .ref q_plotOf) X hw iX6 0 rfl rfl 1 (by decide) tw_85 rfl dX6_areBeside_17 ?_
      refine lv_iload_n hx hb dX6_areBeside_20 rfl (lv_at hl 1 rfl) ?_
      obtain ⟨g_21, h⟩ := gd h
      refine kiald X hw 1 rfl rfl g_21 dX6_areBeside_21 ?_
      refine lv_aload_n hx hb dX6_areBeside_22 rfl (lv_at hl 0 rfl) ?_
      refine kget (ci := 6) (v := .ref q_plotOf) X hw iX6 0 rfl rfl 1 (by decide) tw_85 rfl dX6_areBeside_23 ?_
      refine lv_iload_n hx hb dX6_areBeside_26 rfl (lv_at hl 2 rfl) ?_
      obtain ⟨g_27, h⟩ := gd h
      refine kiald X hw 1 rfl rfl g_27 dX6_areBeside_27 ?_
      obtain ⟨x_28, hc_28, h⟩ := obd h
      refine kcSN_i (As := [.int (v_plotOf (a1).toNatClampNeg), .int (v_plotOf (a2).toNatClampNeg)]) (rest := []) X hw (cX8_wayRound_ct l D cI cZ cG (v_plotOf (a1).toNatClampNeg) (v_plotOf (a2).toNatClampNeg) N x_28 hc_28 H.size) mX8_wayRound (List.mem_of_getElem? (i := 11) rfl) (hrm.call (by decide) (by decide)) [] [0, 1] rfl (by decide) rfl (by decide) (by decide) rfl hl.1 rfl (Nat.le_of_ble_eq_true rfl) dX6_areBeside_28 ⟨hrm.2.2.1, hrm.2.2.2⟩ (fun H locs hw => ?_)
      have hw : WD D A [(q, .inr (6, [.ref q_kindOf, .ref q_plotOf, .ref q_row, .ref q_standsOn, .int v_houses, .int v_front, .int v_downFor])), (q_plotOf, .inl (cI, 6, .inl v_plotOf))] s.heap H locs := hw
      refine lv_iconst (v := (1 : Int32)) hx hb dX6_areBeside_31 (by decide) ?_
      refine lv_icmp_ne (tgt := 39) hx hb dX6_areBeside_32 (by decide) (fun c_32 => ?_) (fun c_32 => ?_)
      · have h := iff_ c_32 h
        refine lv_iconst (v := (0 : Int32)) hx hb dX6_areBeside_39 (by decide) ?_
        obtain rfl := Option.some.inj h
        exact ret _ _ _ _ rfl dX6_areBeside_40 hw
      · have h := ift c_32 h
        refine lv_iconst (v := (1 : Int32)) hx hb dX6_areBeside_35 (by decide) ?_
        refine lv_goto (tgt := 40) hx hb dX6_areBeside_36 (by decide) ?_
        obtain rfl := Option.some.inj h
        exact ret _ _ _ _ rfl dX6_areBeside_40 hw
set_option maxHeartbeats 4000000 in
set_option maxRecDepth 100000 in
theorem cX6_areBeside_ct (l : Launch) (D : va_G) (cI cZ cG : ClassId) (q q_kindOf q_plotOf q_row q_standsOn : Nat)  (v_houses : Int32) (v_front : Int32) (v_downFor : Int32) (v_plotOf : (Nat → Int32)) (a1 : Int32) (a2 : Int32) (N : Nat) (ρ : Int32) (h : fX6_areBeside N v_plotOf a1 a2   = some ρ) (sz : Nat) : Met l yX6_areBeside (wz yX6_areBeside cX6_areBeside 3 (some .boolean)) (cRm 2 43) (cPre D (TY cI cZ cG) [.ref q, .int a1, .int a2] [(q, .inr (6, [.ref q_kindOf, .ref q_plotOf, .ref q_row, .ref q_standsOn, .int v_houses, .int v_front, .int v_downFor])), (q_plotOf, .inl (cI, 6, .inl v_plotOf))] sz) (cQi D (ρ) [(q, .inr (6, [.ref q_kindOf, .ref q_plotOf, .ref q_row, .ref q_standsOn, .int v_houses, .int v_front, .int v_downFor])), (q_plotOf, .inl (cI, 6, .inl v_plotOf))] [(q, .inr (6, [.ref q_kindOf, .ref q_plotOf, .ref q_row, .ref q_standsOn, .int v_houses, .int v_front, .int v_downFor])), (q_plotOf, .inl (cI, 6, .inl v_plotOf))] sz) 0 0 (va_A [(q, .inr (6, [.ref q_kindOf, .ref q_plotOf, .ref q_row, .ref q_standsOn, .int v_houses, .int v_front, .int v_downFor])), (q_plotOf, .inl (cI, 6, .inl v_plotOf))] sz) :=
  mk_z (by decide) (Nat.le_of_ble_eq_true rfl) (fun X hrm ret hw hl => wX6_areBeside X hrm ret h _ _ _ hw hl)
theorem dX6_copyFrom_0 : decode cX6_copyFrom 0 = .ok (.aload_n 0, 1) := by decide +kernel
theorem dX6_copyFrom_1 : decode cX6_copyFrom 1 = .ok (.aload_n 1, 1) := by decide +kernel
theorem dX6_copyFrom_2 : decode cX6_copyFrom 2 = .ok (.getfield 30, 3) := by decide +kernel
theorem dX6_copyFrom_5 : decode cX6_copyFrom 5 = .ok (.putfield 30, 3) := by decide +kernel
theorem dX6_copyFrom_8 : decode cX6_copyFrom 8 = .ok (.aload_n 0, 1) := by decide +kernel
theorem dX6_copyFrom_9 : decode cX6_copyFrom 9 = .ok (.aload_n 1, 1) := by decide +kernel
theorem dX6_copyFrom_10 : decode cX6_copyFrom 10 = .ok (.getfield 34, 3) := by decide +kernel
theorem dX6_copyFrom_13 : decode cX6_copyFrom 13 = .ok (.putfield 34, 3) := by decide +kernel
theorem dX6_copyFrom_16 : decode cX6_copyFrom 16 = .ok (.aload_n 0, 1) := by decide +kernel
theorem dX6_copyFrom_17 : decode cX6_copyFrom 17 = .ok (.aload_n 1, 1) := by decide +kernel
theorem dX6_copyFrom_18 : decode cX6_copyFrom 18 = .ok (.getfield 37, 3) := by decide +kernel
theorem dX6_copyFrom_21 : decode cX6_copyFrom 21 = .ok (.putfield 37, 3) := by decide +kernel
theorem dX6_copyFrom_24 : decode cX6_copyFrom 24 = .ok (.aload_n 1, 1) := by decide +kernel
theorem dX6_copyFrom_25 : decode cX6_copyFrom 25 = .ok (.getfield 9, 3) := by decide +kernel
theorem dX6_copyFrom_28 : decode cX6_copyFrom 28 = .ok (.iconst 0, 1) := by decide +kernel
theorem dX6_copyFrom_29 : decode cX6_copyFrom 29 = .ok (.aload_n 0, 1) := by decide +kernel
theorem dX6_copyFrom_30 : decode cX6_copyFrom 30 = .ok (.getfield 9, 3) := by decide +kernel
theorem dX6_copyFrom_33 : decode cX6_copyFrom 33 = .ok (.iconst 0, 1) := by decide +kernel
theorem dX6_copyFrom_34 : decode cX6_copyFrom 34 = .ok (.bipush 6, 2) := by decide +kernel
theorem dX6_copyFrom_36 : decode cX6_copyFrom 36 = .ok (.invokestatic 40, 3) := by decide +kernel
theorem dX6_copyFrom_39 : decode cX6_copyFrom 39 = .ok (.aload_n 1, 1) := by decide +kernel
theorem dX6_copyFrom_40 : decode cX6_copyFrom 40 = .ok (.getfield 15, 3) := by decide +kernel
theorem dX6_copyFrom_43 : decode cX6_copyFrom 43 = .ok (.iconst 0, 1) := by decide +kernel
theorem dX6_copyFrom_44 : decode cX6_copyFrom 44 = .ok (.aload_n 0, 1) := by decide +kernel
theorem dX6_copyFrom_45 : decode cX6_copyFrom 45 = .ok (.getfield 15, 3) := by decide +kernel
theorem dX6_copyFrom_48 : decode cX6_copyFrom 48 = .ok (.iconst 0, 1) := by decide +kernel
theorem dX6_copyFrom_49 : decode cX6_copyFrom 49 = .ok (.bipush 6, 2) := by decide +kernel
theorem dX6_copyFrom_51 : decode cX6_copyFrom 51 = .ok (.invokestatic 40, 3) := by decide +kernel
theorem dX6_copyFrom_54 : decode cX6_copyFrom 54 = .ok (.aload_n 1, 1) := by decide +kernel
theorem dX6_copyFrom_55 : decode cX6_copyFrom 55 = .ok (.getfield 18, 3) := by decide +kernel
theorem dX6_copyFrom_58 : decode cX6_copyFrom 58 = .ok (.iconst 0, 1) := by decide +kernel
theorem dX6_copyFrom_59 : decode cX6_copyFrom 59 = .ok (.aload_n 0, 1) := by decide +kernel
theorem dX6_copyFrom_60 : decode cX6_copyFrom 60 = .ok (.getfield 18, 3) := by decide +kernel
theorem dX6_copyFrom_63 : decode cX6_copyFrom 63 = .ok (.iconst 0, 1) := by decide +kernel
theorem dX6_copyFrom_64 : decode cX6_copyFrom 64 = .ok (.bipush 6, 2) := by decide +kernel
theorem dX6_copyFrom_66 : decode cX6_copyFrom 66 = .ok (.invokestatic 40, 3) := by decide +kernel
theorem dX6_copyFrom_69 : decode cX6_copyFrom 69 = .ok (.aload_n 1, 1) := by decide +kernel
theorem dX6_copyFrom_70 : decode cX6_copyFrom 70 = .ok (.getfield 21, 3) := by decide +kernel
theorem dX6_copyFrom_73 : decode cX6_copyFrom 73 = .ok (.iconst 0, 1) := by decide +kernel
theorem dX6_copyFrom_74 : decode cX6_copyFrom 74 = .ok (.aload_n 0, 1) := by decide +kernel
theorem dX6_copyFrom_75 : decode cX6_copyFrom 75 = .ok (.getfield 21, 3) := by decide +kernel
theorem dX6_copyFrom_78 : decode cX6_copyFrom 78 = .ok (.iconst 0, 1) := by decide +kernel
theorem dX6_copyFrom_79 : decode cX6_copyFrom 79 = .ok (.bipush 12, 2) := by decide +kernel
theorem dX6_copyFrom_81 : decode cX6_copyFrom 81 = .ok (.invokestatic 40, 3) := by decide +kernel
theorem dX6_copyFrom_84 : decode cX6_copyFrom 84 = .ok (.return_, 1) := by decide +kernel
noncomputable def fX6_copyFrom (N : Nat) (w1_houses : Int32) (w1_front : Int32) (w1_downFor : Int32) (w1_kindOf : (Nat → Int32)) (w1_plotOf : (Nat → Int32)) (w1_row : (Nat → Int32)) (w1_standsOn : (Nat → Int32)) (v_houses : Int32) (v_front : Int32) (v_downFor : Int32) (v_kindOf : (Nat → Int32)) (v_plotOf : (Nat → Int32)) (v_row : (Nat → Int32)) (v_standsOn : (Nat → Int32))  : Option (Int32 × Int32 × Int32 × (Nat → Int32) × (Nat → Int32) × (Nat → Int32) × (Nat → Int32)) := some (w1_houses, w1_front, w1_downFor, (va_cpy w1_kindOf v_kindOf 0 0 ((6 : Int32)).toNatClampNeg), (va_cpy w1_plotOf v_plotOf 0 0 ((6 : Int32)).toNatClampNeg), (va_cpy w1_row v_row 0 0 ((6 : Int32)).toNatClampNeg), (va_cpy w1_standsOn v_standsOn 0 0 ((12 : Int32)).toNatClampNeg))
set_option maxHeartbeats 4000000 in
set_option maxRecDepth 100000 in
theorem wX6_copyFrom {p : Program} {l : Launch} {e : Env} {R : Room} {s : State} {m : MethodId} {args : Array Value} {below : List Frame} {meth : Method} {c : Code} {cells slots : Nat} {Q : State → Prop} {D : va_G} {A : Nat → Prop} {cI cZ cG : ClassId} {q q_kindOf q_plotOf q_row q_standsOn q1 q1_kindOf q1_plotOf q1_row q1_standsOn : Nat} {v_houses : Int32} {v_front : Int32} {v_downFor : Int32} {w1_houses : Int32} {w1_front : Int32} {w1_downFor : Int32} {w1_kindOf : (Nat → Int32)} {v_kindOf : (Nat → Int32)} {w1_plotOf : (Nat → Int32)} {v_plotOf : (Nat → Int32)} {w1_row : (Nat → Int32)} {v_row : (Nat → Int32)} {w1_standsOn : (Nat → Int32)} {v_standsOn : (Nat → Int32)} {N : Nat} {ρ : Int32 × Int32 × Int32 × (Nat → Int32) × (Nat → Int32) × (Nat → Int32) × (Nat → Int32)} (X : CX p s m args c cX6_copyFrom 2 RX6 D (TY cI cZ cG) A) (hrm : RM R 1 40 cells slots) (ret : ∀ (pc : Nat) (H : Heap) (locs : List Loc) (ls : Array Slot), decode cX6_copyFrom pc = .ok (.return_, 1) → WD D A [(q, .inr (6, [.ref q_kindOf, .ref q_plotOf, .ref q_row, .ref q_standsOn, .int ρ.1, .int ρ.2.1, .int ρ.2.2.1])), (q1, .inr (6, [.ref q1_kindOf, .ref q1_plotOf, .ref q1_row, .ref q1_standsOn, .int w1_houses, .int w1_front, .int w1_downFor])), (q1_kindOf, .inl (cI, 6, .inl w1_kindOf)), (q_kindOf, .inl (cI, 6, .inl ρ.2.2.2.1)), (q1_plotOf, .inl (cI, 6, .inl w1_plotOf)), (q_plotOf, .inl (cI, 6, .inl ρ.2.2.2.2.1)), (q1_row, .inl (cI, 6, .inl w1_row)), (q_row, .inl (cI, 6, .inl ρ.2.2.2.2.2.1)), (q1_standsOn, .inl (cI, 12, .inl w1_standsOn)), (q_standsOn, .inl (cI, 12, .inl ρ.2.2.2.2.2.2))] s.heap H locs → W p l e R s m args below meth c H locs cells slots Q (F0 m pc ls [])) (h : fX6_copyFrom N w1_houses w1_front w1_downFor w1_kindOf w1_plotOf w1_row w1_standsOn v_houses v_front v_downFor v_kindOf v_plotOf v_row v_standsOn  = some ρ) (H : Heap) (locs : List Loc) (ls : Array Slot) (hw : WD D A [(q, .inr (6, [.ref q_kindOf, .ref q_plotOf, .ref q_row, .ref q_standsOn, .int v_houses, .int v_front, .int v_downFor])), (q1, .inr (6, [.ref q1_kindOf, .ref q1_plotOf, .ref q1_row, .ref q1_standsOn, .int w1_houses, .int w1_front, .int w1_downFor])), (q1_kindOf, .inl (cI, 6, .inl w1_kindOf)), (q_kindOf, .inl (cI, 6, .inl v_kindOf)), (q1_plotOf, .inl (cI, 6, .inl w1_plotOf)), (q_plotOf, .inl (cI, 6, .inl v_plotOf)), (q1_row, .inl (cI, 6, .inl w1_row)), (q_row, .inl (cI, 6, .inl v_row)), (q1_standsOn, .inl (cI, 12, .inl w1_standsOn)), (q_standsOn, .inl (cI, 12, .inl v_standsOn))] s.heap H locs) (hl : lv_has ls 2 [(0, .ref q), (1, .ref q1)]) : W p l e R s m args below meth c H locs cells slots Q (F0 m 0 ls []) := by
  have hx := X.1.1
  have hb := X.1.2.1
  unfold fX6_copyFrom at h
  refine lv_aload_n hx hb dX6_copyFrom_0 rfl (lv_at hl 0 rfl) ?_
  refine lv_aload_n hx hb dX6_copyFrom_1 rfl (lv_at hl 1 rfl) ?_
  refine kget (ci := 6) (v := .int w1_houses) X hw iX6 1 rfl rfl 4 (by decide) tw_90 rfl dX6_copyFrom_2 ?_
  refine kput (ci := 6) (v := .int w1_houses) (ty := .int) X hw iX6 tyX6_ok nmX6 0 rfl rfl 4 (by decide) tw_90 rfl rfl rfl rfl (Nat.le_of_ble_eq_true rfl) dX6_copyFrom_5 (fun H locs hw => ?_)
  have hw : WD D A [(q, .inr (6, [.ref q_kindOf, .ref q_plotOf, .ref q_row, .ref q_standsOn, .int w1_houses, .int v_front, .int v_downFor])), (q1, .inr (6, [.ref q1_kindOf, .ref q1_plotOf, .ref q1_row, .ref q1_standsOn, .int w1_houses, .int w1_front, .int w1_downFor])), (q1_kindOf, .inl (cI, 6, .inl w1_kindOf)), (q_kindOf, .inl (cI, 6, .inl v_kindOf)), (q1_plotOf, .inl (cI, 6, .inl w1_plotOf)), (q_plotOf, .inl (cI, 6, .inl v_plotOf)), (q1_row, .inl (cI, 6, .inl w1_row)), (q_row, .inl (cI, 6, .inl v_row)), (q1_standsOn, .inl (cI, 12, .inl w1_standsOn)), (q_standsOn, .inl (cI, 12, .inl v_standsOn))] s.heap H locs := hw
  refine lv_aload_n hx hb dX6_copyFrom_8 rfl (lv_at hl 0 rfl) ?_
  refine lv_aload_n hx hb dX6_copyFrom_9 rfl (lv_at hl 1 rfl) ?_
  refine kget (ci := 6) (v := .int w1_front) X hw iX6 1 rfl rfl 5 (by decide) tw_108 rfl dX6_copyFrom_10 ?_
  refine kput (ci := 6) (v := .int w1_front) (ty := .int) X hw iX6 tyX6_ok nmX6 0 rfl rfl 5 (by decide) tw_108 rfl rfl rfl rfl (Nat.le_of_ble_eq_true rfl) dX6_copyFrom_13 (fun H locs hw => ?_)
  have hw : WD D A [(q, .inr (6, [.ref q_kindOf, .ref q_plotOf, .ref q_row, .ref q_standsOn, .int w1_houses, .int w1_front, .int v_downFor])), (q1, .inr (6, [.ref q1_kindOf, .ref q1_plotOf, .ref q1_row, .ref q1_standsOn, .int w1_houses, .int w1_front, .int w1_downFor])), (q1_kindOf, .inl (cI, 6, .inl w1_kindOf)), (q_kindOf, .inl (cI, 6, .inl v_kindOf)), (q1_plotOf, .inl (cI, 6, .inl w1_plotOf)), (q_plotOf, .inl (cI, 6, .inl v_plotOf)), (q1_row, .inl (cI, 6, .inl w1_row)), (q_row, .inl (cI, 6, .inl v_row)), (q1_standsOn, .inl (cI, 12, .inl w1_standsOn)), (q_standsOn, .inl (cI, 12, .inl v_standsOn))] s.heap H locs := hw
  refine lv_aload_n hx hb dX6_copyFrom_16 rfl (lv_at hl 0 rfl) ?_
  refine lv_aload_n hx hb dX6_copyFrom_17 rfl (lv_at hl 1 rfl) ?_
  refine kget (ci := 6) (v := .int w1_downFor) X hw iX6 1 rfl rfl 6 (by decide) tw_109 rfl dX6_copyFrom_18 ?_
  refine kput (ci := 6) (v := .int w1_downFor) (ty := .int) X hw iX6 tyX6_ok nmX6 0 rfl rfl 6 (by decide) tw_109 rfl rfl rfl rfl (Nat.le_of_ble_eq_true rfl) dX6_copyFrom_21 (fun H locs hw => ?_)
  have hw : WD D A [(q, .inr (6, [.ref q_kindOf, .ref q_plotOf, .ref q_row, .ref q_standsOn, .int w1_houses, .int w1_front, .int w1_downFor])), (q1, .inr (6, [.ref q1_kindOf, .ref q1_plotOf, .ref q1_row, .ref q1_standsOn, .int w1_houses, .int w1_front, .int w1_downFor])), (q1_kindOf, .inl (cI, 6, .inl w1_kindOf)), (q_kindOf, .inl (cI, 6, .inl v_kindOf)), (q1_plotOf, .inl (cI, 6, .inl w1_plotOf)), (q_plotOf, .inl (cI, 6, .inl v_plotOf)), (q1_row, .inl (cI, 6, .inl w1_row)), (q_row, .inl (cI, 6, .inl v_row)), (q1_standsOn, .inl (cI, 12, .inl w1_standsOn)), (q_standsOn, .inl (cI, 12, .inl v_standsOn))] s.heap H locs := hw
  refine lv_aload_n hx hb dX6_copyFrom_24 rfl (lv_at hl 1 rfl) ?_
  refine kget (ci := 6) (v := .ref q1_kindOf) X hw iX6 1 rfl rfl 0 (by decide) tw_110 rfl dX6_copyFrom_25 ?_
  refine lv_iconst (v := (0 : Int32)) hx hb dX6_copyFrom_28 (by decide) ?_
  refine lv_aload_n hx hb dX6_copyFrom_29 rfl (lv_at hl 0 rfl) ?_
  refine kget (ci := 6) (v := .ref q_kindOf) X hw iX6 0 rfl rfl 0 (by decide) tw_110 rfl dX6_copyFrom_30 ?_
  refine lv_iconst (v := (0 : Int32)) hx hb dX6_copyFrom_33 (by decide) ?_
  refine lv_bipush (v := (6 : Int32)) hx hb dX6_copyFrom_34 (by decide) ?_
  refine kcopy X hw hl.1 tw_111 tw_112 tw_113 tw_114 2 3 rfl rfl rfl (by decide) (Nat.le_trans (by decide) hrm.1) (Nat.le_trans (Nat.le_of_ble_eq_true rfl) hrm.2.1) dX6_copyFrom_36 (fun H locs hw => ?_)
  have hw : WD D A [(q, .inr (6, [.ref q_kindOf, .ref q_plotOf, .ref q_row, .ref q_standsOn, .int w1_houses, .int w1_front, .int w1_downFor])), (q1, .inr (6, [.ref q1_kindOf, .ref q1_plotOf, .ref q1_row, .ref q1_standsOn, .int w1_houses, .int w1_front, .int w1_downFor])), (q1_kindOf, .inl (cI, 6, .inl w1_kindOf)), (q_kindOf, .inl (cI, 6, .inl (va_cpy w1_kindOf v_kindOf 0 0 ((6 : Int32)).toNatClampNeg))), (q1_plotOf, .inl (cI, 6, .inl w1_plotOf)), (q_plotOf, .inl (cI, 6, .inl v_plotOf)), (q1_row, .inl (cI, 6, .inl w1_row)), (q_row, .inl (cI, 6, .inl v_row)), (q1_standsOn, .inl (cI, 12, .inl w1_standsOn)), (q_standsOn, .inl (cI, 12, .inl v_standsOn))] s.heap H locs := hw
  refine lv_aload_n hx hb dX6_copyFrom_39 rfl (lv_at hl 1 rfl) ?_
  refine kget (ci := 6) (v := .ref q1_plotOf) X hw iX6 1 rfl rfl 1 (by decide) tw_85 rfl dX6_copyFrom_40 ?_
  refine lv_iconst (v := (0 : Int32)) hx hb dX6_copyFrom_43 (by decide) ?_
  refine lv_aload_n hx hb dX6_copyFrom_44 rfl (lv_at hl 0 rfl) ?_
  refine kget (ci := 6) (v := .ref q_plotOf) X hw iX6 0 rfl rfl 1 (by decide) tw_85 rfl dX6_copyFrom_45 ?_
  refine lv_iconst (v := (0 : Int32)) hx hb dX6_copyFrom_48 (by decide) ?_
  refine lv_bipush (v := (6 : Int32)) hx hb dX6_copyFrom_49 (by decide) ?_
  refine kcopy X hw hl.1 tw_111 tw_112 tw_113 tw_114 4 5 rfl rfl rfl (by decide) (Nat.le_trans (by decide) hrm.1) (Nat.le_trans (Nat.le_of_ble_eq_true rfl) hrm.2.1) dX6_copyFrom_51 (fun H locs hw => ?_)
  have hw : WD D A [(q, .inr (6, [.ref q_kindOf, .ref q_plotOf, .ref q_row, .ref q_standsOn, .int w1_houses, .int w1_front, .int w1_downFor])), (q1, .inr (6, [.ref q1_kindOf, .ref q1_plotOf, .ref q1_row, .ref q1_standsOn, .int w1_houses, .int w1_front, .int w1_downFor])), (q1_kindOf, .inl (cI, 6, .inl w1_kindOf)), (q_kindOf, .inl (cI, 6, .inl (va_cpy w1_kindOf v_kindOf 0 0 ((6 : Int32)).toNatClampNeg))), (q1_plotOf, .inl (cI, 6, .inl w1_plotOf)), (q_plotOf, .inl (cI, 6, .inl (va_cpy w1_plotOf v_plotOf 0 0 ((6 : Int32)).toNatClampNeg))), (q1_row, .inl (cI, 6, .inl w1_row)), (q_row, .inl (cI, 6, .inl v_row)), (q1_standsOn, .inl (cI, 12, .inl w1_standsOn)), (q_standsOn, .inl (cI, 12, .inl v_standsOn))] s.heap H locs := hw
  refine lv_aload_n hx hb dX6_copyFrom_54 rfl (lv_at hl 1 rfl) ?_
  refine kget (ci := 6) (v := .ref q1_row) X hw iX6 1 rfl rfl 2 (by decide) tw_115 rfl dX6_copyFrom_55 ?_
  refine lv_iconst (v := (0 : Int32)) hx hb dX6_copyFrom_58 (by decide) ?_
  refine lv_aload_n hx hb dX6_copyFrom_59 rfl (lv_at hl 0 rfl) ?_
  refine kget (ci := 6) (v := .ref q_row) X hw iX6 0 rfl rfl 2 (by decide) tw_115 rfl dX6_copyFrom_60 ?_
  refine lv_iconst (v := (0 : Int32)) hx hb dX6_copyFrom_63 (by decide) ?_
  refine lv_bipush (v := (6 : Int32)) hx hb dX6_copyFrom_64 (by decide) ?_
  refine kcopy X hw hl.1 tw_111 tw_112 tw_113 tw_114 6 7 rfl rfl rfl (by decide) (Nat.le_trans (by decide) hrm.1) (Nat.le_trans (Nat.le_of_ble_eq_true rfl) hrm.2.1) dX6_copyFrom_66 (fun H locs hw => ?_)
  have hw : WD D A [(q, .inr (6, [.ref q_kindOf, .ref q_plotOf, .ref q_row, .ref q_standsOn, .int w1_houses, .int w1_front, .int w1_downFor])), (q1, .inr (6, [.ref q1_kindOf, .ref q1_plotOf, .ref q1_row, .ref q1_standsOn, .int w1_houses, .int w1_front, .int w1_downFor])), (q1_kindOf, .inl (cI, 6, .inl w1_kindOf)), (q_kindOf, .inl (cI, 6, .inl (va_cpy w1_kindOf v_kindOf 0 0 ((6 : Int32)).toNatClampNeg))), (q1_plotOf, .inl (cI, 6, .inl w1_plotOf)), (q_plotOf, .inl (cI, 6, .inl (va_cpy w1_plotOf v_plotOf 0 0 ((6 : Int32)).toNatClampNeg))), (q1_row, .inl (cI, 6, .inl w1_row)), (q_row, .inl (cI, 6, .inl (va_cpy w1_row v_row 0 0 ((6 : Int32)).toNatClampNeg))), (q1_standsOn, .inl (cI, 12, .inl w1_standsOn)), (q_standsOn, .inl (cI, 12, .inl v_standsOn))] s.heap H locs := hw
  refine lv_aload_n hx hb dX6_copyFrom_69 rfl (lv_at hl 1 rfl) ?_
  refine kget (ci := 6) (v := .ref q1_standsOn) X hw iX6 1 rfl rfl 3 (by decide) tw_116 rfl dX6_copyFrom_70 ?_
  refine lv_iconst (v := (0 : Int32)) hx hb dX6_copyFrom_73 (by decide) ?_
  refine lv_aload_n hx hb dX6_copyFrom_74 rfl (lv_at hl 0 rfl) ?_
  refine kget (ci := 6) (v := .ref q_standsOn) X hw iX6 0 rfl rfl 3 (by decide) tw_116 rfl dX6_copyFrom_75 ?_
  refine lv_iconst (v := (0 : Int32)) hx hb dX6_copyFrom_78 (by decide) ?_
  refine lv_bipush (v := (12 : Int32)) hx hb dX6_copyFrom_79 (by decide) ?_
  refine kcopy X hw hl.1 tw_111 tw_112 tw_113 tw_114 8 9 rfl rfl rfl (by decide) (Nat.le_trans (by decide) hrm.1) (Nat.le_trans (Nat.le_of_ble_eq_true rfl) hrm.2.1) dX6_copyFrom_81 (fun H locs hw => ?_)
  have hw : WD D A [(q, .inr (6, [.ref q_kindOf, .ref q_plotOf, .ref q_row, .ref q_standsOn, .int w1_houses, .int w1_front, .int w1_downFor])), (q1, .inr (6, [.ref q1_kindOf, .ref q1_plotOf, .ref q1_row, .ref q1_standsOn, .int w1_houses, .int w1_front, .int w1_downFor])), (q1_kindOf, .inl (cI, 6, .inl w1_kindOf)), (q_kindOf, .inl (cI, 6, .inl (va_cpy w1_kindOf v_kindOf 0 0 ((6 : Int32)).toNatClampNeg))), (q1_plotOf, .inl (cI, 6, .inl w1_plotOf)), (q_plotOf, .inl (cI, 6, .inl (va_cpy w1_plotOf v_plotOf 0 0 ((6 : Int32)).toNatClampNeg))), (q1_row, .inl (cI, 6, .inl w1_row)), (q_row, .inl (cI, 6, .inl (va_cpy w1_row v_row 0 0 ((6 : Int32)).toNatClampNeg))), (q1_standsOn, .inl (cI, 12, .inl w1_standsOn)), (q_standsOn, .inl (cI, 12, .inl (va_cpy w1_standsOn v_standsOn 0 0 ((12 : Int32)).toNatClampNeg)))] s.heap H locs := hw
  obtain rfl := Option.some.inj h
  exact ret _ _ _ _ dX6_copyFrom_84 hw
set_option maxHeartbeats 4000000 in
set_option maxRecDepth 100000 in
theorem cX6_copyFrom_ct (l : Launch) (D : va_G) (cI cZ cG : ClassId) (q q_kindOf q_plotOf q_row q_standsOn q1 q1_kindOf q1_plotOf q1_row q1_standsOn : Nat)  (v_houses : Int32) (v_front : Int32) (v_downFor : Int32) (w1_houses : Int32) (w1_front : Int32) (w1_downFor : Int32) (w1_kindOf : (Nat → Int32)) (v_kindOf : (Nat → Int32)) (w1_plotOf : (Nat → Int32)) (v_plotOf : (Nat → Int32)) (w1_row : (Nat → Int32)) (v_row : (Nat → Int32)) (w1_standsOn : (Nat → Int32)) (v_standsOn : (Nat → Int32))  (N : Nat) (ρ : Int32 × Int32 × Int32 × (Nat → Int32) × (Nat → Int32) × (Nat → Int32) × (Nat → Int32)) (h : fX6_copyFrom N w1_houses w1_front w1_downFor w1_kindOf w1_plotOf w1_row w1_standsOn v_houses v_front v_downFor v_kindOf v_plotOf v_row v_standsOn  = some ρ) (sz : Nat) : Met l yX6_copyFrom (wz yX6_copyFrom cX6_copyFrom 2 none) (cRm 1 40) (cPre D (TY cI cZ cG) [.ref q, .ref q1] [(q, .inr (6, [.ref q_kindOf, .ref q_plotOf, .ref q_row, .ref q_standsOn, .int v_houses, .int v_front, .int v_downFor])), (q1, .inr (6, [.ref q1_kindOf, .ref q1_plotOf, .ref q1_row, .ref q1_standsOn, .int w1_houses, .int w1_front, .int w1_downFor])), (q1_kindOf, .inl (cI, 6, .inl w1_kindOf)), (q_kindOf, .inl (cI, 6, .inl v_kindOf)), (q1_plotOf, .inl (cI, 6, .inl w1_plotOf)), (q_plotOf, .inl (cI, 6, .inl v_plotOf)), (q1_row, .inl (cI, 6, .inl w1_row)), (q_row, .inl (cI, 6, .inl v_row)), (q1_standsOn, .inl (cI, 12, .inl w1_standsOn)), (q_standsOn, .inl (cI, 12, .inl v_standsOn))] sz) (cQv D [(q, .inr (6, [.ref q_kindOf, .ref q_plotOf, .ref q_row, .ref q_standsOn, .int v_houses, .int v_front, .int v_downFor])), (q1, .inr (6, [.ref q1_kindOf, .ref q1_plotOf, .ref q1_row, .ref q1_standsOn, .int w1_houses, .int w1_front, .int w1_downFor])), (q1_kindOf, .inl (cI, 6, .inl w1_kindOf)), (q_kindOf, .inl (cI, 6, .inl v_kindOf)), (q1_plotOf, .inl (cI, 6, .inl w1_plotOf)), (q_plotOf, .inl (cI, 6, .inl v_plotOf)), (q1_row, .inl (cI, 6, .inl w1_row)), (q_row, .inl (cI, 6, .inl v_row)), (q1_standsOn, .inl (cI, 12, .inl w1_standsOn)), (q_standsOn, .inl (cI, 12, .inl v_standsOn))] [(q, .inr (6, [.ref q_kindOf, .ref q_plotOf, .ref q_row, .ref q_standsOn, .int ρ.1, .int ρ.2.1, .int ρ.2.2.1])), (q1, .inr (6, [.ref q1_kindOf, .ref q1_plotOf, .ref q1_row, .ref q1_standsOn, .int w1_houses, .int w1_front, .int w1_downFor])), (q1_kindOf, .inl (cI, 6, .inl w1_kindOf)), (q_kindOf, .inl (cI, 6, .inl ρ.2.2.2.1)), (q1_plotOf, .inl (cI, 6, .inl w1_plotOf)), (q_plotOf, .inl (cI, 6, .inl ρ.2.2.2.2.1)), (q1_row, .inl (cI, 6, .inl w1_row)), (q_row, .inl (cI, 6, .inl ρ.2.2.2.2.2.1)), (q1_standsOn, .inl (cI, 12, .inl w1_standsOn)), (q_standsOn, .inl (cI, 12, .inl ρ.2.2.2.2.2.2))] sz) 0 0 (va_A [(q, .inr (6, [.ref q_kindOf, .ref q_plotOf, .ref q_row, .ref q_standsOn, .int v_houses, .int v_front, .int v_downFor])), (q1, .inr (6, [.ref q1_kindOf, .ref q1_plotOf, .ref q1_row, .ref q1_standsOn, .int w1_houses, .int w1_front, .int w1_downFor])), (q1_kindOf, .inl (cI, 6, .inl w1_kindOf)), (q_kindOf, .inl (cI, 6, .inl v_kindOf)), (q1_plotOf, .inl (cI, 6, .inl w1_plotOf)), (q_plotOf, .inl (cI, 6, .inl v_plotOf)), (q1_row, .inl (cI, 6, .inl w1_row)), (q_row, .inl (cI, 6, .inl v_row)), (q1_standsOn, .inl (cI, 12, .inl w1_standsOn)), (q_standsOn, .inl (cI, 12, .inl v_standsOn))] sz) :=
  mk_v (by decide) (Nat.le_of_ble_eq_true rfl) (fun X hrm ret hw hl => wX6_copyFrom X hrm ret h _ _ _ hw hl)
theorem dX2_copyFrom_0 : decode cX2_copyFrom 0 = .ok (.aload_n 0, 1) := by decide +kernel
theorem dX2_copyFrom_1 : decode cX2_copyFrom 1 = .ok (.aload_n 1, 1) := by decide +kernel
theorem dX2_copyFrom_2 : decode cX2_copyFrom 2 = .ok (.getfield 27, 3) := by decide +kernel
theorem dX2_copyFrom_5 : decode cX2_copyFrom 5 = .ok (.aload_n 0, 1) := by decide +kernel
theorem dX2_copyFrom_6 : decode cX2_copyFrom 6 = .ok (.getfield 15, 3) := by decide +kernel
theorem dX2_copyFrom_9 : decode cX2_copyFrom 9 = .ok (.arraylength, 1) := by decide +kernel
theorem dX2_copyFrom_10 : decode cX2_copyFrom 10 = .ok (.invokestatic 31, 3) := by decide +kernel
theorem dX2_copyFrom_13 : decode cX2_copyFrom 13 = .ok (.putfield 27, 3) := by decide +kernel
theorem dX2_copyFrom_16 : decode cX2_copyFrom 16 = .ok (.aload_n 1, 1) := by decide +kernel
theorem dX2_copyFrom_17 : decode cX2_copyFrom 17 = .ok (.getfield 15, 3) := by decide +kernel
theorem dX2_copyFrom_20 : decode cX2_copyFrom 20 = .ok (.iconst 0, 1) := by decide +kernel
theorem dX2_copyFrom_21 : decode cX2_copyFrom 21 = .ok (.aload_n 0, 1) := by decide +kernel
theorem dX2_copyFrom_22 : decode cX2_copyFrom 22 = .ok (.getfield 15, 3) := by decide +kernel
theorem dX2_copyFrom_25 : decode cX2_copyFrom 25 = .ok (.iconst 0, 1) := by decide +kernel
theorem dX2_copyFrom_26 : decode cX2_copyFrom 26 = .ok (.aload_n 0, 1) := by decide +kernel
theorem dX2_copyFrom_27 : decode cX2_copyFrom 27 = .ok (.getfield 27, 3) := by decide +kernel
theorem dX2_copyFrom_30 : decode cX2_copyFrom 30 = .ok (.invokestatic 34, 3) := by decide +kernel
theorem dX2_copyFrom_33 : decode cX2_copyFrom 33 = .ok (.aload_n 1, 1) := by decide +kernel
theorem dX2_copyFrom_34 : decode cX2_copyFrom 34 = .ok (.getfield 21, 3) := by decide +kernel
theorem dX2_copyFrom_37 : decode cX2_copyFrom 37 = .ok (.iconst 0, 1) := by decide +kernel
theorem dX2_copyFrom_38 : decode cX2_copyFrom 38 = .ok (.aload_n 0, 1) := by decide +kernel
theorem dX2_copyFrom_39 : decode cX2_copyFrom 39 = .ok (.getfield 21, 3) := by decide +kernel
theorem dX2_copyFrom_42 : decode cX2_copyFrom 42 = .ok (.iconst 0, 1) := by decide +kernel
theorem dX2_copyFrom_43 : decode cX2_copyFrom 43 = .ok (.aload_n 0, 1) := by decide +kernel
theorem dX2_copyFrom_44 : decode cX2_copyFrom 44 = .ok (.getfield 27, 3) := by decide +kernel
theorem dX2_copyFrom_47 : decode cX2_copyFrom 47 = .ok (.invokestatic 34, 3) := by decide +kernel
theorem dX2_copyFrom_50 : decode cX2_copyFrom 50 = .ok (.aload_n 1, 1) := by decide +kernel
theorem dX2_copyFrom_51 : decode cX2_copyFrom 51 = .ok (.getfield 24, 3) := by decide +kernel
theorem dX2_copyFrom_54 : decode cX2_copyFrom 54 = .ok (.iconst 0, 1) := by decide +kernel
theorem dX2_copyFrom_55 : decode cX2_copyFrom 55 = .ok (.aload_n 0, 1) := by decide +kernel
theorem dX2_copyFrom_56 : decode cX2_copyFrom 56 = .ok (.getfield 24, 3) := by decide +kernel
theorem dX2_copyFrom_59 : decode cX2_copyFrom 59 = .ok (.iconst 0, 1) := by decide +kernel
theorem dX2_copyFrom_60 : decode cX2_copyFrom 60 = .ok (.aload_n 0, 1) := by decide +kernel
theorem dX2_copyFrom_61 : decode cX2_copyFrom 61 = .ok (.getfield 27, 3) := by decide +kernel
theorem dX2_copyFrom_64 : decode cX2_copyFrom 64 = .ok (.invokestatic 34, 3) := by decide +kernel
theorem dX2_copyFrom_67 : decode cX2_copyFrom 67 = .ok (.return_, 1) := by decide +kernel
noncomputable def fX2_copyFrom (N : Nat) (n_o : Nat) (n_a1 : Nat) (w1_size : Int32) (w1_house : (Nat → Int32)) (w1_plot : (Nat → Int32)) (w1_night : (Nat → Int32)) (v_size : Int32) (v_house : (Nat → Int32)) (v_plot : (Nat → Int32)) (v_night : (Nat → Int32))  : Option (Int32 × (Nat → Int32) × (Nat → Int32) × (Nat → Int32)) := if (if (Int32.ofNat n_o) < w1_size then (Int32.ofNat n_o) else w1_size) < 0 ∨ n_a1 < ((if (Int32.ofNat n_o) < w1_size then (Int32.ofNat n_o) else w1_size)).toNatClampNeg ∨ n_o < ((if (Int32.ofNat n_o) < w1_size then (Int32.ofNat n_o) else w1_size)).toNatClampNeg then none else (if (if (Int32.ofNat n_o) < w1_size then (Int32.ofNat n_o) else w1_size) < 0 ∨ n_a1 < ((if (Int32.ofNat n_o) < w1_size then (Int32.ofNat n_o) else w1_size)).toNatClampNeg ∨ n_o < ((if (Int32.ofNat n_o) < w1_size then (Int32.ofNat n_o) else w1_size)).toNatClampNeg then none else (if (if (Int32.ofNat n_o) < w1_size then (Int32.ofNat n_o) else w1_size) < 0 ∨ n_a1 < ((if (Int32.ofNat n_o) < w1_size then (Int32.ofNat n_o) else w1_size)).toNatClampNeg ∨ n_o < ((if (Int32.ofNat n_o) < w1_size then (Int32.ofNat n_o) else w1_size)).toNatClampNeg then none else (some ((if (Int32.ofNat n_o) < w1_size then (Int32.ofNat n_o) else w1_size), (va_cpy w1_house v_house 0 0 ((if (Int32.ofNat n_o) < w1_size then (Int32.ofNat n_o) else w1_size)).toNatClampNeg), (va_cpy w1_plot v_plot 0 0 ((if (Int32.ofNat n_o) < w1_size then (Int32.ofNat n_o) else w1_size)).toNatClampNeg), (va_cpy w1_night v_night 0 0 ((if (Int32.ofNat n_o) < w1_size then (Int32.ofNat n_o) else w1_size)).toNatClampNeg)))))
set_option maxHeartbeats 4000000 in
set_option maxRecDepth 100000 in
theorem wX2_copyFrom {p : Program} {l : Launch} {e : Env} {R : Room} {s : State} {m : MethodId} {args : Array Value} {below : List Frame} {meth : Method} {c : Code} {cells slots : Nat} {Q : State → Prop} {D : va_G} {A : Nat → Prop} {cI cZ cG : ClassId} {q q_house q_plot q_night q1 q1_house q1_plot q1_night : Nat} {n_o n_a1 : Nat} {v_size : Int32} {w1_size : Int32} {v_house : (Nat → Int32)} {w1_house : (Nat → Int32)} {w1_plot : (Nat → Int32)} {v_plot : (Nat → Int32)} {w1_night : (Nat → Int32)} {v_night : (Nat → Int32)} {N : Nat} {ρ : Int32 × (Nat → Int32) × (Nat → Int32) × (Nat → Int32)} (X : CX p s m args c cX2_copyFrom 2 RX2 D (TY cI cZ cG) A) (hrm : RM R 1 40 cells slots) (ret : ∀ (pc : Nat) (H : Heap) (locs : List Loc) (ls : Array Slot), decode cX2_copyFrom pc = .ok (.return_, 1) → WD D A [(q, .inr (2, [.ref q_house, .ref q_plot, .ref q_night, .int ρ.1])), (q1, .inr (2, [.ref q1_house, .ref q1_plot, .ref q1_night, .int w1_size])), (q_house, .inl (cI, n_o, .inl ρ.2.1)), (q1_house, .inl (cI, n_a1, .inl w1_house)), (q1_plot, .inl (cI, n_a1, .inl w1_plot)), (q_plot, .inl (cI, n_o, .inl ρ.2.2.1)), (q1_night, .inl (cI, n_a1, .inl w1_night)), (q_night, .inl (cI, n_o, .inl ρ.2.2.2))] s.heap H locs → W p l e R s m args below meth c H locs cells slots Q (F0 m pc ls [])) (h : fX2_copyFrom N n_o n_a1 w1_size w1_house w1_plot w1_night v_size v_house v_plot v_night  = some ρ) (H : Heap) (locs : List Loc) (ls : Array Slot) (hw : WD D A [(q, .inr (2, [.ref q_house, .ref q_plot, .ref q_night, .int v_size])), (q1, .inr (2, [.ref q1_house, .ref q1_plot, .ref q1_night, .int w1_size])), (q_house, .inl (cI, n_o, .inl v_house)), (q1_house, .inl (cI, n_a1, .inl w1_house)), (q1_plot, .inl (cI, n_a1, .inl w1_plot)), (q_plot, .inl (cI, n_o, .inl v_plot)), (q1_night, .inl (cI, n_a1, .inl w1_night)), (q_night, .inl (cI, n_o, .inl v_night))] s.heap H locs) (hl : lv_has ls 2 [(0, .ref q), (1, .ref q1)]) : W p l e R s m args below meth c H locs cells slots Q (F0 m 0 ls []) := by
  have hx := X.1.1
  have hb := X.1.2.1
  unfold fX2_copyFrom at h
  refine lv_aload_n hx hb dX2_copyFrom_0 rfl (lv_at hl 0 rfl) ?_
  refine lv_aload_n hx hb dX2_copyFrom_1 rfl (lv_at hl 1 rfl) ?_
  refine kget (ci := 2) (v := .int w1_size) X hw iX2 1 rfl rfl 3 (by decide) tw_120 rfl dX2_copyFrom_2 ?_
  refine lv_aload_n hx hb dX2_copyFrom_5 rfl (lv_at hl 0 rfl) ?_
  refine kget (ci := 2) (v := .ref q_house) X hw iX2 0 rfl rfl 0 (by decide) tw_121 rfl dX2_copyFrom_6 ?_
  refine kalen (v := (Int32.ofNat n_o)) X hw 2 rfl rfl rfl dX2_copyFrom_9 ?_
  refine kmin X hl.1 tw_122 tw_100 tw_97 tw_101 (Nat.le_trans (by decide) hrm.1) (Nat.le_trans (Nat.le_of_ble_eq_true rfl) hrm.2.1) ⟨hrm.2.2.1, hrm.2.2.2⟩ dX2_copyFrom_10 ?_
  refine kput (ci := 2) (v := .int (if (Int32.ofNat n_o) < w1_size then (Int32.ofNat n_o) else w1_size)) (ty := .int) X hw iX2 tyX2_ok nmX2 0 rfl rfl 3 (by decide) tw_120 rfl rfl rfl rfl (Nat.le_of_ble_eq_true rfl) dX2_copyFrom_13 (fun H locs hw => ?_)
  have hw : WD D A [(q, .inr (2, [.ref q_house, .ref q_plot, .ref q_night, .int (if (Int32.ofNat n_o) < w1_size then (Int32.ofNat n_o) else w1_size)])), (q1, .inr (2, [.ref q1_house, .ref q1_plot, .ref q1_night, .int w1_size])), (q_house, .inl (cI, n_o, .inl v_house)), (q1_house, .inl (cI, n_a1, .inl w1_house)), (q1_plot, .inl (cI, n_a1, .inl w1_plot)), (q_plot, .inl (cI, n_o, .inl v_plot)), (q1_night, .inl (cI, n_a1, .inl w1_night)), (q_night, .inl (cI, n_o, .inl v_night))] s.heap H locs := hw
  refine lv_aload_n hx hb dX2_copyFrom_16 rfl (lv_at hl 1 rfl) ?_
  refine kget (ci := 2) (v := .ref q1_house) X hw iX2 1 rfl rfl 0 (by decide) tw_121 rfl dX2_copyFrom_17 ?_
  refine lv_iconst (v := (0 : Int32)) hx hb dX2_copyFrom_20 (by decide) ?_
  refine lv_aload_n hx hb dX2_copyFrom_21 rfl (lv_at hl 0 rfl) ?_
  refine kget (ci := 2) (v := .ref q_house) X hw iX2 0 rfl rfl 0 (by decide) tw_121 rfl dX2_copyFrom_22 ?_
  refine lv_iconst (v := (0 : Int32)) hx hb dX2_copyFrom_25 (by decide) ?_
  refine lv_aload_n hx hb dX2_copyFrom_26 rfl (lv_at hl 0 rfl) ?_
  refine kget (ci := 2) (v := .int (if (Int32.ofNat n_o) < w1_size then (Int32.ofNat n_o) else w1_size)) X hw iX2 0 rfl rfl 3 (by decide) tw_120 rfl dX2_copyFrom_27 ?_
  obtain ⟨g_30, h⟩ := gd h
  refine kcopy X hw hl.1 tw_123 tw_112 tw_113 tw_114 3 2 rfl rfl rfl g_30 (Nat.le_trans (by decide) hrm.1) (Nat.le_trans (Nat.le_of_ble_eq_true rfl) hrm.2.1) dX2_copyFrom_30 (fun H locs hw => ?_)
  have hw : WD D A [(q, .inr (2, [.ref q_house, .ref q_plot, .ref q_night, .int (if (Int32.ofNat n_o) < w1_size then (Int32.ofNat n_o) else w1_size)])), (q1, .inr (2, [.ref q1_house, .ref q1_plot, .ref q1_night, .int w1_size])), (q_house, .inl (cI, n_o, .inl (va_cpy w1_house v_house 0 0 ((if (Int32.ofNat n_o) < w1_size then (Int32.ofNat n_o) else w1_size)).toNatClampNeg))), (q1_house, .inl (cI, n_a1, .inl w1_house)), (q1_plot, .inl (cI, n_a1, .inl w1_plot)), (q_plot, .inl (cI, n_o, .inl v_plot)), (q1_night, .inl (cI, n_a1, .inl w1_night)), (q_night, .inl (cI, n_o, .inl v_night))] s.heap H locs := hw
  refine lv_aload_n hx hb dX2_copyFrom_33 rfl (lv_at hl 1 rfl) ?_
  refine kget (ci := 2) (v := .ref q1_plot) X hw iX2 1 rfl rfl 1 (by decide) tw_124 rfl dX2_copyFrom_34 ?_
  refine lv_iconst (v := (0 : Int32)) hx hb dX2_copyFrom_37 (by decide) ?_
  refine lv_aload_n hx hb dX2_copyFrom_38 rfl (lv_at hl 0 rfl) ?_
  refine kget (ci := 2) (v := .ref q_plot) X hw iX2 0 rfl rfl 1 (by decide) tw_124 rfl dX2_copyFrom_39 ?_
  refine lv_iconst (v := (0 : Int32)) hx hb dX2_copyFrom_42 (by decide) ?_
  refine lv_aload_n hx hb dX2_copyFrom_43 rfl (lv_at hl 0 rfl) ?_
  refine kget (ci := 2) (v := .int (if (Int32.ofNat n_o) < w1_size then (Int32.ofNat n_o) else w1_size)) X hw iX2 0 rfl rfl 3 (by decide) tw_120 rfl dX2_copyFrom_44 ?_
  obtain ⟨g_47, h⟩ := gd h
  refine kcopy X hw hl.1 tw_123 tw_112 tw_113 tw_114 4 5 rfl rfl rfl g_47 (Nat.le_trans (by decide) hrm.1) (Nat.le_trans (Nat.le_of_ble_eq_true rfl) hrm.2.1) dX2_copyFrom_47 (fun H locs hw => ?_)
  have hw : WD D A [(q, .inr (2, [.ref q_house, .ref q_plot, .ref q_night, .int (if (Int32.ofNat n_o) < w1_size then (Int32.ofNat n_o) else w1_size)])), (q1, .inr (2, [.ref q1_house, .ref q1_plot, .ref q1_night, .int w1_size])), (q_house, .inl (cI, n_o, .inl (va_cpy w1_house v_house 0 0 ((if (Int32.ofNat n_o) < w1_size then (Int32.ofNat n_o) else w1_size)).toNatClampNeg))), (q1_house, .inl (cI, n_a1, .inl w1_house)), (q1_plot, .inl (cI, n_a1, .inl w1_plot)), (q_plot, .inl (cI, n_o, .inl (va_cpy w1_plot v_plot 0 0 ((if (Int32.ofNat n_o) < w1_size then (Int32.ofNat n_o) else w1_size)).toNatClampNeg))), (q1_night, .inl (cI, n_a1, .inl w1_night)), (q_night, .inl (cI, n_o, .inl v_night))] s.heap H locs := hw
  refine lv_aload_n hx hb dX2_copyFrom_50 rfl (lv_at hl 1 rfl) ?_
  refine kget (ci := 2) (v := .ref q1_night) X hw iX2 1 rfl rfl 2 (by decide) tw_125 rfl dX2_copyFrom_51 ?_
  refine lv_iconst (v := (0 : Int32)) hx hb dX2_copyFrom_54 (by decide) ?_
  refine lv_aload_n hx hb dX2_copyFrom_55 rfl (lv_at hl 0 rfl) ?_
  refine kget (ci := 2) (v := .ref q_night) X hw iX2 0 rfl rfl 2 (by decide) tw_125 rfl dX2_copyFrom_56 ?_
  refine lv_iconst (v := (0 : Int32)) hx hb dX2_copyFrom_59 (by decide) ?_
  refine lv_aload_n hx hb dX2_copyFrom_60 rfl (lv_at hl 0 rfl) ?_
  refine kget (ci := 2) (v := .int (if (Int32.ofNat n_o) < w1_size then (Int32.ofNat n_o) else w1_size)) X hw iX2 0 rfl rfl 3 (by decide) tw_120 rfl dX2_copyFrom_61 ?_
  obtain ⟨g_64, h⟩ := gd h
  refine kcopy X hw hl.1 tw_123 tw_112 tw_113 tw_114 6 7 rfl rfl rfl g_64 (Nat.le_trans (by decide) hrm.1) (Nat.le_trans (Nat.le_of_ble_eq_true rfl) hrm.2.1) dX2_copyFrom_64 (fun H locs hw => ?_)
  have hw : WD D A [(q, .inr (2, [.ref q_house, .ref q_plot, .ref q_night, .int (if (Int32.ofNat n_o) < w1_size then (Int32.ofNat n_o) else w1_size)])), (q1, .inr (2, [.ref q1_house, .ref q1_plot, .ref q1_night, .int w1_size])), (q_house, .inl (cI, n_o, .inl (va_cpy w1_house v_house 0 0 ((if (Int32.ofNat n_o) < w1_size then (Int32.ofNat n_o) else w1_size)).toNatClampNeg))), (q1_house, .inl (cI, n_a1, .inl w1_house)), (q1_plot, .inl (cI, n_a1, .inl w1_plot)), (q_plot, .inl (cI, n_o, .inl (va_cpy w1_plot v_plot 0 0 ((if (Int32.ofNat n_o) < w1_size then (Int32.ofNat n_o) else w1_size)).toNatClampNeg))), (q1_night, .inl (cI, n_a1, .inl w1_night)), (q_night, .inl (cI, n_o, .inl (va_cpy w1_night v_night 0 0 ((if (Int32.ofNat n_o) < w1_size then (Int32.ofNat n_o) else w1_size)).toNatClampNeg)))] s.heap H locs := hw
  obtain rfl := Option.some.inj h
  exact ret _ _ _ _ dX2_copyFrom_67 hw
set_option maxHeartbeats 4000000 in
set_option maxRecDepth 100000 in
theorem cX2_copyFrom_ct (l : Launch) (D : va_G) (cI cZ cG : ClassId) (q q_house q_plot q_night q1 q1_house q1_plot q1_night : Nat) (n_o n_a1 : Nat) (v_size : Int32) (w1_size : Int32) (v_house : (Nat → Int32)) (w1_house : (Nat → Int32)) (w1_plot : (Nat → Int32)) (v_plot : (Nat → Int32)) (w1_night : (Nat → Int32)) (v_night : (Nat → Int32))  (N : Nat) (ρ : Int32 × (Nat → Int32) × (Nat → Int32) × (Nat → Int32)) (h : fX2_copyFrom N n_o n_a1 w1_size w1_house w1_plot w1_night v_size v_house v_plot v_night  = some ρ) (sz : Nat) : Met l yX2_copyFrom (wz yX2_copyFrom cX2_copyFrom 2 none) (cRm 1 40) (cPre D (TY cI cZ cG) [.ref q, .ref q1] [(q, .inr (2, [.ref q_house, .ref q_plot, .ref q_night, .int v_size])), (q1, .inr (2, [.ref q1_house, .ref q1_plot, .ref q1_night, .int w1_size])), (q_house, .inl (cI, n_o, .inl v_house)), (q1_house, .inl (cI, n_a1, .inl w1_house)), (q1_plot, .inl (cI, n_a1, .inl w1_plot)), (q_plot, .inl (cI, n_o, .inl v_plot)), (q1_night, .inl (cI, n_a1, .inl w1_night)), (q_night, .inl (cI, n_o, .inl v_night))] sz) (cQv D [(q, .inr (2, [.ref q_house, .ref q_plot, .ref q_night, .int v_size])), (q1, .inr (2, [.ref q1_house, .ref q1_plot, .ref q1_night, .int w1_size])), (q_house, .inl (cI, n_o, .inl v_house)), (q1_house, .inl (cI, n_a1, .inl w1_house)), (q1_plot, .inl (cI, n_a1, .inl w1_plot)), (q_plot, .inl (cI, n_o, .inl v_plot)), (q1_night, .inl (cI, n_a1, .inl w1_night)), (q_night, .inl (cI, n_o, .inl v_night))] [(q, .inr (2, [.ref q_house, .ref q_plot, .ref q_night, .int ρ.1])), (q1, .inr (2, [.ref q1_house, .ref q1_plot, .ref q1_night, .int w1_size])), (q_house, .inl (cI, n_o, .inl ρ.2.1)), (q1_house, .inl (cI, n_a1, .inl w1_house)), (q1_plot, .inl (cI, n_a1, .inl w1_plot)), (q_plot, .inl (cI, n_o, .inl ρ.2.2.1)), (q1_night, .inl (cI, n_a1, .inl w1_night)), (q_night, .inl (cI, n_o, .inl ρ.2.2.2))] sz) 0 0 (va_A [(q, .inr (2, [.ref q_house, .ref q_plot, .ref q_night, .int v_size])), (q1, .inr (2, [.ref q1_house, .ref q1_plot, .ref q1_night, .int w1_size])), (q_house, .inl (cI, n_o, .inl v_house)), (q1_house, .inl (cI, n_a1, .inl w1_house)), (q1_plot, .inl (cI, n_a1, .inl w1_plot)), (q_plot, .inl (cI, n_o, .inl v_plot)), (q1_night, .inl (cI, n_a1, .inl w1_night)), (q_night, .inl (cI, n_o, .inl v_night))] sz) :=
  mk_v (by decide) (Nat.le_of_ble_eq_true rfl) (fun X hrm ret hw hl => wX2_copyFrom X hrm ret h _ _ _ hw hl)
