theorem dJ1_canEncode_9a6ad_0 : decode cJ1_canEncode_9a6ad 0 = .ok (.iload_n 0, 1) := by decide +kernel
theorem dJ1_canEncode_9a6ad_1 : decode cJ1_canEncode_9a6ad 1 = .ok (.ifCond .lt 14, 3) := by decide +kernel
theorem dJ1_canEncode_9a6ad_4 : decode cJ1_canEncode_9a6ad 4 = .ok (.iload_n 0, 1) := by decide +kernel
theorem dJ1_canEncode_9a6ad_5 : decode cJ1_canEncode_9a6ad 5 = .ok (.sipush 255, 3) := by decide +kernel
theorem dJ1_canEncode_9a6ad_8 : decode cJ1_canEncode_9a6ad 8 = .ok (.if_icmp .gt 7, 3) := by decide +kernel
theorem dJ1_canEncode_9a6ad_11 : decode cJ1_canEncode_9a6ad 11 = .ok (.iconst 1, 1) := by decide +kernel
theorem dJ1_canEncode_9a6ad_12 : decode cJ1_canEncode_9a6ad 12 = .ok (.goto 4, 3) := by decide +kernel
theorem dJ1_canEncode_9a6ad_15 : decode cJ1_canEncode_9a6ad 15 = .ok (.iconst 0, 1) := by decide +kernel
theorem dJ1_canEncode_9a6ad_16 : decode cJ1_canEncode_9a6ad 16 = .ok (.ireturn, 1) := by decide +kernel
abbrev kwJ1_canEncode_9a6ad (cI cZ cG : ClassId) : va_W := []
noncomputable def fJ1_canEncode_9a6ad (N : Nat) (a0 : Int32)   : Option (Int32) := if a0 < 0 then (some (0 : Int32)) else (if (255 : Int32) < a0 then (some (0 : Int32)) else (some (1 : Int32)))
set_option maxHeartbeats 4000000 in
set_option maxRecDepth 100000 in
theorem wJ1_canEncode_9a6ad {p : Program} {l : Launch} {e : Env} {R : Room} {s : State} {m : MethodId} {args : Array Value} {below : List Frame} {meth : Method} {c : Code} {cells slots : Nat} {Q : State → Prop} {D : va_G} {A : Nat → Prop} {cI cZ cG : ClassId} {a0 : Int32} {N : Nat} {ρ : Int32} (X : CX p s m args c cJ1_canEncode_9a6ad 1 RJ1 D (TY cI cZ cG) A) (hrm : RM R 0 0 cells slots) (ret : ∀ (pc : Nat) (H : Heap) (locs : List Loc) (ls : Array Slot), narrow .boolean (.int ρ) = .int ρ → decode cJ1_canEncode_9a6ad pc = .ok (.ireturn, 1) → WD D A (kwJ1_canEncode_9a6ad cI cZ cG) s.heap H locs → W p l e R s m args below meth c H locs cells slots Q (F0 m pc ls [.int ρ])) (h : fJ1_canEncode_9a6ad N a0   = some ρ) (H : Heap) (locs : List Loc) (ls : Array Slot) (hw : WD D A (kwJ1_canEncode_9a6ad cI cZ cG) s.heap H locs) (hl : lv_has ls 1 [(0, .int a0)]) : W p l e R s m args below meth c H locs cells slots Q (F0 m 0 ls []) := by
  have hx := X.1.1
  have hb := X.1.2.1
  unfold fJ1_canEncode_9a6ad at h
  refine lv_iload_n hx hb dJ1_canEncode_9a6ad_0 rfl (lv_at hl 0 rfl) ?_
  refine lv_if_lt (tgt := 15) hx hb dJ1_canEncode_9a6ad_1 (by decide) (fun c_1 => ?_) (fun c_1 => ?_)
  · have h := ift c_1 h
    refine lv_iconst (v := (0 : Int32)) hx hb dJ1_canEncode_9a6ad_15 (by decide) ?_
    obtain rfl := Option.some.inj h
    exact ret _ _ _ _ (show narrow .boolean (.int (0 : Int32)) = .int (0 : Int32) from rfl) dJ1_canEncode_9a6ad_16 hw
  · have h := iff_ c_1 h
    refine lv_iload_n hx hb dJ1_canEncode_9a6ad_4 rfl (lv_at hl 0 rfl) ?_
    refine lv_sipush (v := (255 : Int32)) hx hb dJ1_canEncode_9a6ad_5 (by decide) ?_
    refine lv_icmp_gt (tgt := 15) hx hb dJ1_canEncode_9a6ad_8 (by decide) (fun c_8 => ?_) (fun c_8 => ?_)
    · have h := ift c_8 h
      refine lv_iconst (v := (0 : Int32)) hx hb dJ1_canEncode_9a6ad_15 (by decide) ?_
      obtain rfl := Option.some.inj h
      exact ret _ _ _ _ (show narrow .boolean (.int (0 : Int32)) = .int (0 : Int32) from rfl) dJ1_canEncode_9a6ad_16 hw
    · have h := iff_ c_8 h
      refine lv_iconst (v := (1 : Int32)) hx hb dJ1_canEncode_9a6ad_11 (by decide) ?_
      refine lv_goto (tgt := 16) hx hb dJ1_canEncode_9a6ad_12 (by decide) ?_
      obtain rfl := Option.some.inj h
      exact ret _ _ _ _ (show narrow .boolean (.int (1 : Int32)) = .int (1 : Int32) from rfl) dJ1_canEncode_9a6ad_16 hw
set_option maxHeartbeats 4000000 in
set_option maxRecDepth 100000 in
theorem cJ1_canEncode_9a6ad_ct (l : Launch) (D : va_G) (cI cZ cG : ClassId)    (a0 : Int32) (N : Nat) (ρ : Int32) (h : fJ1_canEncode_9a6ad N a0   = some ρ) (sz : Nat) : Met l yJ1_canEncode_9a6ad (wz yJ1_canEncode_9a6ad cJ1_canEncode_9a6ad 1 (some .boolean)) (cRm 0 0) (cPre D (TY cI cZ cG) [.int a0] (kwJ1_canEncode_9a6ad cI cZ cG) sz) (cQi D (ρ) (kwJ1_canEncode_9a6ad cI cZ cG) (kwJ1_canEncode_9a6ad cI cZ cG) sz) 0 0 (va_A (kwJ1_canEncode_9a6ad cI cZ cG) sz) :=
  mk_z (by decide) (Nat.le_of_ble_eq_true rfl) (fun X hrm ret hw hl => wJ1_canEncode_9a6ad X hrm ret h _ _ _ hw hl)
theorem dJ1_indexOfChar_4cfef_0 : decode cJ1_indexOfChar_4cfef 0 = .ok (.iload_n 1, 1) := by decide +kernel
theorem dJ1_indexOfChar_4cfef_1 : decode cJ1_indexOfChar_4cfef 1 = .ok (.i2b, 1) := by decide +kernel
theorem dJ1_indexOfChar_4cfef_2 : decode cJ1_indexOfChar_4cfef 2 = .ok (.istore 4, 2) := by decide +kernel
theorem dJ1_indexOfChar_4cfef_4 : decode cJ1_indexOfChar_4cfef 4 = .ok (.iload_n 2, 1) := by decide +kernel
theorem dJ1_indexOfChar_4cfef_5 : decode cJ1_indexOfChar_4cfef 5 = .ok (.istore 5, 2) := by decide +kernel
theorem dJ1_indexOfChar_4cfef_7 : decode cJ1_indexOfChar_4cfef 7 = .ok (.iload 5, 2) := by decide +kernel
theorem dJ1_indexOfChar_4cfef_9 : decode cJ1_indexOfChar_4cfef 9 = .ok (.iload_n 3, 1) := by decide +kernel
theorem dJ1_indexOfChar_4cfef_10 : decode cJ1_indexOfChar_4cfef 10 = .ok (.if_icmp .ge 21, 3) := by decide +kernel
theorem dJ1_indexOfChar_4cfef_13 : decode cJ1_indexOfChar_4cfef 13 = .ok (.aload_n 0, 1) := by decide +kernel
theorem dJ1_indexOfChar_4cfef_14 : decode cJ1_indexOfChar_4cfef 14 = .ok (.iload 5, 2) := by decide +kernel
theorem dJ1_indexOfChar_4cfef_16 : decode cJ1_indexOfChar_4cfef 16 = .ok (.baload, 1) := by decide +kernel
theorem dJ1_indexOfChar_4cfef_17 : decode cJ1_indexOfChar_4cfef 17 = .ok (.iload 4, 2) := by decide +kernel
theorem dJ1_indexOfChar_4cfef_19 : decode cJ1_indexOfChar_4cfef 19 = .ok (.if_icmp .ne 6, 3) := by decide +kernel
theorem dJ1_indexOfChar_4cfef_22 : decode cJ1_indexOfChar_4cfef 22 = .ok (.iload 5, 2) := by decide +kernel
theorem dJ1_indexOfChar_4cfef_24 : decode cJ1_indexOfChar_4cfef 24 = .ok (.ireturn, 1) := by decide +kernel
theorem dJ1_indexOfChar_4cfef_25 : decode cJ1_indexOfChar_4cfef 25 = .ok (.iinc 5 1, 3) := by decide +kernel
theorem dJ1_indexOfChar_4cfef_28 : decode cJ1_indexOfChar_4cfef 28 = .ok (.goto (-21), 3) := by decide +kernel
theorem dJ1_indexOfChar_4cfef_31 : decode cJ1_indexOfChar_4cfef 31 = .ok (.iconst (-1), 1) := by decide +kernel
theorem dJ1_indexOfChar_4cfef_32 : decode cJ1_indexOfChar_4cfef 32 = .ok (.ireturn, 1) := by decide +kernel
abbrev kwJ1_indexOfChar_4cfef_a0V (cI cZ cG : ClassId) : va_W := []
noncomputable def fJ1_indexOfChar_4cfef_a0V_7 (N : Nat) (a1 : Int32) (a2 : Int32) (a3 : Int32)  (K_7 : Int32 → Int32 → Option (Int32)) (l4 : Int32) (l5 : Int32) : Option (Int32) := if a3 ≤ l5 then (some (-1 : Int32)) else (if l5 < 0 ∨ 5 ≤ (l5).toNatClampNeg then none else (if (kb (l5).toNatClampNeg) = l4 then (some l5) else (K_7 l4 (l5 + (1 : Int32)))))
noncomputable def fJ1_indexOfChar_4cfef_a0V (N : Nat) (a1 : Int32) (a2 : Int32) (a3 : Int32)   : Option (Int32) := lfix (fun (K : Int32 × Int32 → Option (Int32)) (a : Int32 × Int32) => fJ1_indexOfChar_4cfef_a0V_7 N a1 a2 a3 (fun (l4 : Int32) (l5 : Int32) => K (l4, l5)) a.1 a.2) N (((a1).toInt8.toInt32), a2)
set_option maxHeartbeats 4000000 in
set_option maxRecDepth 100000 in
theorem wJ1_indexOfChar_4cfef_a0V_7 {p : Program} {l : Launch} {e : Env} {R : Room} {s : State} {m : MethodId} {args : Array Value} {below : List Frame} {meth : Method} {c : Code} {cells slots : Nat} {Q : State → Prop} {D : va_G} {A : Nat → Prop} {cI cZ cG : ClassId} {a1 : Int32} {a2 : Int32} {a3 : Int32} {N : Nat} {ρ : Int32} (X : CX p s m args c cJ1_indexOfChar_4cfef 6 RJ1 D (TY cI cZ cG) A) (hrm : RM R 0 0 cells slots) (ret : ∀ (pc : Nat) (H : Heap) (locs : List Loc) (ls : Array Slot), decode cJ1_indexOfChar_4cfef pc = .ok (.ireturn, 1) → WD D A (kwJ1_indexOfChar_4cfef_a0V cI cZ cG) s.heap H locs → W p l e R s m args below meth c H locs cells slots Q (F0 m pc ls [.int ρ]))  : ∀ (n : Nat) (a : Int32 × Int32), lfix (fun (K : Int32 × Int32 → Option (Int32)) (a : Int32 × Int32) => fJ1_indexOfChar_4cfef_a0V_7 N a1 a2 a3 (fun (l4 : Int32) (l5 : Int32) => K (l4, l5)) a.1 a.2) n a = some ρ → (fun (l4 : Int32) (l5 : Int32) => ∀ (H : Heap) (locs : List Loc) (ls : Array Slot), WD D A (kwJ1_indexOfChar_4cfef_a0V cI cZ cG) s.heap H locs → lv_has ls 6 [(0, .ref (D.2 100 2)), (3, .int a3), (4, .int l4), (5, .int l5)] → W p l e R s m args below meth c H locs cells slots Q (F0 m 7 ls [])) (a.1) (a.2) := by
  have hx := X.1.1
  have hb := X.1.2.1
  refine lfix_W (fun K hK a h => ?_)
  obtain ⟨l4, l5⟩ := a
  intro H locs ls hw hl
  have h : fJ1_indexOfChar_4cfef_a0V_7 N a1 a2 a3 (fun (l4 : Int32) (l5 : Int32) => K (l4, l5)) l4 l5 = some ρ := h
  have hK_7 : ∀ (l4 : Int32) (l5 : Int32), (fun (l4 : Int32) (l5 : Int32) => K (l4, l5)) l4 l5 = some ρ → ∀ (H : Heap) (locs : List Loc) (ls : Array Slot), WD D A (kwJ1_indexOfChar_4cfef_a0V cI cZ cG) s.heap H locs → lv_has ls 6 [(0, .ref (D.2 100 2)), (3, .int a3), (4, .int l4), (5, .int l5)] → W p l e R s m args below meth c H locs cells slots Q (F0 m 7 ls []) := fun l4 l5 h => hK (l4, l5) h
  generalize (fun (l4 : Int32) (l5 : Int32) => K (l4, l5)) = K_7 at h hK_7
  have hw : WD D A (kwJ1_indexOfChar_4cfef_a0V cI cZ cG) s.heap H locs := hw
  have hl : lv_has ls 6 [(0, .ref (D.2 100 2)), (3, .int a3), (4, .int l4), (5, .int l5)] := hl
  unfold fJ1_indexOfChar_4cfef_a0V_7 at h
  refine lv_iload hx hb dJ1_indexOfChar_4cfef_7 (lv_at hl 3 rfl) ?_
  refine lv_iload_n hx hb dJ1_indexOfChar_4cfef_9 rfl (lv_at hl 1 rfl) ?_
  refine lv_icmp_ge (tgt := 31) hx hb dJ1_indexOfChar_4cfef_10 (by decide) (fun c_10 => ?_) (fun c_10 => ?_)
  · have h := ift c_10 h
    refine lv_iconst (v := (-1 : Int32)) hx hb dJ1_indexOfChar_4cfef_31 (by decide) ?_
    obtain rfl := Option.some.inj h
    exact ret _ _ _ _ dJ1_indexOfChar_4cfef_32 hw
  · have h := iff_ c_10 h
    refine lv_aload_n hx hb dJ1_indexOfChar_4cfef_13 rfl (lv_at hl 0 rfl) ?_
    refine lv_iload hx hb dJ1_indexOfChar_4cfef_14 (lv_at hl 3 rfl) ?_
    obtain ⟨g_16, h⟩ := gd h
    refine va_tb (v := .int (kb (l5).toNatClampNeg)) hx hb X.2.2.2.2.2.2.2.2.2.1 hw.2.2 g_16 rfl dJ1_indexOfChar_4cfef_16 ?_
    refine lv_iload hx hb dJ1_indexOfChar_4cfef_17 (lv_at hl 2 rfl) ?_
    refine lv_icmp_ne (tgt := 25) hx hb dJ1_indexOfChar_4cfef_19 (by decide) (fun c_19 => ?_) (fun c_19 => ?_)
    · have h := iff_ c_19 h
      refine lv_iinc (v := (l5 + (1 : Int32))) (lv' := [(5, .int (l5 + (1 : Int32))), (0, .ref (D.2 100 2)), (3, .int a3), (4, .int l4)]) hx hb dJ1_indexOfChar_4cfef_25 hl (k := 3) rfl (congrArg (l5 + ·) (by decide)) (by decide) rfl (fun ls hl => ?_)
      refine lv_goto (tgt := 7) hx hb dJ1_indexOfChar_4cfef_28 (by decide) ?_
      exact hK_7 _ _ h _ _ _ hw (lv_sub hl [1, 2, 3, 0] rfl)
    · have h := ift c_19 h
      refine lv_iload hx hb dJ1_indexOfChar_4cfef_22 (lv_at hl 3 rfl) ?_
      obtain rfl := Option.some.inj h
      exact ret _ _ _ _ dJ1_indexOfChar_4cfef_24 hw
set_option maxHeartbeats 4000000 in
set_option maxRecDepth 100000 in
theorem wJ1_indexOfChar_4cfef_a0V {p : Program} {l : Launch} {e : Env} {R : Room} {s : State} {m : MethodId} {args : Array Value} {below : List Frame} {meth : Method} {c : Code} {cells slots : Nat} {Q : State → Prop} {D : va_G} {A : Nat → Prop} {cI cZ cG : ClassId} {a1 : Int32} {a2 : Int32} {a3 : Int32} {N : Nat} {ρ : Int32} (X : CX p s m args c cJ1_indexOfChar_4cfef 6 RJ1 D (TY cI cZ cG) A) (hrm : RM R 0 0 cells slots) (ret : ∀ (pc : Nat) (H : Heap) (locs : List Loc) (ls : Array Slot), decode cJ1_indexOfChar_4cfef pc = .ok (.ireturn, 1) → WD D A (kwJ1_indexOfChar_4cfef_a0V cI cZ cG) s.heap H locs → W p l e R s m args below meth c H locs cells slots Q (F0 m pc ls [.int ρ])) (h : fJ1_indexOfChar_4cfef_a0V N a1 a2 a3   = some ρ) (H : Heap) (locs : List Loc) (ls : Array Slot) (hw : WD D A (kwJ1_indexOfChar_4cfef_a0V cI cZ cG) s.heap H locs) (hl : lv_has ls 6 [(0, .ref (D.2 100 2)), (1, .int a1), (2, .int a2), (3, .int a3)]) : W p l e R s m args below meth c H locs cells slots Q (F0 m 0 ls []) := by
  have hx := X.1.1
  have hb := X.1.2.1
  unfold fJ1_indexOfChar_4cfef_a0V at h
  refine lv_iload_n hx hb dJ1_indexOfChar_4cfef_0 rfl (lv_at hl 1 rfl) ?_
  refine lv_i2b (v := ((a1).toInt8.toInt32)) hx hb dJ1_indexOfChar_4cfef_1 rfl ?_
  refine lv_istore (lv' := [(4, .int ((a1).toInt8.toInt32)), (0, .ref (D.2 100 2)), (1, .int a1), (2, .int a2), (3, .int a3)]) hx hb dJ1_indexOfChar_4cfef_2 hl (by decide) rfl (fun ls hl => ?_)
  refine lv_iload_n hx hb dJ1_indexOfChar_4cfef_4 rfl (lv_at hl 3 rfl) ?_
  refine lv_istore (lv' := [(5, .int a2), (4, .int ((a1).toInt8.toInt32)), (0, .ref (D.2 100 2)), (1, .int a1), (2, .int a2), (3, .int a3)]) hx hb dJ1_indexOfChar_4cfef_5 hl (by decide) rfl (fun ls hl => ?_)
  exact wJ1_indexOfChar_4cfef_a0V_7 X hrm ret  _ _ h _ _ _ hw (lv_sub hl [2, 5, 1, 0] rfl)
set_option maxHeartbeats 4000000 in
set_option maxRecDepth 100000 in
theorem cJ1_indexOfChar_4cfef_a0V_ct (l : Launch) (D : va_G) (cI cZ cG : ClassId)    (a1 : Int32) (a2 : Int32) (a3 : Int32) (N : Nat) (ρ : Int32) (h : fJ1_indexOfChar_4cfef_a0V N a1 a2 a3   = some ρ) (sz : Nat) : Met l yJ1_indexOfChar_4cfef (wz yJ1_indexOfChar_4cfef cJ1_indexOfChar_4cfef 6 (some .int)) (cRm 0 0) (cPre D (TY cI cZ cG) [.ref (D.2 100 2), .int a1, .int a2, .int a3] (kwJ1_indexOfChar_4cfef_a0V cI cZ cG) sz) (cQi D (ρ) (kwJ1_indexOfChar_4cfef_a0V cI cZ cG) (kwJ1_indexOfChar_4cfef_a0V cI cZ cG) sz) 0 0 (va_A (kwJ1_indexOfChar_4cfef_a0V cI cZ cG) sz) :=
  mk_i (by decide) (Nat.le_of_ble_eq_true rfl) (fun X hrm ret hw hl => wJ1_indexOfChar_4cfef_a0V X hrm ret h _ _ _ hw hl)
theorem dJ1_indexOf_4cfef_0 : decode cJ1_indexOf_4cfef 0 = .ok (.iload_n 1, 1) := by decide +kernel
theorem dJ1_indexOf_4cfef_1 : decode cJ1_indexOf_4cfef 1 = .ok (.invokestatic 88, 3) := by decide +kernel
theorem dJ1_indexOf_4cfef_4 : decode cJ1_indexOf_4cfef 4 = .ok (.ifCond .ne 5, 3) := by decide +kernel
theorem dJ1_indexOf_4cfef_7 : decode cJ1_indexOf_4cfef 7 = .ok (.iconst (-1), 1) := by decide +kernel
theorem dJ1_indexOf_4cfef_8 : decode cJ1_indexOf_4cfef 8 = .ok (.ireturn, 1) := by decide +kernel
theorem dJ1_indexOf_4cfef_9 : decode cJ1_indexOf_4cfef 9 = .ok (.iload_n 2, 1) := by decide +kernel
theorem dJ1_indexOf_4cfef_10 : decode cJ1_indexOf_4cfef 10 = .ok (.iconst 0, 1) := by decide +kernel
theorem dJ1_indexOf_4cfef_11 : decode cJ1_indexOf_4cfef 11 = .ok (.invokestatic 92, 3) := by decide +kernel
theorem dJ1_indexOf_4cfef_14 : decode cJ1_indexOf_4cfef 14 = .ok (.istore_n 2, 1) := by decide +kernel
theorem dJ1_indexOf_4cfef_15 : decode cJ1_indexOf_4cfef 15 = .ok (.iload_n 3, 1) := by decide +kernel
theorem dJ1_indexOf_4cfef_16 : decode cJ1_indexOf_4cfef 16 = .ok (.aload_n 0, 1) := by decide +kernel
theorem dJ1_indexOf_4cfef_17 : decode cJ1_indexOf_4cfef 17 = .ok (.arraylength, 1) := by decide +kernel
theorem dJ1_indexOf_4cfef_18 : decode cJ1_indexOf_4cfef 18 = .ok (.invokestatic 38, 3) := by decide +kernel
theorem dJ1_indexOf_4cfef_21 : decode cJ1_indexOf_4cfef 21 = .ok (.istore_n 3, 1) := by decide +kernel
theorem dJ1_indexOf_4cfef_22 : decode cJ1_indexOf_4cfef 22 = .ok (.iload_n 2, 1) := by decide +kernel
theorem dJ1_indexOf_4cfef_23 : decode cJ1_indexOf_4cfef 23 = .ok (.iload_n 3, 1) := by decide +kernel
theorem dJ1_indexOf_4cfef_24 : decode cJ1_indexOf_4cfef 24 = .ok (.if_icmp .lt 5, 3) := by decide +kernel
theorem dJ1_indexOf_4cfef_27 : decode cJ1_indexOf_4cfef 27 = .ok (.iconst (-1), 1) := by decide +kernel
theorem dJ1_indexOf_4cfef_28 : decode cJ1_indexOf_4cfef 28 = .ok (.ireturn, 1) := by decide +kernel
theorem dJ1_indexOf_4cfef_29 : decode cJ1_indexOf_4cfef 29 = .ok (.aload_n 0, 1) := by decide +kernel
theorem dJ1_indexOf_4cfef_30 : decode cJ1_indexOf_4cfef 30 = .ok (.iload_n 1, 1) := by decide +kernel
theorem dJ1_indexOf_4cfef_31 : decode cJ1_indexOf_4cfef 31 = .ok (.iload_n 2, 1) := by decide +kernel
theorem dJ1_indexOf_4cfef_32 : decode cJ1_indexOf_4cfef 32 = .ok (.iload_n 3, 1) := by decide +kernel
theorem dJ1_indexOf_4cfef_33 : decode cJ1_indexOf_4cfef 33 = .ok (.invokestatic 95, 3) := by decide +kernel
theorem dJ1_indexOf_4cfef_36 : decode cJ1_indexOf_4cfef 36 = .ok (.ireturn, 1) := by decide +kernel
abbrev kwJ1_indexOf_4cfef_a0V (cI cZ cG : ClassId) : va_W := []
noncomputable def fJ1_indexOf_4cfef_a0V (N : Nat) (a1 : Int32)  (a2 : Int32) (a3 : Int32) : Option (Int32) := (fJ1_canEncode_9a6ad N a1).bind (fun x_1 => if x_1 = 0 then (some (-1 : Int32)) else (if (if a2 < (0 : Int32) then (0 : Int32) else a2) < (if (5 : Int32) < a3 then (5 : Int32) else a3) then ((fJ1_indexOfChar_4cfef_a0V N a1 (if a2 < (0 : Int32) then (0 : Int32) else a2) (if (5 : Int32) < a3 then (5 : Int32) else a3)).bind (fun x_33 => some x_33)) else (some (-1 : Int32))))
set_option maxHeartbeats 4000000 in
set_option maxRecDepth 100000 in
theorem wJ1_indexOf_4cfef_a0V {p : Program} {l : Launch} {e : Env} {R : Room} {s : State} {m : MethodId} {args : Array Value} {below : List Frame} {meth : Method} {c : Code} {cells slots : Nat} {Q : State → Prop} {D : va_G} {A : Nat → Prop} {cI cZ cG : ClassId} {a1 : Int32} {a2 : Int32} {a3 : Int32} {N : Nat} {ρ : Int32} (X : CX p s m args c cJ1_indexOf_4cfef 4 RJ1 D (TY cI cZ cG) A) (hrm : RM R 1 25 cells slots) (ret : ∀ (pc : Nat) (H : Heap) (locs : List Loc) (ls : Array Slot), decode cJ1_indexOf_4cfef pc = .ok (.ireturn, 1) → WD D A (kwJ1_indexOf_4cfef_a0V cI cZ cG) s.heap H locs → W p l e R s m args below meth c H locs cells slots Q (F0 m pc ls [.int ρ])) (h : fJ1_indexOf_4cfef_a0V N a1  a2 a3 = some ρ) (H : Heap) (locs : List Loc) (ls : Array Slot) (hw : WD D A (kwJ1_indexOf_4cfef_a0V cI cZ cG) s.heap H locs) (hl : lv_has ls 4 [(0, .ref (D.2 100 2)), (1, .int a1), (2, .int a2), (3, .int a3)]) : W p l e R s m args below meth c H locs cells slots Q (F0 m 0 ls []) := by
  have hx := X.1.1
  have hb := X.1.2.1
  unfold fJ1_indexOf_4cfef_a0V at h
  refine lv_iload_n hx hb dJ1_indexOf_4cfef_0 rfl (lv_at hl 1 rfl) ?_
  obtain ⟨x_1, hc_1, h⟩ := obd h
  refine ksS_i (ws2 := (kwJ1_indexOf_4cfef_a0V cI cZ cG)) (nW := 0) (As := [.int a1]) (rest := []) X hw (cJ1_canEncode_9a6ad_ct l D cI cZ cG a1 N x_1 hc_1 H.size) mJ1_canEncode_9a6ad tw_256 (hrm.call (by decide) (by decide)) [] rfl (by decide) rfl (by decide) rfl trivial rfl hl.1 rfl (Nat.le_of_ble_eq_true rfl) dJ1_indexOf_4cfef_1 ⟨hrm.2.2.1, hrm.2.2.2⟩ (fun H locs hw => ?_)
  refine lv_if_ne (tgt := 9) hx hb dJ1_indexOf_4cfef_4 (by decide) (fun c_4 => ?_) (fun c_4 => ?_)
  · have h := iff_ c_4 h
    refine lv_iload_n hx hb dJ1_indexOf_4cfef_9 rfl (lv_at hl 2 rfl) ?_
    refine lv_iconst (v := (0 : Int32)) hx hb dJ1_indexOf_4cfef_10 (by decide) ?_
    refine kmax X hl.1 tw_257 tw_131 tw_88 tw_132 (Nat.le_trans (by decide) hrm.1) (Nat.le_trans (Nat.le_of_ble_eq_true rfl) hrm.2.1) ⟨hrm.2.2.1, hrm.2.2.2⟩ dJ1_indexOf_4cfef_11 ?_
    refine lv_istore_n (lv' := [(2, .int (if a2 < (0 : Int32) then (0 : Int32) else a2)), (0, .ref (D.2 100 2)), (1, .int a1), (3, .int a3)]) hx hb dJ1_indexOf_4cfef_14 rfl hl (by decide) rfl (fun ls hl => ?_)
    refine lv_iload_n hx hb dJ1_indexOf_4cfef_15 rfl (lv_at hl 3 rfl) ?_
    refine lv_aload_n hx hb dJ1_indexOf_4cfef_16 rfl (lv_at hl 1 rfl) ?_
    refine va_tlen (v := 5) hx hb X.2.2.2.2.2.2.2.2.2.1 hw.2.2 (by decide) dJ1_indexOf_4cfef_17 ?_
    refine kmin X hl.1 tw_258 tw_87 tw_88 tw_89 (Nat.le_trans (by decide) hrm.1) (Nat.le_trans (Nat.le_of_ble_eq_true rfl) hrm.2.1) ⟨hrm.2.2.1, hrm.2.2.2⟩ dJ1_indexOf_4cfef_18 ?_
    refine lv_istore_n (lv' := [(3, .int (if (5 : Int32) < a3 then (5 : Int32) else a3)), (2, .int (if a2 < (0 : Int32) then (0 : Int32) else a2)), (0, .ref (D.2 100 2)), (1, .int a1)]) hx hb dJ1_indexOf_4cfef_21 rfl hl (by decide) rfl (fun ls hl => ?_)
    refine lv_iload_n hx hb dJ1_indexOf_4cfef_22 rfl (lv_at hl 1 rfl) ?_
    refine lv_iload_n hx hb dJ1_indexOf_4cfef_23 rfl (lv_at hl 0 rfl) ?_
    refine lv_icmp_lt (tgt := 29) hx hb dJ1_indexOf_4cfef_24 (by decide) (fun c_24 => ?_) (fun c_24 => ?_)
    · have h := ift c_24 h
      refine lv_aload_n hx hb dJ1_indexOf_4cfef_29 rfl (lv_at hl 2 rfl) ?_
      refine lv_iload_n hx hb dJ1_indexOf_4cfef_30 rfl (lv_at hl 3 rfl) ?_
      refine lv_iload_n hx hb dJ1_indexOf_4cfef_31 rfl (lv_at hl 1 rfl) ?_
      refine lv_iload_n hx hb dJ1_indexOf_4cfef_32 rfl (lv_at hl 0 rfl) ?_
      obtain ⟨x_33, hc_33, h⟩ := obd h
      refine ksS_i (ws2 := (kwJ1_indexOf_4cfef_a0V cI cZ cG)) (nW := 0) (As := [.ref (D.2 100 2), .int a1, .int (if a2 < (0 : Int32) then (0 : Int32) else a2), .int (if (5 : Int32) < a3 then (5 : Int32) else a3)]) (rest := []) X hw (cJ1_indexOfChar_4cfef_a0V_ct l D cI cZ cG a1 (if a2 < (0 : Int32) then (0 : Int32) else a2) (if (5 : Int32) < a3 then (5 : Int32) else a3) N x_33 hc_33 H.size) mJ1_indexOfChar_4cfef tw_259 (hrm.call (by decide) (by decide)) [] rfl (by decide) rfl (by decide) rfl trivial rfl hl.1 rfl (Nat.le_of_ble_eq_true rfl) dJ1_indexOf_4cfef_33 ⟨hrm.2.2.1, hrm.2.2.2⟩ (fun H locs hw => ?_)
      obtain rfl := Option.some.inj h
      exact ret _ _ _ _ dJ1_indexOf_4cfef_36 hw
    · have h := iff_ c_24 h
      refine lv_iconst (v := (-1 : Int32)) hx hb dJ1_indexOf_4cfef_27 (by decide) ?_
      obtain rfl := Option.some.inj h
      exact ret _ _ _ _ dJ1_indexOf_4cfef_28 hw
  · have h := ift c_4 h
    refine lv_iconst (v := (-1 : Int32)) hx hb dJ1_indexOf_4cfef_7 (by decide) ?_
    obtain rfl := Option.some.inj h
    exact ret _ _ _ _ dJ1_indexOf_4cfef_8 hw
set_option maxHeartbeats 4000000 in
set_option maxRecDepth 100000 in
theorem cJ1_indexOf_4cfef_a0V_ct (l : Launch) (D : va_G) (cI cZ cG : ClassId)    (a1 : Int32) (a2 : Int32) (a3 : Int32) (N : Nat) (ρ : Int32) (h : fJ1_indexOf_4cfef_a0V N a1  a2 a3 = some ρ) (sz : Nat) : Met l yJ1_indexOf_4cfef (wz yJ1_indexOf_4cfef cJ1_indexOf_4cfef 4 (some .int)) (cRm 1 25) (cPre D (TY cI cZ cG) [.ref (D.2 100 2), .int a1, .int a2, .int a3] (kwJ1_indexOf_4cfef_a0V cI cZ cG) sz) (cQi D (ρ) (kwJ1_indexOf_4cfef_a0V cI cZ cG) (kwJ1_indexOf_4cfef_a0V cI cZ cG) sz) 0 0 (va_A (kwJ1_indexOf_4cfef_a0V cI cZ cG) sz) :=
  mk_i (by decide) (Nat.le_of_ble_eq_true rfl) (fun X hrm ret hw hl => wJ1_indexOf_4cfef_a0V X hrm ret h _ _ _ hw hl)
theorem dJ0_indexOf_7cf53_0 : decode cJ0_indexOf_7cf53 0 = .ok (.aload_n 0, 1) := by decide +kernel
theorem dJ0_indexOf_7cf53_1 : decode cJ0_indexOf_7cf53 1 = .ok (.invokevirtual 492, 3) := by decide +kernel
theorem dJ0_indexOf_7cf53_4 : decode cJ0_indexOf_7cf53 4 = .ok (.ifCond .eq 19, 3) := by decide +kernel
theorem dJ0_indexOf_7cf53_7 : decode cJ0_indexOf_7cf53 7 = .ok (.aload_n 0, 1) := by decide +kernel
theorem dJ0_indexOf_7cf53_8 : decode cJ0_indexOf_7cf53 8 = .ok (.getfield 9, 3) := by decide +kernel
theorem dJ0_indexOf_7cf53_11 : decode cJ0_indexOf_7cf53 11 = .ok (.iload_n 1, 1) := by decide +kernel
theorem dJ0_indexOf_7cf53_12 : decode cJ0_indexOf_7cf53 12 = .ok (.iload_n 2, 1) := by decide +kernel
theorem dJ0_indexOf_7cf53_13 : decode cJ0_indexOf_7cf53 13 = .ok (.aload_n 0, 1) := by decide +kernel
theorem dJ0_indexOf_7cf53_14 : decode cJ0_indexOf_7cf53 14 = .ok (.invokevirtual 505, 3) := by decide +kernel
theorem dJ0_indexOf_7cf53_17 : decode cJ0_indexOf_7cf53 17 = .ok (.invokestatic 637, 3) := by decide +kernel
theorem dJ0_indexOf_7cf53_20 : decode cJ0_indexOf_7cf53 20 = .ok (.goto 16, 3) := by decide +kernel
theorem dJ0_indexOf_7cf53_23 : decode cJ0_indexOf_7cf53 23 = .ok (.aload_n 0, 1) := by decide +kernel
theorem dJ0_indexOf_7cf53_24 : decode cJ0_indexOf_7cf53 24 = .ok (.getfield 9, 3) := by decide +kernel
theorem dJ0_indexOf_7cf53_27 : decode cJ0_indexOf_7cf53 27 = .ok (.iload_n 1, 1) := by decide +kernel
theorem dJ0_indexOf_7cf53_28 : decode cJ0_indexOf_7cf53 28 = .ok (.iload_n 2, 1) := by decide +kernel
theorem dJ0_indexOf_7cf53_29 : decode cJ0_indexOf_7cf53 29 = .ok (.aload_n 0, 1) := by decide +kernel
theorem dJ0_indexOf_7cf53_30 : decode cJ0_indexOf_7cf53 30 = .ok (.invokevirtual 505, 3) := by decide +kernel
theorem dJ0_indexOf_7cf53_36 : decode cJ0_indexOf_7cf53 36 = .ok (.ireturn, 1) := by decide +kernel
abbrev kwJ0_indexOf_7cf53_oK (cI cZ cG : ClassId) : va_W := []
noncomputable def fJ0_indexOf_7cf53_oK (N : Nat) (a1 : Int32) (a2 : Int32)   : Option (Int32) := (fJ0_isLatin1_aae02_oK N).bind (fun x_1 => if x_1 = 0 then ((fJ0_length_8abf5_oK N).bind (fun x_30 => none)) else ((fJ0_length_8abf5_oK N).bind (fun x_14 => (fJ1_indexOf_4cfef_a0V N a1 a2 x_14).bind (fun x_17 => some x_17))))
set_option maxHeartbeats 4000000 in
set_option maxRecDepth 100000 in
theorem wJ0_indexOf_7cf53_oK {p : Program} {l : Launch} {e : Env} {R : Room} {s : State} {m : MethodId} {args : Array Value} {below : List Frame} {meth : Method} {c : Code} {cells slots : Nat} {Q : State → Prop} {D : va_G} {A : Nat → Prop} {cI cZ cG : ClassId} {a1 : Int32} {a2 : Int32} {N : Nat} {ρ : Int32} (X : CX p s m args c cJ0_indexOf_7cf53 3 RJ0 D (TY cI cZ cG) A) (hrm : RM R 2 48 cells slots) (ret : ∀ (pc : Nat) (H : Heap) (locs : List Loc) (ls : Array Slot), decode cJ0_indexOf_7cf53 pc = .ok (.ireturn, 1) → WD D A (kwJ0_indexOf_7cf53_oK cI cZ cG) s.heap H locs → W p l e R s m args below meth c H locs cells slots Q (F0 m pc ls [.int ρ])) (h : fJ0_indexOf_7cf53_oK N a1 a2   = some ρ) (H : Heap) (locs : List Loc) (ls : Array Slot) (hw : WD D A (kwJ0_indexOf_7cf53_oK cI cZ cG) s.heap H locs) (hl : lv_has ls 3 [(0, .ref (D.2 100 1)), (1, .int a1), (2, .int a2)]) : W p l e R s m args below meth c H locs cells slots Q (F0 m 0 ls []) := by
  have hx := X.1.1
  have hb := X.1.2.1
  unfold fJ0_indexOf_7cf53_oK at h
  refine lv_aload_n hx hb dJ0_indexOf_7cf53_0 rfl (lv_at hl 0 rfl) ?_
  obtain ⟨x_1, hc_1, h⟩ := obd h
  refine ksK_i (ws2 := (kwJ0_indexOf_7cf53_oK cI cZ cG)) (nW := 0) (As := []) (rest := []) X hw (cJ0_isLatin1_aae02_oK_ct l D cI cZ cG N x_1 hc_1 H.size) mJ0_isLatin1_aae02 tw_262 (hrm.call (by decide) (by decide)) [] rfl (by decide) rfl (by decide) rfl trivial rfl hl.1 rfl (Nat.le_of_ble_eq_true rfl) dJ0_indexOf_7cf53_1 ⟨hrm.2.2.1, hrm.2.2.2⟩ (fun H locs hw => ?_)
  refine lv_if_eq (tgt := 23) hx hb dJ0_indexOf_7cf53_4 (by decide) (fun c_4 => ?_) (fun c_4 => ?_)
  · have h := ift c_4 h
    refine lv_aload_n hx hb dJ0_indexOf_7cf53_23 rfl (lv_at hl 0 rfl) ?_
    refine vk_getf hx hb X.2.2.2.2.2.2.2.2.1 hw.2.2 X.1.2.2.2.1 (X.1.2.2.2.2 _ tw_246) (fun _ h => h) dJ0_indexOf_7cf53_24 ?_
    refine lv_iload_n hx hb dJ0_indexOf_7cf53_27 rfl (lv_at hl 1 rfl) ?_
    refine lv_iload_n hx hb dJ0_indexOf_7cf53_28 rfl (lv_at hl 2 rfl) ?_
    refine lv_aload_n hx hb dJ0_indexOf_7cf53_29 rfl (lv_at hl 0 rfl) ?_
    obtain ⟨x_30, hc_30, h⟩ := obd h
    refine ksK_i (ws2 := (kwJ0_indexOf_7cf53_oK cI cZ cG)) (nW := 0) (As := []) (rest := [.int a2, .int a1, .ref (D.2 100 2)]) X hw (cJ0_length_8abf5_oK_ct l D cI cZ cG N x_30 hc_30 H.size) mJ0_length_8abf5 tw_263 (hrm.call (by decide) (by decide)) [] rfl (by decide) rfl (by decide) rfl trivial rfl hl.1 rfl (Nat.le_of_ble_eq_true rfl) dJ0_indexOf_7cf53_30 ⟨hrm.2.2.1, hrm.2.2.2⟩ (fun H locs hw => ?_)
    exact nn h
  · have h := iff_ c_4 h
    refine lv_aload_n hx hb dJ0_indexOf_7cf53_7 rfl (lv_at hl 0 rfl) ?_
    refine vk_getf hx hb X.2.2.2.2.2.2.2.2.1 hw.2.2 X.1.2.2.2.1 (X.1.2.2.2.2 _ tw_246) (fun _ h => h) dJ0_indexOf_7cf53_8 ?_
    refine lv_iload_n hx hb dJ0_indexOf_7cf53_11 rfl (lv_at hl 1 rfl) ?_
    refine lv_iload_n hx hb dJ0_indexOf_7cf53_12 rfl (lv_at hl 2 rfl) ?_
    refine lv_aload_n hx hb dJ0_indexOf_7cf53_13 rfl (lv_at hl 0 rfl) ?_
    obtain ⟨x_14, hc_14, h⟩ := obd h
    refine ksK_i (ws2 := (kwJ0_indexOf_7cf53_oK cI cZ cG)) (nW := 0) (As := []) (rest := [.int a2, .int a1, .ref (D.2 100 2)]) X hw (cJ0_length_8abf5_oK_ct l D cI cZ cG N x_14 hc_14 H.size) mJ0_length_8abf5 tw_263 (hrm.call (by decide) (by decide)) [] rfl (by decide) rfl (by decide) rfl trivial rfl hl.1 rfl (Nat.le_of_ble_eq_true rfl) dJ0_indexOf_7cf53_14 ⟨hrm.2.2.1, hrm.2.2.2⟩ (fun H locs hw => ?_)
    obtain ⟨x_17, hc_17, h⟩ := obd h
    refine ksS_i (ws2 := (kwJ0_indexOf_7cf53_oK cI cZ cG)) (nW := 0) (As := [.ref (D.2 100 2), .int a1, .int a2, .int x_14]) (rest := []) X hw (cJ1_indexOf_4cfef_a0V_ct l D cI cZ cG a1 a2 x_14 N x_17 hc_17 H.size) mJ1_indexOf_4cfef tw_264 (hrm.call (by decide) (by decide)) [] rfl (by decide) rfl (by decide) rfl trivial rfl hl.1 rfl (Nat.le_of_ble_eq_true rfl) dJ0_indexOf_7cf53_17 ⟨hrm.2.2.1, hrm.2.2.2⟩ (fun H locs hw => ?_)
    refine lv_goto (tgt := 36) hx hb dJ0_indexOf_7cf53_20 (by decide) ?_
    obtain rfl := Option.some.inj h
    exact ret _ _ _ _ dJ0_indexOf_7cf53_36 hw
set_option maxHeartbeats 4000000 in
set_option maxRecDepth 100000 in
theorem cJ0_indexOf_7cf53_oK_ct (l : Launch) (D : va_G) (cI cZ cG : ClassId)    (a1 : Int32) (a2 : Int32) (N : Nat) (ρ : Int32) (h : fJ0_indexOf_7cf53_oK N a1 a2   = some ρ) (sz : Nat) : Met l yJ0_indexOf_7cf53 (wz yJ0_indexOf_7cf53 cJ0_indexOf_7cf53 3 (some .int)) (cRm 2 48) (cPre D (TY cI cZ cG) [.ref (D.2 100 1), .int a1, .int a2] (kwJ0_indexOf_7cf53_oK cI cZ cG) sz) (cQi D (ρ) (kwJ0_indexOf_7cf53_oK cI cZ cG) (kwJ0_indexOf_7cf53_oK cI cZ cG) sz) 0 0 (va_A (kwJ0_indexOf_7cf53_oK cI cZ cG) sz) :=
  mk_i (by decide) (Nat.le_of_ble_eq_true rfl) (fun X hrm ret hw hl => wJ0_indexOf_7cf53_oK X hrm ret h _ _ _ hw hl)
theorem dJ0_indexOf_0f7a4_0 : decode cJ0_indexOf_0f7a4 0 = .ok (.aload_n 0, 1) := by decide +kernel
theorem dJ0_indexOf_0f7a4_1 : decode cJ0_indexOf_0f7a4 1 = .ok (.iload_n 1, 1) := by decide +kernel
theorem dJ0_indexOf_0f7a4_2 : decode cJ0_indexOf_0f7a4 2 = .ok (.iconst 0, 1) := by decide +kernel
theorem dJ0_indexOf_0f7a4_3 : decode cJ0_indexOf_0f7a4 3 = .ok (.invokevirtual 633, 3) := by decide +kernel
theorem dJ0_indexOf_0f7a4_6 : decode cJ0_indexOf_0f7a4 6 = .ok (.ireturn, 1) := by decide +kernel
abbrev kwJ0_indexOf_0f7a4_oK (cI cZ cG : ClassId) : va_W := []
noncomputable def fJ0_indexOf_0f7a4_oK (N : Nat) (a1 : Int32)   : Option (Int32) := (fJ0_indexOf_7cf53_oK N a1 (0 : Int32)).bind (fun x_3 => some x_3)
set_option maxHeartbeats 4000000 in
set_option maxRecDepth 100000 in
theorem wJ0_indexOf_0f7a4_oK {p : Program} {l : Launch} {e : Env} {R : Room} {s : State} {m : MethodId} {args : Array Value} {below : List Frame} {meth : Method} {c : Code} {cells slots : Nat} {Q : State → Prop} {D : va_G} {A : Nat → Prop} {cI cZ cG : ClassId} {a1 : Int32} {N : Nat} {ρ : Int32} (X : CX p s m args c cJ0_indexOf_0f7a4 2 RJ0 D (TY cI cZ cG) A) (hrm : RM R 3 70 cells slots) (ret : ∀ (pc : Nat) (H : Heap) (locs : List Loc) (ls : Array Slot), decode cJ0_indexOf_0f7a4 pc = .ok (.ireturn, 1) → WD D A (kwJ0_indexOf_0f7a4_oK cI cZ cG) s.heap H locs → W p l e R s m args below meth c H locs cells slots Q (F0 m pc ls [.int ρ])) (h : fJ0_indexOf_0f7a4_oK N a1   = some ρ) (H : Heap) (locs : List Loc) (ls : Array Slot) (hw : WD D A (kwJ0_indexOf_0f7a4_oK cI cZ cG) s.heap H locs) (hl : lv_has ls 2 [(0, .ref (D.2 100 1)), (1, .int a1)]) : W p l e R s m args below meth c H locs cells slots Q (F0 m 0 ls []) := by
  have hx := X.1.1
  have hb := X.1.2.1
  unfold fJ0_indexOf_0f7a4_oK at h
  refine lv_aload_n hx hb dJ0_indexOf_0f7a4_0 rfl (lv_at hl 0 rfl) ?_
  refine lv_iload_n hx hb dJ0_indexOf_0f7a4_1 rfl (lv_at hl 1 rfl) ?_
  refine lv_iconst (v := (0 : Int32)) hx hb dJ0_indexOf_0f7a4_2 (by decide) ?_
  obtain ⟨x_3, hc_3, h⟩ := obd h
  refine ksK_i (ws2 := (kwJ0_indexOf_0f7a4_oK cI cZ cG)) (nW := 0) (As := [.int a1, .int (0 : Int32)]) (rest := []) X hw (cJ0_indexOf_7cf53_oK_ct l D cI cZ cG a1 (0 : Int32) N x_3 hc_3 H.size) mJ0_indexOf_7cf53 tw_268 (hrm.call (by decide) (by decide)) [] rfl (by decide) rfl (by decide) rfl trivial rfl hl.1 rfl (Nat.le_of_ble_eq_true rfl) dJ0_indexOf_0f7a4_3 ⟨hrm.2.2.1, hrm.2.2.2⟩ (fun H locs hw => ?_)
  obtain rfl := Option.some.inj h
  exact ret _ _ _ _ dJ0_indexOf_0f7a4_6 hw
set_option maxHeartbeats 4000000 in
set_option maxRecDepth 100000 in
theorem cJ0_indexOf_0f7a4_oK_ct (l : Launch) (D : va_G) (cI cZ cG : ClassId)    (a1 : Int32) (N : Nat) (ρ : Int32) (h : fJ0_indexOf_0f7a4_oK N a1   = some ρ) (sz : Nat) : Met l yJ0_indexOf_0f7a4 (wz yJ0_indexOf_0f7a4 cJ0_indexOf_0f7a4 2 (some .int)) (cRm 3 70) (cPre D (TY cI cZ cG) [.ref (D.2 100 1), .int a1] (kwJ0_indexOf_0f7a4_oK cI cZ cG) sz) (cQi D (ρ) (kwJ0_indexOf_0f7a4_oK cI cZ cG) (kwJ0_indexOf_0f7a4_oK cI cZ cG) sz) 0 0 (va_A (kwJ0_indexOf_0f7a4_oK cI cZ cG) sz) :=
  mk_i (by decide) (Nat.le_of_ble_eq_true rfl) (fun X hrm ret hw hl => wJ0_indexOf_0f7a4_oK X hrm ret h _ _ _ hw hl)
theorem dX3_kindBy_0 : decode cX3_kindBy 0 = .ok (.ldc 37, 2) := by decide +kernel
theorem dX3_kindBy_2 : decode cX3_kindBy 2 = .ok (.iload_n 0, 1) := by decide +kernel
theorem dX3_kindBy_3 : decode cX3_kindBy 3 = .ok (.i2c, 1) := by decide +kernel
theorem dX3_kindBy_4 : decode cX3_kindBy 4 = .ok (.invokevirtual 39, 3) := by decide +kernel
theorem dX3_kindBy_7 : decode cX3_kindBy 7 = .ok (.ireturn, 1) := by decide +kernel
abbrev kwX3_kindBy (cI cZ cG : ClassId) : va_W := []
noncomputable def fX3_kindBy (N : Nat) (a0 : Int32)   : Option (Int32) := (fJ0_indexOf_0f7a4_oK N (((a0).toUInt32 % 65536).toInt32)).bind (fun x_4 => some x_4)
set_option maxHeartbeats 4000000 in
set_option maxRecDepth 100000 in
theorem wX3_kindBy {p : Program} {l : Launch} {e : Env} {R : Room} {s : State} {m : MethodId} {args : Array Value} {below : List Frame} {meth : Method} {c : Code} {cells slots : Nat} {Q : State → Prop} {D : va_G} {A : Nat → Prop} {cI cZ cG : ClassId} {a0 : Int32} {N : Nat} {ρ : Int32} (X : CX p s m args c cX3_kindBy 1 RX3 D (TY cI cZ cG) A) (hrm : RM R 4 91 cells slots) (ret : ∀ (pc : Nat) (H : Heap) (locs : List Loc) (ls : Array Slot), decode cX3_kindBy pc = .ok (.ireturn, 1) → WD D A (kwX3_kindBy cI cZ cG) s.heap H locs → W p l e R s m args below meth c H locs cells slots Q (F0 m pc ls [.int ρ])) (h : fX3_kindBy N a0   = some ρ) (H : Heap) (locs : List Loc) (ls : Array Slot) (hw : WD D A (kwX3_kindBy cI cZ cG) s.heap H locs) (hl : lv_has ls 1 [(0, .int a0)]) : W p l e R s m args below meth c H locs cells slots Q (F0 m 0 ls []) := by
  have hx := X.1.1
  have hb := X.1.2.1
  unfold fX3_kindBy at h
  refine va_ldcS hx hb X.1.2.2.2.1 X.2.2.2.2.2.1 dX3_kindBy_0 ?_
  refine lv_iload_n hx hb dX3_kindBy_2 rfl (lv_at hl 0 rfl) ?_
  refine lv_i2c (v := (((a0).toUInt32 % 65536).toInt32)) hx hb dX3_kindBy_3 rfl ?_
  obtain ⟨x_4, hc_4, h⟩ := obd h
  refine ksK_i (ws2 := (kwX3_kindBy cI cZ cG)) (nW := 0) (As := [.int (((a0).toUInt32 % 65536).toInt32)]) (rest := []) X hw (cJ0_indexOf_0f7a4_oK_ct l D cI cZ cG (((a0).toUInt32 % 65536).toInt32) N x_4 hc_4 H.size) mJ0_indexOf_0f7a4 tw_272 (hrm.call (by decide) (by decide)) [] rfl (by decide) rfl (by decide) rfl trivial rfl hl.1 rfl (Nat.le_of_ble_eq_true rfl) dX3_kindBy_4 ⟨hrm.2.2.1, hrm.2.2.2⟩ (fun H locs hw => ?_)
  obtain rfl := Option.some.inj h
  exact ret _ _ _ _ dX3_kindBy_7 hw
set_option maxHeartbeats 4000000 in
set_option maxRecDepth 100000 in
theorem cX3_kindBy_ct (l : Launch) (D : va_G) (cI cZ cG : ClassId)    (a0 : Int32) (N : Nat) (ρ : Int32) (h : fX3_kindBy N a0   = some ρ) (sz : Nat) : Met l yX3_kindBy (wz yX3_kindBy cX3_kindBy 1 (some .int)) (cRm 4 91) (cPre D (TY cI cZ cG) [.int a0] (kwX3_kindBy cI cZ cG) sz) (cQi D (ρ) (kwX3_kindBy cI cZ cG) (kwX3_kindBy cI cZ cG) sz) 0 0 (va_A (kwX3_kindBy cI cZ cG) sz) :=
  mk_i (by decide) (Nat.le_of_ble_eq_true rfl) (fun X hrm ret hw hl => wX3_kindBy X hrm ret h _ _ _ hw hl)
theorem dX3_fits_0 : decode cX3_fits 0 = .ok (.iload_n 0, 1) := by decide +kernel
theorem dX3_fits_1 : decode cX3_fits 1 = .ok (.bipush 12, 2) := by decide +kernel
theorem dX3_fits_3 : decode cX3_fits 3 = .ok (.if_icmp .ge 21, 3) := by decide +kernel
theorem dX3_fits_6 : decode cX3_fits 6 = .ok (.iload_n 1, 1) := by decide +kernel
theorem dX3_fits_7 : decode cX3_fits 7 = .ok (.bipush 48, 2) := by decide +kernel
theorem dX3_fits_9 : decode cX3_fits 9 = .ok (.if_icmp .lt 13, 3) := by decide +kernel
theorem dX3_fits_12 : decode cX3_fits 12 = .ok (.iload_n 1, 1) := by decide +kernel
theorem dX3_fits_13 : decode cX3_fits 13 = .ok (.bipush 57, 2) := by decide +kernel
theorem dX3_fits_15 : decode cX3_fits 15 = .ok (.if_icmp .gt 7, 3) := by decide +kernel
theorem dX3_fits_18 : decode cX3_fits 18 = .ok (.iconst 1, 1) := by decide +kernel
theorem dX3_fits_19 : decode cX3_fits 19 = .ok (.goto 4, 3) := by decide +kernel
theorem dX3_fits_22 : decode cX3_fits 22 = .ok (.iconst 0, 1) := by decide +kernel
theorem dX3_fits_23 : decode cX3_fits 23 = .ok (.ireturn, 1) := by decide +kernel
theorem dX3_fits_24 : decode cX3_fits 24 = .ok (.iload_n 0, 1) := by decide +kernel
theorem dX3_fits_25 : decode cX3_fits 25 = .ok (.bipush 12, 2) := by decide +kernel
theorem dX3_fits_27 : decode cX3_fits 27 = .ok (.if_icmp .ne 15, 3) := by decide +kernel
theorem dX3_fits_30 : decode cX3_fits 30 = .ok (.iload_n 1, 1) := by decide +kernel
theorem dX3_fits_31 : decode cX3_fits 31 = .ok (.bipush 59, 2) := by decide +kernel
theorem dX3_fits_33 : decode cX3_fits 33 = .ok (.if_icmp .ne 7, 3) := by decide +kernel
theorem dX3_fits_36 : decode cX3_fits 36 = .ok (.iconst 1, 1) := by decide +kernel
theorem dX3_fits_37 : decode cX3_fits 37 = .ok (.goto 4, 3) := by decide +kernel
theorem dX3_fits_40 : decode cX3_fits 40 = .ok (.iconst 0, 1) := by decide +kernel
theorem dX3_fits_41 : decode cX3_fits 41 = .ok (.ireturn, 1) := by decide +kernel
theorem dX3_fits_42 : decode cX3_fits 42 = .ok (.iload_n 0, 1) := by decide +kernel
theorem dX3_fits_43 : decode cX3_fits 43 = .ok (.bipush 30, 2) := by decide +kernel
theorem dX3_fits_45 : decode cX3_fits 45 = .ok (.if_icmp .lt 5, 3) := by decide +kernel
theorem dX3_fits_48 : decode cX3_fits 48 = .ok (.iconst 0, 1) := by decide +kernel
theorem dX3_fits_49 : decode cX3_fits 49 = .ok (.ireturn, 1) := by decide +kernel
theorem dX3_fits_50 : decode cX3_fits 50 = .ok (.iload_n 0, 1) := by decide +kernel
theorem dX3_fits_51 : decode cX3_fits 51 = .ok (.bipush 12, 2) := by decide +kernel
theorem dX3_fits_53 : decode cX3_fits 53 = .ok (.isub, 1) := by decide +kernel
theorem dX3_fits_54 : decode cX3_fits 54 = .ok (.iconst 3, 1) := by decide +kernel
theorem dX3_fits_55 : decode cX3_fits 55 = .ok (.irem, 1) := by decide +kernel
theorem dX3_fits_56 : decode cX3_fits 56 = .ok (.lookupswitch 60 #[(1, 28), (2, 42)], 28) := by decide +kernel
theorem dX3_fits_84 : decode cX3_fits 84 = .ok (.iload_n 1, 1) := by decide +kernel
theorem dX3_fits_85 : decode cX3_fits 85 = .ok (.invokestatic 33, 3) := by decide +kernel
theorem dX3_fits_88 : decode cX3_fits 88 = .ok (.iconst (-1), 1) := by decide +kernel
theorem dX3_fits_89 : decode cX3_fits 89 = .ok (.if_icmp .eq 7, 3) := by decide +kernel
theorem dX3_fits_92 : decode cX3_fits 92 = .ok (.iconst 1, 1) := by decide +kernel
theorem dX3_fits_93 : decode cX3_fits 93 = .ok (.goto 4, 3) := by decide +kernel
theorem dX3_fits_96 : decode cX3_fits 96 = .ok (.iconst 0, 1) := by decide +kernel
theorem dX3_fits_97 : decode cX3_fits 97 = .ok (.ireturn, 1) := by decide +kernel
theorem dX3_fits_98 : decode cX3_fits 98 = .ok (.iload_n 1, 1) := by decide +kernel
theorem dX3_fits_99 : decode cX3_fits 99 = .ok (.bipush 97, 2) := by decide +kernel
theorem dX3_fits_101 : decode cX3_fits 101 = .ok (.if_icmp .lt 13, 3) := by decide +kernel
theorem dX3_fits_104 : decode cX3_fits 104 = .ok (.iload_n 1, 1) := by decide +kernel
theorem dX3_fits_105 : decode cX3_fits 105 = .ok (.bipush 108, 2) := by decide +kernel
theorem dX3_fits_107 : decode cX3_fits 107 = .ok (.if_icmp .gt 7, 3) := by decide +kernel
theorem dX3_fits_110 : decode cX3_fits 110 = .ok (.iconst 1, 1) := by decide +kernel
theorem dX3_fits_111 : decode cX3_fits 111 = .ok (.goto 4, 3) := by decide +kernel
theorem dX3_fits_114 : decode cX3_fits 114 = .ok (.iconst 0, 1) := by decide +kernel
theorem dX3_fits_115 : decode cX3_fits 115 = .ok (.ireturn, 1) := by decide +kernel
theorem dX3_fits_116 : decode cX3_fits 116 = .ok (.iload_n 1, 1) := by decide +kernel
theorem dX3_fits_117 : decode cX3_fits 117 = .ok (.bipush 44, 2) := by decide +kernel
theorem dX3_fits_119 : decode cX3_fits 119 = .ok (.if_icmp .ne 7, 3) := by decide +kernel
theorem dX3_fits_122 : decode cX3_fits 122 = .ok (.iconst 1, 1) := by decide +kernel
theorem dX3_fits_123 : decode cX3_fits 123 = .ok (.goto 4, 3) := by decide +kernel
theorem dX3_fits_126 : decode cX3_fits 126 = .ok (.iconst 0, 1) := by decide +kernel
theorem dX3_fits_127 : decode cX3_fits 127 = .ok (.ireturn, 1) := by decide +kernel
abbrev kwX3_fits (cI cZ cG : ClassId) : va_W := []
noncomputable def fX3_fits (N : Nat) (a0 : Int32) (a1 : Int32)   : Option (Int32) := if (12 : Int32) ≤ a0 then (if a0 = (12 : Int32) then (if a1 = (59 : Int32) then (some (1 : Int32)) else (some (0 : Int32))) else (if a0 < (30 : Int32) then (if ((a0 - (12 : Int32)) - (a0 - (12 : Int32)) / (3 : Int32) * (3 : Int32)) = (1 : Int32) then ((fX3_kindBy N a1).bind (fun x_85 => if x_85 = (-1 : Int32) then (some (0 : Int32)) else (some (1 : Int32)))) else (if ((a0 - (12 : Int32)) - (a0 - (12 : Int32)) / (3 : Int32) * (3 : Int32)) = (2 : Int32) then (if a1 < (97 : Int32) then (some (0 : Int32)) else (if (108 : Int32) < a1 then (some (0 : Int32)) else (some (1 : Int32)))) else (if a1 = (44 : Int32) then (some (1 : Int32)) else (some (0 : Int32))))) else (some (0 : Int32)))) else (if a1 < (48 : Int32) then (some (0 : Int32)) else (if (57 : Int32) < a1 then (some (0 : Int32)) else (some (1 : Int32))))
set_option maxHeartbeats 4000000 in
set_option maxRecDepth 100000 in
theorem wX3_fits {p : Program} {l : Launch} {e : Env} {R : Room} {s : State} {m : MethodId} {args : Array Value} {below : List Frame} {meth : Method} {c : Code} {cells slots : Nat} {Q : State → Prop} {D : va_G} {A : Nat → Prop} {cI cZ cG : ClassId} {a0 : Int32} {a1 : Int32} {N : Nat} {ρ : Int32} (X : CX p s m args c cX3_fits 2 RX3 D (TY cI cZ cG) A) (hrm : RM R 5 111 cells slots) (ret : ∀ (pc : Nat) (H : Heap) (locs : List Loc) (ls : Array Slot), narrow .boolean (.int ρ) = .int ρ → decode cX3_fits pc = .ok (.ireturn, 1) → WD D A (kwX3_fits cI cZ cG) s.heap H locs → W p l e R s m args below meth c H locs cells slots Q (F0 m pc ls [.int ρ])) (h : fX3_fits N a0 a1   = some ρ) (H : Heap) (locs : List Loc) (ls : Array Slot) (hw : WD D A (kwX3_fits cI cZ cG) s.heap H locs) (hl : lv_has ls 2 [(0, .int a0), (1, .int a1)]) : W p l e R s m args below meth c H locs cells slots Q (F0 m 0 ls []) := by
  have hx := X.1.1
  have hb := X.1.2.1
  unfold fX3_fits at h
  refine lv_iload_n hx hb dX3_fits_0 rfl (lv_at hl 0 rfl) ?_
  refine lv_bipush (v := (12 : Int32)) hx hb dX3_fits_1 (by decide) ?_
  refine lv_icmp_ge (tgt := 24) hx hb dX3_fits_3 (by decide) (fun c_3 => ?_) (fun c_3 => ?_)
  · have h := ift c_3 h
    refine lv_iload_n hx hb dX3_fits_24 rfl (lv_at hl 0 rfl) ?_
    refine lv_bipush (v := (12 : Int32)) hx hb dX3_fits_25 (by decide) ?_
    refine lv_icmp_ne (tgt := 42) hx hb dX3_fits_27 (by decide) (fun c_27 => ?_) (fun c_27 => ?_)
    · have h := iff_ c_27 h
      refine lv_iload_n hx hb dX3_fits_42 rfl (lv_at hl 0 rfl) ?_
      refine lv_bipush (v := (30 : Int32)) hx hb dX3_fits_43 (by decide) ?_
      refine lv_icmp_lt (tgt := 50) hx hb dX3_fits_45 (by decide) (fun c_45 => ?_) (fun c_45 => ?_)
      · have h := ift c_45 h
        refine lv_iload_n hx hb dX3_fits_50 rfl (lv_at hl 0 rfl) ?_
        refine lv_bipush (v := (12 : Int32)) hx hb dX3_fits_51 (by decide) ?_
        refine lv_isub hx hb dX3_fits_53 ?_
        refine lv_iconst (v := (3 : Int32)) hx hb dX3_fits_54 (by decide) ?_
        refine lv_irem hx hb dX3_fits_55 (by decide) ?_
        by_cases c_56_0 : ((a0 - (12 : Int32)) - (a0 - (12 : Int32)) / (3 : Int32) * (3 : Int32)) = (1 : Int32)
        · have h := ift c_56_0 h
          refine lv_lookup (off := 28) (tgt := 84) hx hb dX3_fits_56 (by decide) (by rw [c_56_0]; rfl) (by decide) ?_
          refine lv_iload_n hx hb dX3_fits_84 rfl (lv_at hl 1 rfl) ?_
          obtain ⟨x_85, hc_85, h⟩ := obd h
          refine ksS_i (ws2 := (kwX3_fits cI cZ cG)) (nW := 0) (As := [.int a1]) (rest := []) X hw (cX3_kindBy_ct l D cI cZ cG a1 N x_85 hc_85 H.size) mX3_kindBy tw_275 (hrm.call (by decide) (by decide)) [] rfl (by decide) rfl (by decide) rfl trivial rfl hl.1 rfl (Nat.le_of_ble_eq_true rfl) dX3_fits_85 ⟨hrm.2.2.1, hrm.2.2.2⟩ (fun H locs hw => ?_)
          refine lv_iconst (v := (-1 : Int32)) hx hb dX3_fits_88 (by decide) ?_
          refine lv_icmp_eq (tgt := 96) hx hb dX3_fits_89 (by decide) (fun c_89 => ?_) (fun c_89 => ?_)
          · have h := ift c_89 h
            refine lv_iconst (v := (0 : Int32)) hx hb dX3_fits_96 (by decide) ?_
            obtain rfl := Option.some.inj h
            exact ret _ _ _ _ (show narrow .boolean (.int (0 : Int32)) = .int (0 : Int32) from rfl) dX3_fits_97 hw
          · have h := iff_ c_89 h
            refine lv_iconst (v := (1 : Int32)) hx hb dX3_fits_92 (by decide) ?_
            refine lv_goto (tgt := 97) hx hb dX3_fits_93 (by decide) ?_
            obtain rfl := Option.some.inj h
            exact ret _ _ _ _ (show narrow .boolean (.int (1 : Int32)) = .int (1 : Int32) from rfl) dX3_fits_97 hw
        have h := iff_ c_56_0 h
        by_cases c_56_1 : ((a0 - (12 : Int32)) - (a0 - (12 : Int32)) / (3 : Int32) * (3 : Int32)) = (2 : Int32)
        · have h := ift c_56_1 h
          refine lv_lookup (off := 42) (tgt := 98) hx hb dX3_fits_56 (by decide) (by rw [c_56_1]; rfl) (by decide) ?_
          refine lv_iload_n hx hb dX3_fits_98 rfl (lv_at hl 1 rfl) ?_
          refine lv_bipush (v := (97 : Int32)) hx hb dX3_fits_99 (by decide) ?_
          refine lv_icmp_lt (tgt := 114) hx hb dX3_fits_101 (by decide) (fun c_101 => ?_) (fun c_101 => ?_)
          · have h := ift c_101 h
            refine lv_iconst (v := (0 : Int32)) hx hb dX3_fits_114 (by decide) ?_
            obtain rfl := Option.some.inj h
            exact ret _ _ _ _ (show narrow .boolean (.int (0 : Int32)) = .int (0 : Int32) from rfl) dX3_fits_115 hw
          · have h := iff_ c_101 h
            refine lv_iload_n hx hb dX3_fits_104 rfl (lv_at hl 1 rfl) ?_
            refine lv_bipush (v := (108 : Int32)) hx hb dX3_fits_105 (by decide) ?_
            refine lv_icmp_gt (tgt := 114) hx hb dX3_fits_107 (by decide) (fun c_107 => ?_) (fun c_107 => ?_)
            · have h := ift c_107 h
              refine lv_iconst (v := (0 : Int32)) hx hb dX3_fits_114 (by decide) ?_
              obtain rfl := Option.some.inj h
              exact ret _ _ _ _ (show narrow .boolean (.int (0 : Int32)) = .int (0 : Int32) from rfl) dX3_fits_115 hw
            · have h := iff_ c_107 h
              refine lv_iconst (v := (1 : Int32)) hx hb dX3_fits_110 (by decide) ?_
              refine lv_goto (tgt := 115) hx hb dX3_fits_111 (by decide) ?_
              obtain rfl := Option.some.inj h
              exact ret _ _ _ _ (show narrow .boolean (.int (1 : Int32)) = .int (1 : Int32) from rfl) dX3_fits_115 hw
        have h := iff_ c_56_1 h
        refine lv_lookup (off := 60) (tgt := 116) hx hb dX3_fits_56 (by decide) (by show Op.lookupswitch.offset [(1, 28), (2, 42)] _ _ = _; rw [lv_osw c_56_0 (by decide)]; rw [lv_osw c_56_1 (by decide)]; rfl) (by decide) ?_
        refine lv_iload_n hx hb dX3_fits_116 rfl (lv_at hl 1 rfl) ?_
        refine lv_bipush (v := (44 : Int32)) hx hb dX3_fits_117 (by decide) ?_
        refine lv_icmp_ne (tgt := 126) hx hb dX3_fits_119 (by decide) (fun c_119 => ?_) (fun c_119 => ?_)
        · have h := iff_ c_119 h
          refine lv_iconst (v := (0 : Int32)) hx hb dX3_fits_126 (by decide) ?_
          obtain rfl := Option.some.inj h
          exact ret _ _ _ _ (show narrow .boolean (.int (0 : Int32)) = .int (0 : Int32) from rfl) dX3_fits_127 hw
        · have h := ift c_119 h
          refine lv_iconst (v := (1 : Int32)) hx hb dX3_fits_122 (by decide) ?_
          refine lv_goto (tgt := 127) hx hb dX3_fits_123 (by decide) ?_
          obtain rfl := Option.some.inj h
          exact ret _ _ _ _ (show narrow .boolean (.int (1 : Int32)) = .int (1 : Int32) from rfl) dX3_fits_127 hw
      · have h := iff_ c_45 h
        refine lv_iconst (v := (0 : Int32)) hx hb dX3_fits_48 (by decide) ?_
        obtain rfl := Option.some.inj h
        exact ret _ _ _ _ (show narrow .boolean (.int (0 : Int32)) = .int (0 : Int32) from rfl) dX3_fits_49 hw
    · have h := ift c_27 h
      refine lv_iload_n hx hb dX3_fits_30 rfl (lv_at hl 1 rfl) ?_
      refine lv_bipush (v := (59 : Int32)) hx hb dX3_fits_31 (by decide) ?_
      refine lv_icmp_ne (tgt := 40) hx hb dX3_fits_33 (by decide) (fun c_33 => ?_) (fun c_33 => ?_)
      · have h := iff_ c_33 h
        refine lv_iconst (v := (0 : Int32)) hx hb dX3_fits_40 (by decide) ?_
        obtain rfl := Option.some.inj h
        exact ret _ _ _ _ (show narrow .boolean (.int (0 : Int32)) = .int (0 : Int32) from rfl) dX3_fits_41 hw
      · have h := ift c_33 h
        refine lv_iconst (v := (1 : Int32)) hx hb dX3_fits_36 (by decide) ?_
        refine lv_goto (tgt := 41) hx hb dX3_fits_37 (by decide) ?_
        obtain rfl := Option.some.inj h
        exact ret _ _ _ _ (show narrow .boolean (.int (1 : Int32)) = .int (1 : Int32) from rfl) dX3_fits_41 hw
  · have h := iff_ c_3 h
    refine lv_iload_n hx hb dX3_fits_6 rfl (lv_at hl 1 rfl) ?_
    refine lv_bipush (v := (48 : Int32)) hx hb dX3_fits_7 (by decide) ?_
    refine lv_icmp_lt (tgt := 22) hx hb dX3_fits_9 (by decide) (fun c_9 => ?_) (fun c_9 => ?_)
    · have h := ift c_9 h
      refine lv_iconst (v := (0 : Int32)) hx hb dX3_fits_22 (by decide) ?_
      obtain rfl := Option.some.inj h
      exact ret _ _ _ _ (show narrow .boolean (.int (0 : Int32)) = .int (0 : Int32) from rfl) dX3_fits_23 hw
    · have h := iff_ c_9 h
      refine lv_iload_n hx hb dX3_fits_12 rfl (lv_at hl 1 rfl) ?_
      refine lv_bipush (v := (57 : Int32)) hx hb dX3_fits_13 (by decide) ?_
      refine lv_icmp_gt (tgt := 22) hx hb dX3_fits_15 (by decide) (fun c_15 => ?_) (fun c_15 => ?_)
      · have h := ift c_15 h
        refine lv_iconst (v := (0 : Int32)) hx hb dX3_fits_22 (by decide) ?_
        obtain rfl := Option.some.inj h
        exact ret _ _ _ _ (show narrow .boolean (.int (0 : Int32)) = .int (0 : Int32) from rfl) dX3_fits_23 hw
      · have h := iff_ c_15 h
        refine lv_iconst (v := (1 : Int32)) hx hb dX3_fits_18 (by decide) ?_
        refine lv_goto (tgt := 23) hx hb dX3_fits_19 (by decide) ?_
        obtain rfl := Option.some.inj h
        exact ret _ _ _ _ (show narrow .boolean (.int (1 : Int32)) = .int (1 : Int32) from rfl) dX3_fits_23 hw
set_option maxHeartbeats 4000000 in
set_option maxRecDepth 100000 in
theorem cX3_fits_ct (l : Launch) (D : va_G) (cI cZ cG : ClassId)    (a0 : Int32) (a1 : Int32) (N : Nat) (ρ : Int32) (h : fX3_fits N a0 a1   = some ρ) (sz : Nat) : Met l yX3_fits (wz yX3_fits cX3_fits 2 (some .boolean)) (cRm 5 111) (cPre D (TY cI cZ cG) [.int a0, .int a1] (kwX3_fits cI cZ cG) sz) (cQi D (ρ) (kwX3_fits cI cZ cG) (kwX3_fits cI cZ cG) sz) 0 0 (va_A (kwX3_fits cI cZ cG) sz) :=
  mk_z (by decide) (Nat.le_of_ble_eq_true rfl) (fun X hrm ret hw hl => wX3_fits X hrm ret h _ _ _ hw hl)
theorem dX3_firstWrong_0 : decode cX3_firstWrong 0 = .ok (.iconst 0, 1) := by decide +kernel
theorem dX3_firstWrong_1 : decode cX3_firstWrong 1 = .ok (.istore_n 1, 1) := by decide +kernel
theorem dX3_firstWrong_2 : decode cX3_firstWrong 2 = .ok (.iload_n 1, 1) := by decide +kernel
theorem dX3_firstWrong_3 : decode cX3_firstWrong 3 = .ok (.aload_n 0, 1) := by decide +kernel
theorem dX3_firstWrong_4 : decode cX3_firstWrong 4 = .ok (.getfield 15, 3) := by decide +kernel
theorem dX3_firstWrong_7 : decode cX3_firstWrong 7 = .ok (.if_icmp .ge 24, 3) := by decide +kernel
theorem dX3_firstWrong_10 : decode cX3_firstWrong 10 = .ok (.iload_n 1, 1) := by decide +kernel
theorem dX3_firstWrong_11 : decode cX3_firstWrong 11 = .ok (.aload_n 0, 1) := by decide +kernel
theorem dX3_firstWrong_12 : decode cX3_firstWrong 12 = .ok (.getfield 9, 3) := by decide +kernel
theorem dX3_firstWrong_15 : decode cX3_firstWrong 15 = .ok (.iload_n 1, 1) := by decide +kernel
theorem dX3_firstWrong_16 : decode cX3_firstWrong 16 = .ok (.iaload, 1) := by decide +kernel
theorem dX3_firstWrong_17 : decode cX3_firstWrong 17 = .ok (.invokestatic 19, 3) := by decide +kernel
theorem dX3_firstWrong_20 : decode cX3_firstWrong 20 = .ok (.ifCond .ne 5, 3) := by decide +kernel
theorem dX3_firstWrong_23 : decode cX3_firstWrong 23 = .ok (.iload_n 1, 1) := by decide +kernel
theorem dX3_firstWrong_24 : decode cX3_firstWrong 24 = .ok (.ireturn, 1) := by decide +kernel
theorem dX3_firstWrong_25 : decode cX3_firstWrong 25 = .ok (.iinc 1 1, 3) := by decide +kernel
theorem dX3_firstWrong_28 : decode cX3_firstWrong 28 = .ok (.goto (-26), 3) := by decide +kernel
theorem dX3_firstWrong_31 : decode cX3_firstWrong 31 = .ok (.aload_n 0, 1) := by decide +kernel
theorem dX3_firstWrong_32 : decode cX3_firstWrong 32 = .ok (.getfield 15, 3) := by decide +kernel
theorem dX3_firstWrong_35 : decode cX3_firstWrong 35 = .ok (.ireturn, 1) := by decide +kernel
abbrev kwX3_firstWrong (cI cZ cG : ClassId) (q q_letters : Nat) (v_size : Int32) (v_letters : (Nat → Int32)) : va_W := [(q, .inr (3, [.ref q_letters, .int v_size])), (q_letters, .inl (cI, 32, .inl v_letters))]
noncomputable def fX3_firstWrong_2 (N : Nat) (v_size : Int32) (v_letters : (Nat → Int32))  (K_2 : Int32 → Option (Int32)) (l1 : Int32) : Option (Int32) := if v_size ≤ l1 then (some v_size) else (if l1 < 0 ∨ 32 ≤ (l1).toNatClampNeg then none else ((fX3_fits N l1 (v_letters (l1).toNatClampNeg)).bind (fun x_17 => if x_17 = 0 then (some l1) else (K_2 (l1 + (1 : Int32))))))
noncomputable def fX3_firstWrong (N : Nat) (v_size : Int32) (v_letters : (Nat → Int32))   : Option (Int32) := lfix (fun (K : Int32 → Option (Int32)) (a : Int32) => fX3_firstWrong_2 N v_size v_letters (fun (l1 : Int32) => K l1) a) N (0 : Int32)
set_option maxHeartbeats 4000000 in
set_option maxRecDepth 100000 in
theorem wX3_firstWrong_2 {p : Program} {l : Launch} {e : Env} {R : Room} {s : State} {m : MethodId} {args : Array Value} {below : List Frame} {meth : Method} {c : Code} {cells slots : Nat} {Q : State → Prop} {D : va_G} {A : Nat → Prop} {cI cZ cG : ClassId} {q q_letters : Nat} {v_size : Int32} {v_letters : (Nat → Int32)} {N : Nat} {ρ : Int32} (X : CX p s m args c cX3_firstWrong 2 RX3 D (TY cI cZ cG) A) (hrm : RM R 6 132 cells slots) (ret : ∀ (pc : Nat) (H : Heap) (locs : List Loc) (ls : Array Slot), decode cX3_firstWrong pc = .ok (.ireturn, 1) → WD D A (kwX3_firstWrong cI cZ cG q q_letters v_size v_letters) s.heap H locs → W p l e R s m args below meth c H locs cells slots Q (F0 m pc ls [.int ρ]))  : ∀ (n : Nat) (a : Int32), lfix (fun (K : Int32 → Option (Int32)) (a : Int32) => fX3_firstWrong_2 N v_size v_letters (fun (l1 : Int32) => K l1) a) n a = some ρ → (fun (l1 : Int32) => ∀ (H : Heap) (locs : List Loc) (ls : Array Slot), WD D A (kwX3_firstWrong cI cZ cG q q_letters v_size v_letters) s.heap H locs → lv_has ls 2 [(0, .ref q), (1, .int l1)] → W p l e R s m args below meth c H locs cells slots Q (F0 m 2 ls [])) (a) := by
  have hx := X.1.1
  have hb := X.1.2.1
  refine lfix_W (fun K hK a h => ?_)
  obtain ⟨l1, rfl⟩ : ∃ z, z = a := ⟨_, rfl⟩
  intro H locs ls hw hl
  have h : fX3_firstWrong_2 N v_size v_letters (fun (l1 : Int32) => K l1) l1 = some ρ := h
  have hK_2 : ∀ (l1 : Int32), (fun (l1 : Int32) => K l1) l1 = some ρ → ∀ (H : Heap) (locs : List Loc) (ls : Array Slot), WD D A (kwX3_firstWrong cI cZ cG q q_letters v_size v_letters) s.heap H locs → lv_has ls 2 [(0, .ref q), (1, .int l1)] → W p l e R s m args below meth c H locs cells slots Q (F0 m 2 ls []) := fun l1 h => hK l1 h
  generalize (fun (l1 : Int32) => K l1) = K_2 at h hK_2
  have hw : WD D A (kwX3_firstWrong cI cZ cG q q_letters v_size v_letters) s.heap H locs := hw
  have hl : lv_has ls 2 [(0, .ref q), (1, .int l1)] := hl
  unfold fX3_firstWrong_2 at h
  refine lv_iload_n hx hb dX3_firstWrong_2 rfl (lv_at hl 1 rfl) ?_
  refine lv_aload_n hx hb dX3_firstWrong_3 rfl (lv_at hl 0 rfl) ?_
  refine kget (ci := 3) (v := .int v_size) X hw iX3 0 rfl rfl 1 (by decide) tw_85 rfl dX3_firstWrong_4 ?_
  refine lv_icmp_ge (tgt := 31) hx hb dX3_firstWrong_7 (by decide) (fun c_7 => ?_) (fun c_7 => ?_)
  · have h := ift c_7 h
    refine lv_aload_n hx hb dX3_firstWrong_31 rfl (lv_at hl 0 rfl) ?_
    refine kget (ci := 3) (v := .int v_size) X hw iX3 0 rfl rfl 1 (by decide) tw_85 rfl dX3_firstWrong_32 ?_
    obtain rfl := Option.some.inj h
    exact ret _ _ _ _ dX3_firstWrong_35 hw
  · have h := iff_ c_7 h
    refine lv_iload_n hx hb dX3_firstWrong_10 rfl (lv_at hl 1 rfl) ?_
    refine lv_aload_n hx hb dX3_firstWrong_11 rfl (lv_at hl 0 rfl) ?_
    refine kget (ci := 3) (v := .ref q_letters) X hw iX3 0 rfl rfl 0 (by decide) tw_94 rfl dX3_firstWrong_12 ?_
    refine lv_iload_n hx hb dX3_firstWrong_15 rfl (lv_at hl 1 rfl) ?_
    obtain ⟨g_16, h⟩ := gd h
    refine kiald X hw 1 rfl rfl g_16 dX3_firstWrong_16 ?_
    obtain ⟨x_17, hc_17, h⟩ := obd h
    refine ksS_i (ws2 := (kwX3_firstWrong cI cZ cG q q_letters v_size v_letters)) (nW := 2) (As := [.int l1, .int (v_letters (l1).toNatClampNeg)]) (rest := []) X hw (cX3_fits_ct l D cI cZ cG l1 (v_letters (l1).toNatClampNeg) N x_17 hc_17 H.size) mX3_fits tw_278 (hrm.call (by decide) (by decide)) [] rfl (by decide) rfl (by decide) rfl ⟨rfl, ⟨rfl, trivial⟩⟩ rfl hl.1 rfl (Nat.le_of_ble_eq_true rfl) dX3_firstWrong_17 ⟨hrm.2.2.1, hrm.2.2.2⟩ (fun H locs hw => ?_)
    refine lv_if_ne (tgt := 25) hx hb dX3_firstWrong_20 (by decide) (fun c_20 => ?_) (fun c_20 => ?_)
    · have h := iff_ c_20 h
      refine lv_iinc (v := (l1 + (1 : Int32))) (lv' := [(1, .int (l1 + (1 : Int32))), (0, .ref q)]) hx hb dX3_firstWrong_25 hl (k := 1) rfl (congrArg (l1 + ·) (by decide)) (by decide) rfl (fun ls hl => ?_)
      refine lv_goto (tgt := 2) hx hb dX3_firstWrong_28 (by decide) ?_
      exact hK_2 _ h _ _ _ hw (lv_sub hl [1, 0] rfl)
    · have h := ift c_20 h
      refine lv_iload_n hx hb dX3_firstWrong_23 rfl (lv_at hl 1 rfl) ?_
      obtain rfl := Option.some.inj h
      exact ret _ _ _ _ dX3_firstWrong_24 hw
set_option maxHeartbeats 4000000 in
set_option maxRecDepth 100000 in
theorem wX3_firstWrong {p : Program} {l : Launch} {e : Env} {R : Room} {s : State} {m : MethodId} {args : Array Value} {below : List Frame} {meth : Method} {c : Code} {cells slots : Nat} {Q : State → Prop} {D : va_G} {A : Nat → Prop} {cI cZ cG : ClassId} {q q_letters : Nat} {v_size : Int32} {v_letters : (Nat → Int32)} {N : Nat} {ρ : Int32} (X : CX p s m args c cX3_firstWrong 2 RX3 D (TY cI cZ cG) A) (hrm : RM R 6 132 cells slots) (ret : ∀ (pc : Nat) (H : Heap) (locs : List Loc) (ls : Array Slot), decode cX3_firstWrong pc = .ok (.ireturn, 1) → WD D A (kwX3_firstWrong cI cZ cG q q_letters v_size v_letters) s.heap H locs → W p l e R s m args below meth c H locs cells slots Q (F0 m pc ls [.int ρ])) (h : fX3_firstWrong N v_size v_letters   = some ρ) (H : Heap) (locs : List Loc) (ls : Array Slot) (hw : WD D A (kwX3_firstWrong cI cZ cG q q_letters v_size v_letters) s.heap H locs) (hl : lv_has ls 2 [(0, .ref q)]) : W p l e R s m args below meth c H locs cells slots Q (F0 m 0 ls []) := by
  have hx := X.1.1
  have hb := X.1.2.1
  unfold fX3_firstWrong at h
  refine lv_iconst (v := (0 : Int32)) hx hb dX3_firstWrong_0 (by decide) ?_
  refine lv_istore_n (lv' := [(1, .int (0 : Int32)), (0, .ref q)]) hx hb dX3_firstWrong_1 rfl hl (by decide) rfl (fun ls hl => ?_)
  exact wX3_firstWrong_2 X hrm ret  _ _ h _ _ _ hw (lv_sub hl [1, 0] rfl)
set_option maxHeartbeats 4000000 in
set_option maxRecDepth 100000 in
theorem cX3_firstWrong_ct (l : Launch) (D : va_G) (cI cZ cG : ClassId) (q q_letters : Nat)  (v_size : Int32) (v_letters : (Nat → Int32))  (N : Nat) (ρ : Int32) (h : fX3_firstWrong N v_size v_letters   = some ρ) (sz : Nat) : Met l yX3_firstWrong (wz yX3_firstWrong cX3_firstWrong 2 (some .int)) (cRm 6 132) (cPre D (TY cI cZ cG) [.ref q] (kwX3_firstWrong cI cZ cG q q_letters v_size v_letters) sz) (cQi D (ρ) (kwX3_firstWrong cI cZ cG q q_letters v_size v_letters) (kwX3_firstWrong cI cZ cG q q_letters v_size v_letters) sz) 0 0 (va_A (kwX3_firstWrong cI cZ cG q q_letters v_size v_letters) sz) :=
  mk_i (by decide) (Nat.le_of_ble_eq_true rfl) (fun X hrm ret hw hl => wX3_firstWrong X hrm ret h _ _ _ hw hl)
theorem dX3_isSquare_0 : decode cX3_isSquare 0 = .ok (.aload_n 0, 1) := by decide +kernel
theorem dX3_isSquare_1 : decode cX3_isSquare 1 = .ok (.getfield 15, 3) := by decide +kernel
theorem dX3_isSquare_4 : decode cX3_isSquare 4 = .ok (.bipush 12, 2) := by decide +kernel
theorem dX3_isSquare_6 : decode cX3_isSquare 6 = .ok (.isub, 1) := by decide +kernel
theorem dX3_isSquare_7 : decode cX3_isSquare 7 = .ok (.istore_n 1, 1) := by decide +kernel
theorem dX3_isSquare_8 : decode cX3_isSquare 8 = .ok (.iload_n 1, 1) := by decide +kernel
theorem dX3_isSquare_9 : decode cX3_isSquare 9 = .ok (.bipush 6, 2) := by decide +kernel
theorem dX3_isSquare_11 : decode cX3_isSquare 11 = .ok (.if_icmp .lt 24, 3) := by decide +kernel
theorem dX3_isSquare_14 : decode cX3_isSquare 14 = .ok (.iload_n 1, 1) := by decide +kernel
theorem dX3_isSquare_15 : decode cX3_isSquare 15 = .ok (.iconst 3, 1) := by decide +kernel
theorem dX3_isSquare_16 : decode cX3_isSquare 16 = .ok (.irem, 1) := by decide +kernel
theorem dX3_isSquare_17 : decode cX3_isSquare 17 = .ok (.ifCond .ne 18, 3) := by decide +kernel
theorem dX3_isSquare_20 : decode cX3_isSquare 20 = .ok (.aload_n 0, 1) := by decide +kernel
theorem dX3_isSquare_21 : decode cX3_isSquare 21 = .ok (.invokevirtual 23, 3) := by decide +kernel
theorem dX3_isSquare_24 : decode cX3_isSquare 24 = .ok (.aload_n 0, 1) := by decide +kernel
theorem dX3_isSquare_25 : decode cX3_isSquare 25 = .ok (.getfield 15, 3) := by decide +kernel
theorem dX3_isSquare_28 : decode cX3_isSquare 28 = .ok (.if_icmp .ne 7, 3) := by decide +kernel
theorem dX3_isSquare_31 : decode cX3_isSquare 31 = .ok (.iconst 1, 1) := by decide +kernel
theorem dX3_isSquare_32 : decode cX3_isSquare 32 = .ok (.goto 4, 3) := by decide +kernel
theorem dX3_isSquare_35 : decode cX3_isSquare 35 = .ok (.iconst 0, 1) := by decide +kernel
theorem dX3_isSquare_36 : decode cX3_isSquare 36 = .ok (.ireturn, 1) := by decide +kernel
abbrev kwX3_isSquare (cI cZ cG : ClassId) (q q_letters : Nat) (v_size : Int32) (v_letters : (Nat → Int32)) : va_W := [(q, .inr (3, [.ref q_letters, .int v_size])), (q_letters, .inl (cI, 32, .inl v_letters))]
noncomputable def fX3_isSquare (N : Nat) (v_size : Int32) (v_letters : (Nat → Int32))   : Option (Int32) := if (v_size - (12 : Int32)) < (6 : Int32) then (some (0 : Int32)) else (if ((v_size - (12 : Int32)) - (v_size - (12 : Int32)) / (3 : Int32) * (3 : Int32)) = 0 then ((fX3_firstWrong N v_size v_letters).bind (fun x_21 => if x_21 = v_size then (some (1 : Int32)) else (some (0 : Int32)))) else (some (0 : Int32)))
set_option maxHeartbeats 4000000 in
set_option maxRecDepth 100000 in
theorem wX3_isSquare {p : Program} {l : Launch} {e : Env} {R : Room} {s : State} {m : MethodId} {args : Array Value} {below : List Frame} {meth : Method} {c : Code} {cells slots : Nat} {Q : State → Prop} {D : va_G} {A : Nat → Prop} {cI cZ cG : ClassId} {q q_letters : Nat} {v_size : Int32} {v_letters : (Nat → Int32)} {N : Nat} {ρ : Int32} (X : CX p s m args c cX3_isSquare 2 RX3 D (TY cI cZ cG) A) (hrm : RM R 7 153 cells slots) (ret : ∀ (pc : Nat) (H : Heap) (locs : List Loc) (ls : Array Slot), narrow .boolean (.int ρ) = .int ρ → decode cX3_isSquare pc = .ok (.ireturn, 1) → WD D A (kwX3_isSquare cI cZ cG q q_letters v_size v_letters) s.heap H locs → W p l e R s m args below meth c H locs cells slots Q (F0 m pc ls [.int ρ])) (h : fX3_isSquare N v_size v_letters   = some ρ) (H : Heap) (locs : List Loc) (ls : Array Slot) (hw : WD D A (kwX3_isSquare cI cZ cG q q_letters v_size v_letters) s.heap H locs) (hl : lv_has ls 2 [(0, .ref q)]) : W p l e R s m args below meth c H locs cells slots Q (F0 m 0 ls []) := by
  have hx := X.1.1
  have hb := X.1.2.1
  unfold fX3_isSquare at h
  refine lv_aload_n hx hb dX3_isSquare_0 rfl (lv_at hl 0 rfl) ?_
  refine kget (ci := 3) (v := .int v_size) X hw iX3 0 rfl rfl 1 (by decide) tw_85 rfl dX3_isSquare_1 ?_
  refine lv_bipush (v := (12 : Int32)) hx hb dX3_isSquare_4 (by decide) ?_
  refine lv_isub hx hb dX3_isSquare_6 ?_
  refine lv_istore_n (lv' := [(1, .int (v_size - (12 : Int32))), (0, .ref q)]) hx hb dX3_isSquare_7 rfl hl (by decide) rfl (fun ls hl => ?_)
  refine lv_iload_n hx hb dX3_isSquare_8 rfl (lv_at hl 0 rfl) ?_
  refine lv_bipush (v := (6 : Int32)) hx hb dX3_isSquare_9 (by decide) ?_
  refine lv_icmp_lt (tgt := 35) hx hb dX3_isSquare_11 (by decide) (fun c_11 => ?_) (fun c_11 => ?_)
  · have h := ift c_11 h
    refine lv_iconst (v := (0 : Int32)) hx hb dX3_isSquare_35 (by decide) ?_
    obtain rfl := Option.some.inj h
    exact ret _ _ _ _ (show narrow .boolean (.int (0 : Int32)) = .int (0 : Int32) from rfl) dX3_isSquare_36 hw
  · have h := iff_ c_11 h
    refine lv_iload_n hx hb dX3_isSquare_14 rfl (lv_at hl 0 rfl) ?_
    refine lv_iconst (v := (3 : Int32)) hx hb dX3_isSquare_15 (by decide) ?_
    refine lv_irem hx hb dX3_isSquare_16 (by decide) ?_
    refine lv_if_ne (tgt := 35) hx hb dX3_isSquare_17 (by decide) (fun c_17 => ?_) (fun c_17 => ?_)
    · have h := iff_ c_17 h
      refine lv_iconst (v := (0 : Int32)) hx hb dX3_isSquare_35 (by decide) ?_
      obtain rfl := Option.some.inj h
      exact ret _ _ _ _ (show narrow .boolean (.int (0 : Int32)) = .int (0 : Int32) from rfl) dX3_isSquare_36 hw
    · have h := ift c_17 h
      refine lv_aload_n hx hb dX3_isSquare_20 rfl (lv_at hl 1 rfl) ?_
      obtain ⟨x_21, hc_21, h⟩ := obd h
      refine ksV_i (ws2 := (kwX3_isSquare cI cZ cG q q_letters v_size v_letters)) (nW := 2) (ci := 3) (As := []) (rest := []) X hw rfl rfl rfl (cX3_firstWrong_ct l D cI cZ cG q q_letters v_size v_letters N x_21 hc_21 H.size) mX3_firstWrong tw_282 (hrm.call (by decide) (by decide)) [0, 1] rfl (by decide) rfl (by decide) rfl trivial rfl hl.1 rfl (Nat.le_of_ble_eq_true rfl) dX3_isSquare_21 ⟨hrm.2.2.1, hrm.2.2.2⟩ (fun H locs hw => ?_)
      refine lv_aload_n hx hb dX3_isSquare_24 rfl (lv_at hl 1 rfl) ?_
      refine kget (ci := 3) (v := .int v_size) X hw iX3 0 rfl rfl 1 (by decide) tw_85 rfl dX3_isSquare_25 ?_
      refine lv_icmp_ne (tgt := 35) hx hb dX3_isSquare_28 (by decide) (fun c_28 => ?_) (fun c_28 => ?_)
      · have h := iff_ c_28 h
        refine lv_iconst (v := (0 : Int32)) hx hb dX3_isSquare_35 (by decide) ?_
        obtain rfl := Option.some.inj h
        exact ret _ _ _ _ (show narrow .boolean (.int (0 : Int32)) = .int (0 : Int32) from rfl) dX3_isSquare_36 hw
      · have h := ift c_28 h
        refine lv_iconst (v := (1 : Int32)) hx hb dX3_isSquare_31 (by decide) ?_
        refine lv_goto (tgt := 36) hx hb dX3_isSquare_32 (by decide) ?_
        obtain rfl := Option.some.inj h
        exact ret _ _ _ _ (show narrow .boolean (.int (1 : Int32)) = .int (1 : Int32) from rfl) dX3_isSquare_36 hw
set_option maxHeartbeats 4000000 in
set_option maxRecDepth 100000 in
theorem cX3_isSquare_ct (l : Launch) (D : va_G) (cI cZ cG : ClassId) (q q_letters : Nat)  (v_size : Int32) (v_letters : (Nat → Int32))  (N : Nat) (ρ : Int32) (h : fX3_isSquare N v_size v_letters   = some ρ) (sz : Nat) : Met l yX3_isSquare (wz yX3_isSquare cX3_isSquare 2 (some .boolean)) (cRm 7 153) (cPre D (TY cI cZ cG) [.ref q] (kwX3_isSquare cI cZ cG q q_letters v_size v_letters) sz) (cQi D (ρ) (kwX3_isSquare cI cZ cG q q_letters v_size v_letters) (kwX3_isSquare cI cZ cG q q_letters v_size v_letters) sz) 0 0 (va_A (kwX3_isSquare cI cZ cG q q_letters v_size v_letters) sz) :=
  mk_z (by decide) (Nat.le_of_ble_eq_true rfl) (fun X hrm ret hw hl => wX3_isSquare X hrm ret h _ _ _ hw hl)
theorem dX3_kindWritten_0 : decode cX3_kindWritten 0 = .ok (.aload_n 0, 1) := by decide +kernel
theorem dX3_kindWritten_1 : decode cX3_kindWritten 1 = .ok (.getfield 9, 3) := by decide +kernel
theorem dX3_kindWritten_4 : decode cX3_kindWritten 4 = .ok (.bipush 12, 2) := by decide +kernel
theorem dX3_kindWritten_6 : decode cX3_kindWritten 6 = .ok (.iconst 3, 1) := by decide +kernel
theorem dX3_kindWritten_7 : decode cX3_kindWritten 7 = .ok (.iload_n 1, 1) := by decide +kernel
theorem dX3_kindWritten_8 : decode cX3_kindWritten 8 = .ok (.imul, 1) := by decide +kernel
theorem dX3_kindWritten_9 : decode cX3_kindWritten 9 = .ok (.iadd, 1) := by decide +kernel
theorem dX3_kindWritten_10 : decode cX3_kindWritten 10 = .ok (.iconst 1, 1) := by decide +kernel
theorem dX3_kindWritten_11 : decode cX3_kindWritten 11 = .ok (.iadd, 1) := by decide +kernel
theorem dX3_kindWritten_12 : decode cX3_kindWritten 12 = .ok (.iaload, 1) := by decide +kernel
theorem dX3_kindWritten_13 : decode cX3_kindWritten 13 = .ok (.invokestatic 33, 3) := by decide +kernel
theorem dX3_kindWritten_16 : decode cX3_kindWritten 16 = .ok (.ireturn, 1) := by decide +kernel
abbrev kwX3_kindWritten (cI cZ cG : ClassId) (q q_letters : Nat) (v_size : Int32) (v_letters : (Nat → Int32)) : va_W := [(q, .inr (3, [.ref q_letters, .int v_size])), (q_letters, .inl (cI, 32, .inl v_letters))]
noncomputable def fX3_kindWritten (N : Nat) (v_letters : (Nat → Int32)) (a1 : Int32)   : Option (Int32) := if (((12 : Int32) + ((3 : Int32) * a1)) + (1 : Int32)) < 0 ∨ 32 ≤ ((((12 : Int32) + ((3 : Int32) * a1)) + (1 : Int32))).toNatClampNeg then none else ((fX3_kindBy N (v_letters ((((12 : Int32) + ((3 : Int32) * a1)) + (1 : Int32))).toNatClampNeg)).bind (fun x_13 => some x_13))
set_option maxHeartbeats 4000000 in
set_option maxRecDepth 100000 in
theorem wX3_kindWritten {p : Program} {l : Launch} {e : Env} {R : Room} {s : State} {m : MethodId} {args : Array Value} {below : List Frame} {meth : Method} {c : Code} {cells slots : Nat} {Q : State → Prop} {D : va_G} {A : Nat → Prop} {cI cZ cG : ClassId} {q q_letters : Nat} {v_size : Int32} {v_letters : (Nat → Int32)} {a1 : Int32} {N : Nat} {ρ : Int32} (X : CX p s m args c cX3_kindWritten 2 RX3 D (TY cI cZ cG) A) (hrm : RM R 5 111 cells slots) (ret : ∀ (pc : Nat) (H : Heap) (locs : List Loc) (ls : Array Slot), decode cX3_kindWritten pc = .ok (.ireturn, 1) → WD D A (kwX3_kindWritten cI cZ cG q q_letters v_size v_letters) s.heap H locs → W p l e R s m args below meth c H locs cells slots Q (F0 m pc ls [.int ρ])) (h : fX3_kindWritten N v_letters a1   = some ρ) (H : Heap) (locs : List Loc) (ls : Array Slot) (hw : WD D A (kwX3_kindWritten cI cZ cG q q_letters v_size v_letters) s.heap H locs) (hl : lv_has ls 2 [(0, .ref q), (1, .int a1)]) : W p l e R s m args below meth c H locs cells slots Q (F0 m 0 ls []) := by
  have hx := X.1.1
  have hb := X.1.2.1
  unfold fX3_kindWritten at h
  refine lv_aload_n hx hb dX3_kindWritten_0 rfl (lv_at hl 0 rfl) ?_
  refine kget (ci := 3) (v := .ref q_letters) X hw iX3 0 rfl rfl 0 (by decide) tw_94 rfl dX3_kindWritten_1 ?_
  refine lv_bipush (v := (12 : Int32)) hx hb dX3_kindWritten_4 (by decide) ?_
  refine lv_iconst (v := (3 : Int32)) hx hb dX3_kindWritten_6 (by decide) ?_
  refine lv_iload_n hx hb dX3_kindWritten_7 rfl (lv_at hl 1 rfl) ?_
  refine lv_imul hx hb dX3_kindWritten_8 ?_
  refine lv_iadd hx hb dX3_kindWritten_9 ?_
  refine lv_iconst (v := (1 : Int32)) hx hb dX3_kindWritten_10 (by decide) ?_
  refine lv_iadd hx hb dX3_kindWritten_11 ?_
  obtain ⟨g_12, h⟩ := gd h
  refine kiald X hw 1 rfl rfl g_12 dX3_kindWritten_12 ?_
  obtain ⟨x_13, hc_13, h⟩ := obd h
  refine ksS_i (ws2 := (kwX3_kindWritten cI cZ cG q q_letters v_size v_letters)) (nW := 2) (As := [.int (v_letters ((((12 : Int32) + ((3 : Int32) * a1)) + (1 : Int32))).toNatClampNeg)]) (rest := []) X hw (cX3_kindBy_ct l D cI cZ cG (v_letters ((((12 : Int32) + ((3 : Int32) * a1)) + (1 : Int32))).toNatClampNeg) N x_13 hc_13 H.size) mX3_kindBy tw_275 (hrm.call (by decide) (by decide)) [] rfl (by decide) rfl (by decide) rfl ⟨rfl, ⟨rfl, trivial⟩⟩ rfl hl.1 rfl (Nat.le_of_ble_eq_true rfl) dX3_kindWritten_13 ⟨hrm.2.2.1, hrm.2.2.2⟩ (fun H locs hw => ?_)
  obtain rfl := Option.some.inj h
  exact ret _ _ _ _ dX3_kindWritten_16 hw
set_option maxHeartbeats 4000000 in
set_option maxRecDepth 100000 in
theorem cX3_kindWritten_ct (l : Launch) (D : va_G) (cI cZ cG : ClassId) (q q_letters : Nat)  (v_size : Int32) (v_letters : (Nat → Int32)) (a1 : Int32) (N : Nat) (ρ : Int32) (h : fX3_kindWritten N v_letters a1   = some ρ) (sz : Nat) : Met l yX3_kindWritten (wz yX3_kindWritten cX3_kindWritten 2 (some .int)) (cRm 5 111) (cPre D (TY cI cZ cG) [.ref q, .int a1] (kwX3_kindWritten cI cZ cG q q_letters v_size v_letters) sz) (cQi D (ρ) (kwX3_kindWritten cI cZ cG q q_letters v_size v_letters) (kwX3_kindWritten cI cZ cG q q_letters v_size v_letters) sz) 0 0 (va_A (kwX3_kindWritten cI cZ cG q q_letters v_size v_letters) sz) :=
  mk_i (by decide) (Nat.le_of_ble_eq_true rfl) (fun X hrm ret hw hl => wX3_kindWritten X hrm ret h _ _ _ hw hl)
theorem dX6_beginWith_0 : decode cX6_beginWith 0 = .ok (.aload_n 0, 1) := by decide +kernel
theorem dX6_beginWith_1 : decode cX6_beginWith 1 = .ok (.iload_n 2, 1) := by decide +kernel
theorem dX6_beginWith_2 : decode cX6_beginWith 2 = .ok (.aload_n 1, 1) := by decide +kernel
theorem dX6_beginWith_3 : decode cX6_beginWith 3 = .ok (.arraylength, 1) := by decide +kernel
theorem dX6_beginWith_4 : decode cX6_beginWith 4 = .ok (.bipush 6, 2) := by decide +kernel
theorem dX6_beginWith_6 : decode cX6_beginWith 6 = .ok (.invokestatic 24, 3) := by decide +kernel
theorem dX6_beginWith_9 : decode cX6_beginWith 9 = .ok (.invokestatic 24, 3) := by decide +kernel
theorem dX6_beginWith_12 : decode cX6_beginWith 12 = .ok (.putfield 30, 3) := by decide +kernel
theorem dX6_beginWith_15 : decode cX6_beginWith 15 = .ok (.aload_n 0, 1) := by decide +kernel
theorem dX6_beginWith_16 : decode cX6_beginWith 16 = .ok (.aload_n 0, 1) := by decide +kernel
theorem dX6_beginWith_17 : decode cX6_beginWith 17 = .ok (.getfield 30, 3) := by decide +kernel
theorem dX6_beginWith_20 : decode cX6_beginWith 20 = .ok (.iconst 1, 1) := by decide +kernel
theorem dX6_beginWith_21 : decode cX6_beginWith 21 = .ok (.isub, 1) := by decide +kernel
theorem dX6_beginWith_22 : decode cX6_beginWith 22 = .ok (.putfield 34, 3) := by decide +kernel
theorem dX6_beginWith_25 : decode cX6_beginWith 25 = .ok (.aload_n 0, 1) := by decide +kernel
theorem dX6_beginWith_26 : decode cX6_beginWith 26 = .ok (.iconst 0, 1) := by decide +kernel
theorem dX6_beginWith_27 : decode cX6_beginWith 27 = .ok (.putfield 37, 3) := by decide +kernel
theorem dX6_beginWith_30 : decode cX6_beginWith 30 = .ok (.iconst 0, 1) := by decide +kernel
theorem dX6_beginWith_31 : decode cX6_beginWith 31 = .ok (.istore_n 3, 1) := by decide +kernel
theorem dX6_beginWith_32 : decode cX6_beginWith 32 = .ok (.iload_n 3, 1) := by decide +kernel
theorem dX6_beginWith_33 : decode cX6_beginWith 33 = .ok (.bipush 12, 2) := by decide +kernel
theorem dX6_beginWith_35 : decode cX6_beginWith 35 = .ok (.if_icmp .ge 16, 3) := by decide +kernel
theorem dX6_beginWith_38 : decode cX6_beginWith 38 = .ok (.aload_n 0, 1) := by decide +kernel
theorem dX6_beginWith_39 : decode cX6_beginWith 39 = .ok (.getfield 21, 3) := by decide +kernel
theorem dX6_beginWith_42 : decode cX6_beginWith 42 = .ok (.iload_n 3, 1) := by decide +kernel
theorem dX6_beginWith_43 : decode cX6_beginWith 43 = .ok (.iconst (-1), 1) := by decide +kernel
theorem dX6_beginWith_44 : decode cX6_beginWith 44 = .ok (.iastore, 1) := by decide +kernel
theorem dX6_beginWith_45 : decode cX6_beginWith 45 = .ok (.iinc 3 1, 3) := by decide +kernel
theorem dX6_beginWith_48 : decode cX6_beginWith 48 = .ok (.goto (-16), 3) := by decide +kernel
theorem dX6_beginWith_51 : decode cX6_beginWith 51 = .ok (.iconst 0, 1) := by decide +kernel
theorem dX6_beginWith_52 : decode cX6_beginWith 52 = .ok (.istore_n 3, 1) := by decide +kernel
theorem dX6_beginWith_53 : decode cX6_beginWith 53 = .ok (.iload_n 3, 1) := by decide +kernel
theorem dX6_beginWith_54 : decode cX6_beginWith 54 = .ok (.aload_n 0, 1) := by decide +kernel
theorem dX6_beginWith_55 : decode cX6_beginWith 55 = .ok (.getfield 30, 3) := by decide +kernel
theorem dX6_beginWith_58 : decode cX6_beginWith 58 = .ok (.if_icmp .ge 38, 3) := by decide +kernel
theorem dX6_beginWith_61 : decode cX6_beginWith 61 = .ok (.aload_n 1, 1) := by decide +kernel
theorem dX6_beginWith_62 : decode cX6_beginWith 62 = .ok (.iload_n 3, 1) := by decide +kernel
theorem dX6_beginWith_63 : decode cX6_beginWith 63 = .ok (.iaload, 1) := by decide +kernel
theorem dX6_beginWith_64 : decode cX6_beginWith 64 = .ok (.istore 4, 2) := by decide +kernel
theorem dX6_beginWith_66 : decode cX6_beginWith 66 = .ok (.aload_n 0, 1) := by decide +kernel
theorem dX6_beginWith_67 : decode cX6_beginWith 67 = .ok (.getfield 18, 3) := by decide +kernel
theorem dX6_beginWith_70 : decode cX6_beginWith 70 = .ok (.iload_n 3, 1) := by decide +kernel
theorem dX6_beginWith_71 : decode cX6_beginWith 71 = .ok (.iload 4, 2) := by decide +kernel
theorem dX6_beginWith_73 : decode cX6_beginWith 73 = .ok (.iastore, 1) := by decide +kernel
theorem dX6_beginWith_74 : decode cX6_beginWith 74 = .ok (.aload_n 0, 1) := by decide +kernel
theorem dX6_beginWith_75 : decode cX6_beginWith 75 = .ok (.getfield 15, 3) := by decide +kernel
theorem dX6_beginWith_78 : decode cX6_beginWith 78 = .ok (.iload 4, 2) := by decide +kernel
theorem dX6_beginWith_80 : decode cX6_beginWith 80 = .ok (.iload_n 3, 1) := by decide +kernel
theorem dX6_beginWith_81 : decode cX6_beginWith 81 = .ok (.iastore, 1) := by decide +kernel
theorem dX6_beginWith_82 : decode cX6_beginWith 82 = .ok (.aload_n 0, 1) := by decide +kernel
theorem dX6_beginWith_83 : decode cX6_beginWith 83 = .ok (.getfield 21, 3) := by decide +kernel
theorem dX6_beginWith_86 : decode cX6_beginWith 86 = .ok (.iload_n 3, 1) := by decide +kernel
theorem dX6_beginWith_87 : decode cX6_beginWith 87 = .ok (.iload 4, 2) := by decide +kernel
theorem dX6_beginWith_89 : decode cX6_beginWith 89 = .ok (.iastore, 1) := by decide +kernel
theorem dX6_beginWith_90 : decode cX6_beginWith 90 = .ok (.iinc 3 1, 3) := by decide +kernel
theorem dX6_beginWith_93 : decode cX6_beginWith 93 = .ok (.goto (-40), 3) := by decide +kernel
theorem dX6_beginWith_96 : decode cX6_beginWith 96 = .ok (.return_, 1) := by decide +kernel
abbrev kwX6_beginWith (cI cZ cG : ClassId) (q q_kindOf q_plotOf q_row q_standsOn q1 n_a1 : Nat) (v_houses : Int32) (v_front : Int32) (v_downFor : Int32) (w1_arr : (Nat → Int32)) (v_standsOn : (Nat → Int32)) (v_row : (Nat → Int32)) (v_plotOf : (Nat → Int32)) : va_W := [(q, .inr (6, [.ref q_kindOf, .ref q_plotOf, .ref q_row, .ref q_standsOn, .int v_houses, .int v_front, .int v_downFor])), (q1, .inl (cI, n_a1, .inl w1_arr)), (q_standsOn, .inl (cI, 12, .inl v_standsOn)), (q_row, .inl (cI, 6, .inl v_row)), (q_plotOf, .inl (cI, 6, .inl v_plotOf))]
noncomputable def fX6_beginWith_53 (N : Nat) (n_a1 : Nat) (w1_arr : (Nat → Int32)) (a2 : Int32)  (K_53 : Int32 → Int32 → Int32 → Int32 → (Nat → Int32) → (Nat → Int32) → (Nat → Int32) → Option (Int32 × Int32 × Int32 × (Nat → Int32) × (Nat → Int32) × (Nat → Int32))) (l3 : Int32) (v_houses : Int32) (v_front : Int32) (v_downFor : Int32) (v_standsOn : (Nat → Int32)) (v_row : (Nat → Int32)) (v_plotOf : (Nat → Int32)) : Option (Int32 × Int32 × Int32 × (Nat → Int32) × (Nat → Int32) × (Nat → Int32)) := if v_houses ≤ l3 then (some (v_houses, v_front, v_downFor, v_standsOn, v_row, v_plotOf)) else (if l3 < 0 ∨ n_a1 ≤ (l3).toNatClampNeg then none else (if l3 < 0 ∨ 6 ≤ (l3).toNatClampNeg then none else (if (w1_arr (l3).toNatClampNeg) < 0 ∨ 6 ≤ ((w1_arr (l3).toNatClampNeg)).toNatClampNeg then none else (if l3 < 0 ∨ 12 ≤ (l3).toNatClampNeg then none else (K_53 (l3 + (1 : Int32)) v_houses v_front v_downFor (upd v_standsOn (l3).toNatClampNeg (w1_arr (l3).toNatClampNeg)) (upd v_row (l3).toNatClampNeg (w1_arr (l3).toNatClampNeg)) (upd v_plotOf ((w1_arr (l3).toNatClampNeg)).toNatClampNeg l3))))))
noncomputable def fX6_beginWith_32 (N : Nat) (n_a1 : Nat) (w1_arr : (Nat → Int32)) (a2 : Int32)  (K_32 : Int32 → Int32 → Int32 → Int32 → (Nat → Int32) → (Nat → Int32) → (Nat → Int32) → Option (Int32 × Int32 × Int32 × (Nat → Int32) × (Nat → Int32) × (Nat → Int32))) (l3 : Int32) (v_houses : Int32) (v_front : Int32) (v_downFor : Int32) (v_standsOn : (Nat → Int32)) (v_row : (Nat → Int32)) (v_plotOf : (Nat → Int32)) : Option (Int32 × Int32 × Int32 × (Nat → Int32) × (Nat → Int32) × (Nat → Int32)) := if (12 : Int32) ≤ l3 then (lfix (fun (K : Int32 × Int32 × Int32 × Int32 × (Nat → Int32) × (Nat → Int32) × (Nat → Int32) → Option (Int32 × Int32 × Int32 × (Nat → Int32) × (Nat → Int32) × (Nat → Int32))) (a : Int32 × Int32 × Int32 × Int32 × (Nat → Int32) × (Nat → Int32) × (Nat → Int32)) => fX6_beginWith_53 N n_a1 w1_arr a2 (fun (l3 : Int32) (v_houses : Int32) (v_front : Int32) (v_downFor : Int32) (v_standsOn : (Nat → Int32)) (v_row : (Nat → Int32)) (v_plotOf : (Nat → Int32)) => K (l3, v_houses, v_front, v_downFor, v_standsOn, v_row, v_plotOf)) a.1 a.2.1 a.2.2.1 a.2.2.2.1 a.2.2.2.2.1 a.2.2.2.2.2.1 a.2.2.2.2.2.2) N ((0 : Int32), v_houses, v_front, v_downFor, v_standsOn, v_row, v_plotOf)) else (if l3 < 0 ∨ 12 ≤ (l3).toNatClampNeg then none else (K_32 (l3 + (1 : Int32)) v_houses v_front v_downFor (upd v_standsOn (l3).toNatClampNeg (-1 : Int32)) v_row v_plotOf))
noncomputable def fX6_beginWith (N : Nat) (n_a1 : Nat) (w1_arr : (Nat → Int32)) (a2 : Int32) (v_houses : Int32) (v_front : Int32) (v_downFor : Int32) (v_standsOn : (Nat → Int32)) (v_row : (Nat → Int32)) (v_plotOf : (Nat → Int32))  : Option (Int32 × Int32 × Int32 × (Nat → Int32) × (Nat → Int32) × (Nat → Int32)) := lfix (fun (K : Int32 × Int32 × Int32 × Int32 × (Nat → Int32) × (Nat → Int32) × (Nat → Int32) → Option (Int32 × Int32 × Int32 × (Nat → Int32) × (Nat → Int32) × (Nat → Int32))) (a : Int32 × Int32 × Int32 × Int32 × (Nat → Int32) × (Nat → Int32) × (Nat → Int32)) => fX6_beginWith_32 N n_a1 w1_arr a2 (fun (l3 : Int32) (v_houses : Int32) (v_front : Int32) (v_downFor : Int32) (v_standsOn : (Nat → Int32)) (v_row : (Nat → Int32)) (v_plotOf : (Nat → Int32)) => K (l3, v_houses, v_front, v_downFor, v_standsOn, v_row, v_plotOf)) a.1 a.2.1 a.2.2.1 a.2.2.2.1 a.2.2.2.2.1 a.2.2.2.2.2.1 a.2.2.2.2.2.2) N ((0 : Int32), (if (if (6 : Int32) < (Int32.ofNat n_a1) then (6 : Int32) else (Int32.ofNat n_a1)) < a2 then (if (6 : Int32) < (Int32.ofNat n_a1) then (6 : Int32) else (Int32.ofNat n_a1)) else a2), ((if (if (6 : Int32) < (Int32.ofNat n_a1) then (6 : Int32) else (Int32.ofNat n_a1)) < a2 then (if (6 : Int32) < (Int32.ofNat n_a1) then (6 : Int32) else (Int32.ofNat n_a1)) else a2) - (1 : Int32)), (0 : Int32), v_standsOn, v_row, v_plotOf)
set_option maxHeartbeats 4000000 in
set_option maxRecDepth 100000 in
theorem wX6_beginWith_53 {p : Program} {l : Launch} {e : Env} {R : Room} {s : State} {m : MethodId} {args : Array Value} {below : List Frame} {meth : Method} {c : Code} {cells slots : Nat} {Q : State → Prop} {D : va_G} {A : Nat → Prop} {cI cZ cG : ClassId} {q q_kindOf q_plotOf q_row q_standsOn q1 : Nat} {n_a1 : Nat} {w1_arr : (Nat → Int32)} {a2 : Int32} {N : Nat} {ρ : Int32 × Int32 × Int32 × (Nat → Int32) × (Nat → Int32) × (Nat → Int32)} (X : CX p s m args c cX6_beginWith 5 RX6 D (TY cI cZ cG) A) (hrm : RM R 1 21 cells slots) (ret : ∀ (pc : Nat) (H : Heap) (locs : List Loc) (ls : Array Slot), decode cX6_beginWith pc = .ok (.return_, 1) → WD D A (kwX6_beginWith cI cZ cG q q_kindOf q_plotOf q_row q_standsOn q1 n_a1 (ρ.1) (ρ.2.1) (ρ.2.2.1) w1_arr (ρ.2.2.2.1) (ρ.2.2.2.2.1) (ρ.2.2.2.2.2)) s.heap H locs → W p l e R s m args below meth c H locs cells slots Q (F0 m pc ls []))  : ∀ (n : Nat) (a : Int32 × Int32 × Int32 × Int32 × (Nat → Int32) × (Nat → Int32) × (Nat → Int32)), lfix (fun (K : Int32 × Int32 × Int32 × Int32 × (Nat → Int32) × (Nat → Int32) × (Nat → Int32) → Option (Int32 × Int32 × Int32 × (Nat → Int32) × (Nat → Int32) × (Nat → Int32))) (a : Int32 × Int32 × Int32 × Int32 × (Nat → Int32) × (Nat → Int32) × (Nat → Int32)) => fX6_beginWith_53 N n_a1 w1_arr a2 (fun (l3 : Int32) (v_houses : Int32) (v_front : Int32) (v_downFor : Int32) (v_standsOn : (Nat → Int32)) (v_row : (Nat → Int32)) (v_plotOf : (Nat → Int32)) => K (l3, v_houses, v_front, v_downFor, v_standsOn, v_row, v_plotOf)) a.1 a.2.1 a.2.2.1 a.2.2.2.1 a.2.2.2.2.1 a.2.2.2.2.2.1 a.2.2.2.2.2.2) n a = some ρ → (fun (l3 : Int32) (v_houses : Int32) (v_front : Int32) (v_downFor : Int32) (v_standsOn : (Nat → Int32)) (v_row : (Nat → Int32)) (v_plotOf : (Nat → Int32)) => ∀ (H : Heap) (locs : List Loc) (ls : Array Slot), WD D A (kwX6_beginWith cI cZ cG q q_kindOf q_plotOf q_row q_standsOn q1 n_a1 v_houses v_front v_downFor w1_arr v_standsOn v_row v_plotOf) s.heap H locs → lv_has ls 5 [(0, .ref q), (1, .ref q1), (3, .int l3)] → W p l e R s m args below meth c H locs cells slots Q (F0 m 53 ls [])) (a.1) (a.2.1) (a.2.2.1) (a.2.2.2.1) (a.2.2.2.2.1) (a.2.2.2.2.2.1) (a.2.2.2.2.2.2) := by
  have hx := X.1.1
  have hb := X.1.2.1
  refine lfix_W (fun K hK a h => ?_)
  obtain ⟨l3, v_houses, v_front, v_downFor, v_standsOn, v_row, v_plotOf⟩ := a
  intro H locs ls hw hl
  have h : fX6_beginWith_53 N n_a1 w1_arr a2 (fun (l3 : Int32) (v_houses : Int32) (v_front : Int32) (v_downFor : Int32) (v_standsOn : (Nat → Int32)) (v_row : (Nat → Int32)) (v_plotOf : (Nat → Int32)) => K (l3, v_houses, v_front, v_downFor, v_standsOn, v_row, v_plotOf)) l3 v_houses v_front v_downFor v_standsOn v_row v_plotOf = some ρ := h
  have hK_53 : ∀ (l3 : Int32) (v_houses : Int32) (v_front : Int32) (v_downFor : Int32) (v_standsOn : (Nat → Int32)) (v_row : (Nat → Int32)) (v_plotOf : (Nat → Int32)), (fun (l3 : Int32) (v_houses : Int32) (v_front : Int32) (v_downFor : Int32) (v_standsOn : (Nat → Int32)) (v_row : (Nat → Int32)) (v_plotOf : (Nat → Int32)) => K (l3, v_houses, v_front, v_downFor, v_standsOn, v_row, v_plotOf)) l3 v_houses v_front v_downFor v_standsOn v_row v_plotOf = some ρ → ∀ (H : Heap) (locs : List Loc) (ls : Array Slot), WD D A (kwX6_beginWith cI cZ cG q q_kindOf q_plotOf q_row q_standsOn q1 n_a1 v_houses v_front v_downFor w1_arr v_standsOn v_row v_plotOf) s.heap H locs → lv_has ls 5 [(0, .ref q), (1, .ref q1), (3, .int l3)] → W p l e R s m args below meth c H locs cells slots Q (F0 m 53 ls []) := fun l3 v_houses v_front v_downFor v_standsOn v_row v_plotOf h => hK (l3, v_houses, v_front, v_downFor, v_standsOn, v_row, v_plotOf) h
  generalize (fun (l3 : Int32) (v_houses : Int32) (v_front : Int32) (v_downFor : Int32) (v_standsOn : (Nat → Int32)) (v_row : (Nat → Int32)) (v_plotOf : (Nat → Int32)) => K (l3, v_houses, v_front, v_downFor, v_standsOn, v_row, v_plotOf)) = K_53 at h hK_53
  have hw : WD D A (kwX6_beginWith cI cZ cG q q_kindOf q_plotOf q_row q_standsOn q1 n_a1 v_houses v_front v_downFor w1_arr v_standsOn v_row v_plotOf) s.heap H locs := hw
  have hl : lv_has ls 5 [(0, .ref q), (1, .ref q1), (3, .int l3)] := hl
  unfold fX6_beginWith_53 at h
  refine lv_iload_n hx hb dX6_beginWith_53 rfl (lv_at hl 2 rfl) ?_
  refine lv_aload_n hx hb dX6_beginWith_54 rfl (lv_at hl 0 rfl) ?_
  refine kget (ci := 6) (v := .int v_houses) X hw iX6 0 rfl rfl 4 (by decide) tw_137 rfl dX6_beginWith_55 ?_
  refine lv_icmp_ge (tgt := 96) hx hb dX6_beginWith_58 (by decide) (fun c_58 => ?_) (fun c_58 => ?_)
  · have h := ift c_58 h
    obtain rfl := Option.some.inj h
    exact ret _ _ _ _ dX6_beginWith_96 hw
  · have h := iff_ c_58 h
    refine lv_aload_n hx hb dX6_beginWith_61 rfl (lv_at hl 1 rfl) ?_
    refine lv_iload_n hx hb dX6_beginWith_62 rfl (lv_at hl 2 rfl) ?_
    obtain ⟨g_63, h⟩ := gd h
    refine kiald X hw 1 rfl rfl g_63 dX6_beginWith_63 ?_
    refine lv_istore (lv' := [(4, .int (w1_arr (l3).toNatClampNeg)), (0, .ref q), (1, .ref q1), (3, .int l3)]) hx hb dX6_beginWith_64 hl (by decide) rfl (fun ls hl => ?_)
    refine lv_aload_n hx hb dX6_beginWith_66 rfl (lv_at hl 1 rfl) ?_
    refine kget (ci := 6) (v := .ref q_row) X hw iX6 0 rfl rfl 2 (by decide) tw_145 rfl dX6_beginWith_67 ?_
    refine lv_iload_n hx hb dX6_beginWith_70 rfl (lv_at hl 3 rfl) ?_
    refine lv_iload hx hb dX6_beginWith_71 (lv_at hl 0 rfl) ?_
    obtain ⟨g_73, h⟩ := gd h
    refine kiast X hw 3 rfl rfl g_73 dX6_beginWith_73 (fun H locs hw => ?_)
    have hw : WD D A (kwX6_beginWith cI cZ cG q q_kindOf q_plotOf q_row q_standsOn q1 n_a1 v_houses v_front v_downFor w1_arr v_standsOn (upd v_row (l3).toNatClampNeg (w1_arr (l3).toNatClampNeg)) v_plotOf) s.heap H locs := hw
    refine lv_aload_n hx hb dX6_beginWith_74 rfl (lv_at hl 1 rfl) ?_
    refine kget (ci := 6) (v := .ref q_plotOf) X hw iX6 0 rfl rfl 1 (by decide) tw_114 rfl dX6_beginWith_75 ?_
    refine lv_iload hx hb dX6_beginWith_78 (lv_at hl 0 rfl) ?_
    refine lv_iload_n hx hb dX6_beginWith_80 rfl (lv_at hl 3 rfl) ?_
    obtain ⟨g_81, h⟩ := gd h
    refine kiast X hw 4 rfl rfl g_81 dX6_beginWith_81 (fun H locs hw => ?_)
    have hw : WD D A (kwX6_beginWith cI cZ cG q q_kindOf q_plotOf q_row q_standsOn q1 n_a1 v_houses v_front v_downFor w1_arr v_standsOn (upd v_row (l3).toNatClampNeg (w1_arr (l3).toNatClampNeg)) (upd v_plotOf ((w1_arr (l3).toNatClampNeg)).toNatClampNeg l3)) s.heap H locs := hw
    refine lv_aload_n hx hb dX6_beginWith_82 rfl (lv_at hl 1 rfl) ?_
    refine kget (ci := 6) (v := .ref q_standsOn) X hw iX6 0 rfl rfl 3 (by decide) tw_146 rfl dX6_beginWith_83 ?_
    refine lv_iload_n hx hb dX6_beginWith_86 rfl (lv_at hl 3 rfl) ?_
    refine lv_iload hx hb dX6_beginWith_87 (lv_at hl 0 rfl) ?_
    obtain ⟨g_89, h⟩ := gd h
    refine kiast X hw 2 rfl rfl g_89 dX6_beginWith_89 (fun H locs hw => ?_)
    have hw : WD D A (kwX6_beginWith cI cZ cG q q_kindOf q_plotOf q_row q_standsOn q1 n_a1 v_houses v_front v_downFor w1_arr (upd v_standsOn (l3).toNatClampNeg (w1_arr (l3).toNatClampNeg)) (upd v_row (l3).toNatClampNeg (w1_arr (l3).toNatClampNeg)) (upd v_plotOf ((w1_arr (l3).toNatClampNeg)).toNatClampNeg l3)) s.heap H locs := hw
    refine lv_iinc (v := (l3 + (1 : Int32))) (lv' := [(3, .int (l3 + (1 : Int32))), (4, .int (w1_arr (l3).toNatClampNeg)), (0, .ref q), (1, .ref q1)]) hx hb dX6_beginWith_90 hl (k := 3) rfl (congrArg (l3 + ·) (by decide)) (by decide) rfl (fun ls hl => ?_)
    refine lv_goto (tgt := 53) hx hb dX6_beginWith_93 (by decide) ?_
    exact hK_53 _ _ _ _ _ _ _ h _ _ _ hw (lv_sub hl [2, 3, 0] rfl)
set_option maxHeartbeats 4000000 in
set_option maxRecDepth 100000 in
theorem wX6_beginWith_32 {p : Program} {l : Launch} {e : Env} {R : Room} {s : State} {m : MethodId} {args : Array Value} {below : List Frame} {meth : Method} {c : Code} {cells slots : Nat} {Q : State → Prop} {D : va_G} {A : Nat → Prop} {cI cZ cG : ClassId} {q q_kindOf q_plotOf q_row q_standsOn q1 : Nat} {n_a1 : Nat} {w1_arr : (Nat → Int32)} {a2 : Int32} {N : Nat} {ρ : Int32 × Int32 × Int32 × (Nat → Int32) × (Nat → Int32) × (Nat → Int32)} (X : CX p s m args c cX6_beginWith 5 RX6 D (TY cI cZ cG) A) (hrm : RM R 1 21 cells slots) (ret : ∀ (pc : Nat) (H : Heap) (locs : List Loc) (ls : Array Slot), decode cX6_beginWith pc = .ok (.return_, 1) → WD D A (kwX6_beginWith cI cZ cG q q_kindOf q_plotOf q_row q_standsOn q1 n_a1 (ρ.1) (ρ.2.1) (ρ.2.2.1) w1_arr (ρ.2.2.2.1) (ρ.2.2.2.2.1) (ρ.2.2.2.2.2)) s.heap H locs → W p l e R s m args below meth c H locs cells slots Q (F0 m pc ls []))  : ∀ (n : Nat) (a : Int32 × Int32 × Int32 × Int32 × (Nat → Int32) × (Nat → Int32) × (Nat → Int32)), lfix (fun (K : Int32 × Int32 × Int32 × Int32 × (Nat → Int32) × (Nat → Int32) × (Nat → Int32) → Option (Int32 × Int32 × Int32 × (Nat → Int32) × (Nat → Int32) × (Nat → Int32))) (a : Int32 × Int32 × Int32 × Int32 × (Nat → Int32) × (Nat → Int32) × (Nat → Int32)) => fX6_beginWith_32 N n_a1 w1_arr a2 (fun (l3 : Int32) (v_houses : Int32) (v_front : Int32) (v_downFor : Int32) (v_standsOn : (Nat → Int32)) (v_row : (Nat → Int32)) (v_plotOf : (Nat → Int32)) => K (l3, v_houses, v_front, v_downFor, v_standsOn, v_row, v_plotOf)) a.1 a.2.1 a.2.2.1 a.2.2.2.1 a.2.2.2.2.1 a.2.2.2.2.2.1 a.2.2.2.2.2.2) n a = some ρ → (fun (l3 : Int32) (v_houses : Int32) (v_front : Int32) (v_downFor : Int32) (v_standsOn : (Nat → Int32)) (v_row : (Nat → Int32)) (v_plotOf : (Nat → Int32)) => ∀ (H : Heap) (locs : List Loc) (ls : Array Slot), WD D A (kwX6_beginWith cI cZ cG q q_kindOf q_plotOf q_row q_standsOn q1 n_a1 v_houses v_front v_downFor w1_arr v_standsOn v_row v_plotOf) s.heap H locs → lv_has ls 5 [(0, .ref q), (1, .ref q1), (3, .int l3)] → W p l e R s m args below meth c H locs cells slots Q (F0 m 32 ls [])) (a.1) (a.2.1) (a.2.2.1) (a.2.2.2.1) (a.2.2.2.2.1) (a.2.2.2.2.2.1) (a.2.2.2.2.2.2) := by
  have hx := X.1.1
  have hb := X.1.2.1
  refine lfix_W (fun K hK a h => ?_)
  obtain ⟨l3, v_houses, v_front, v_downFor, v_standsOn, v_row, v_plotOf⟩ := a
  intro H locs ls hw hl
  have h : fX6_beginWith_32 N n_a1 w1_arr a2 (fun (l3 : Int32) (v_houses : Int32) (v_front : Int32) (v_downFor : Int32) (v_standsOn : (Nat → Int32)) (v_row : (Nat → Int32)) (v_plotOf : (Nat → Int32)) => K (l3, v_houses, v_front, v_downFor, v_standsOn, v_row, v_plotOf)) l3 v_houses v_front v_downFor v_standsOn v_row v_plotOf = some ρ := h
  have hK_32 : ∀ (l3 : Int32) (v_houses : Int32) (v_front : Int32) (v_downFor : Int32) (v_standsOn : (Nat → Int32)) (v_row : (Nat → Int32)) (v_plotOf : (Nat → Int32)), (fun (l3 : Int32) (v_houses : Int32) (v_front : Int32) (v_downFor : Int32) (v_standsOn : (Nat → Int32)) (v_row : (Nat → Int32)) (v_plotOf : (Nat → Int32)) => K (l3, v_houses, v_front, v_downFor, v_standsOn, v_row, v_plotOf)) l3 v_houses v_front v_downFor v_standsOn v_row v_plotOf = some ρ → ∀ (H : Heap) (locs : List Loc) (ls : Array Slot), WD D A (kwX6_beginWith cI cZ cG q q_kindOf q_plotOf q_row q_standsOn q1 n_a1 v_houses v_front v_downFor w1_arr v_standsOn v_row v_plotOf) s.heap H locs → lv_has ls 5 [(0, .ref q), (1, .ref q1), (3, .int l3)] → W p l e R s m args below meth c H locs cells slots Q (F0 m 32 ls []) := fun l3 v_houses v_front v_downFor v_standsOn v_row v_plotOf h => hK (l3, v_houses, v_front, v_downFor, v_standsOn, v_row, v_plotOf) h
  generalize (fun (l3 : Int32) (v_houses : Int32) (v_front : Int32) (v_downFor : Int32) (v_standsOn : (Nat → Int32)) (v_row : (Nat → Int32)) (v_plotOf : (Nat → Int32)) => K (l3, v_houses, v_front, v_downFor, v_standsOn, v_row, v_plotOf)) = K_32 at h hK_32
  have hw : WD D A (kwX6_beginWith cI cZ cG q q_kindOf q_plotOf q_row q_standsOn q1 n_a1 v_houses v_front v_downFor w1_arr v_standsOn v_row v_plotOf) s.heap H locs := hw
  have hl : lv_has ls 5 [(0, .ref q), (1, .ref q1), (3, .int l3)] := hl
  unfold fX6_beginWith_32 at h
  refine lv_iload_n hx hb dX6_beginWith_32 rfl (lv_at hl 2 rfl) ?_
  refine lv_bipush (v := (12 : Int32)) hx hb dX6_beginWith_33 (by decide) ?_
  refine lv_icmp_ge (tgt := 51) hx hb dX6_beginWith_35 (by decide) (fun c_35 => ?_) (fun c_35 => ?_)
  · have h := ift c_35 h
    refine lv_iconst (v := (0 : Int32)) hx hb dX6_beginWith_51 (by decide) ?_
    refine lv_istore_n (lv' := [(3, .int (0 : Int32)), (0, .ref q), (1, .ref q1)]) hx hb dX6_beginWith_52 rfl hl (by decide) rfl (fun ls hl => ?_)
    exact wX6_beginWith_53 X hrm ret  _ _ h _ _ _ hw (lv_sub hl [1, 2, 0] rfl)
  · have h := iff_ c_35 h
    refine lv_aload_n hx hb dX6_beginWith_38 rfl (lv_at hl 0 rfl) ?_
    refine kget (ci := 6) (v := .ref q_standsOn) X hw iX6 0 rfl rfl 3 (by decide) tw_146 rfl dX6_beginWith_39 ?_
    refine lv_iload_n hx hb dX6_beginWith_42 rfl (lv_at hl 2 rfl) ?_
    refine lv_iconst (v := (-1 : Int32)) hx hb dX6_beginWith_43 (by decide) ?_
    obtain ⟨g_44, h⟩ := gd h
    refine kiast X hw 2 rfl rfl g_44 dX6_beginWith_44 (fun H locs hw => ?_)
    have hw : WD D A (kwX6_beginWith cI cZ cG q q_kindOf q_plotOf q_row q_standsOn q1 n_a1 v_houses v_front v_downFor w1_arr (upd v_standsOn (l3).toNatClampNeg (-1 : Int32)) v_row v_plotOf) s.heap H locs := hw
    refine lv_iinc (v := (l3 + (1 : Int32))) (lv' := [(3, .int (l3 + (1 : Int32))), (0, .ref q), (1, .ref q1)]) hx hb dX6_beginWith_45 hl (k := 2) rfl (congrArg (l3 + ·) (by decide)) (by decide) rfl (fun ls hl => ?_)
    refine lv_goto (tgt := 32) hx hb dX6_beginWith_48 (by decide) ?_
    exact hK_32 _ _ _ _ _ _ _ h _ _ _ hw (lv_sub hl [1, 2, 0] rfl)
set_option maxHeartbeats 4000000 in
set_option maxRecDepth 100000 in
theorem wX6_beginWith {p : Program} {l : Launch} {e : Env} {R : Room} {s : State} {m : MethodId} {args : Array Value} {below : List Frame} {meth : Method} {c : Code} {cells slots : Nat} {Q : State → Prop} {D : va_G} {A : Nat → Prop} {cI cZ cG : ClassId} {q q_kindOf q_plotOf q_row q_standsOn q1 : Nat} {n_a1 : Nat} {v_houses : Int32} {v_front : Int32} {v_downFor : Int32} {w1_arr : (Nat → Int32)} {v_standsOn : (Nat → Int32)} {v_row : (Nat → Int32)} {v_plotOf : (Nat → Int32)} {a2 : Int32} {N : Nat} {ρ : Int32 × Int32 × Int32 × (Nat → Int32) × (Nat → Int32) × (Nat → Int32)} (X : CX p s m args c cX6_beginWith 5 RX6 D (TY cI cZ cG) A) (hrm : RM R 1 21 cells slots) (ret : ∀ (pc : Nat) (H : Heap) (locs : List Loc) (ls : Array Slot), decode cX6_beginWith pc = .ok (.return_, 1) → WD D A (kwX6_beginWith cI cZ cG q q_kindOf q_plotOf q_row q_standsOn q1 n_a1 (ρ.1) (ρ.2.1) (ρ.2.2.1) w1_arr (ρ.2.2.2.1) (ρ.2.2.2.2.1) (ρ.2.2.2.2.2)) s.heap H locs → W p l e R s m args below meth c H locs cells slots Q (F0 m pc ls [])) (h : fX6_beginWith N n_a1 w1_arr a2 v_houses v_front v_downFor v_standsOn v_row v_plotOf  = some ρ) (H : Heap) (locs : List Loc) (ls : Array Slot) (hw : WD D A (kwX6_beginWith cI cZ cG q q_kindOf q_plotOf q_row q_standsOn q1 n_a1 v_houses v_front v_downFor w1_arr v_standsOn v_row v_plotOf) s.heap H locs) (hl : lv_has ls 5 [(0, .ref q), (1, .ref q1), (2, .int a2)]) : W p l e R s m args below meth c H locs cells slots Q (F0 m 0 ls []) := by
  have hx := X.1.1
  have hb := X.1.2.1
  unfold fX6_beginWith at h
  refine lv_aload_n hx hb dX6_beginWith_0 rfl (lv_at hl 0 rfl) ?_
  refine lv_iload_n hx hb dX6_beginWith_1 rfl (lv_at hl 2 rfl) ?_
  refine lv_aload_n hx hb dX6_beginWith_2 rfl (lv_at hl 1 rfl) ?_
  refine kalen (v := (Int32.ofNat n_a1)) X hw 1 rfl rfl rfl dX6_beginWith_3 ?_
  refine lv_bipush (v := (6 : Int32)) hx hb dX6_beginWith_4 (by decide) ?_
  refine kmin X hl.1 tw_289 tw_87 tw_88 tw_89 (Nat.le_trans (by decide) hrm.1) (Nat.le_trans (Nat.le_of_ble_eq_true rfl) hrm.2.1) ⟨hrm.2.2.1, hrm.2.2.2⟩ dX6_beginWith_6 ?_
  refine kmin X hl.1 tw_289 tw_87 tw_88 tw_89 (Nat.le_trans (by decide) hrm.1) (Nat.le_trans (Nat.le_of_ble_eq_true rfl) hrm.2.1) ⟨hrm.2.2.1, hrm.2.2.2⟩ dX6_beginWith_9 ?_
  refine kput (ci := 6) (v := .int (if (if (6 : Int32) < (Int32.ofNat n_a1) then (6 : Int32) else (Int32.ofNat n_a1)) < a2 then (if (6 : Int32) < (Int32.ofNat n_a1) then (6 : Int32) else (Int32.ofNat n_a1)) else a2)) (ty := .int) X hw iX6 tyX6_ok nmX6 0 rfl rfl 4 (by decide) tw_137 rfl rfl rfl rfl (Nat.le_of_ble_eq_true rfl) dX6_beginWith_12 (fun H locs hw => ?_)
  have hw : WD D A (kwX6_beginWith cI cZ cG q q_kindOf q_plotOf q_row q_standsOn q1 n_a1 (if (if (6 : Int32) < (Int32.ofNat n_a1) then (6 : Int32) else (Int32.ofNat n_a1)) < a2 then (if (6 : Int32) < (Int32.ofNat n_a1) then (6 : Int32) else (Int32.ofNat n_a1)) else a2) v_front v_downFor w1_arr v_standsOn v_row v_plotOf) s.heap H locs := hw
  refine lv_aload_n hx hb dX6_beginWith_15 rfl (lv_at hl 0 rfl) ?_
  refine lv_aload_n hx hb dX6_beginWith_16 rfl (lv_at hl 0 rfl) ?_
  refine kget (ci := 6) (v := .int (if (if (6 : Int32) < (Int32.ofNat n_a1) then (6 : Int32) else (Int32.ofNat n_a1)) < a2 then (if (6 : Int32) < (Int32.ofNat n_a1) then (6 : Int32) else (Int32.ofNat n_a1)) else a2)) X hw iX6 0 rfl rfl 4 (by decide) tw_137 rfl dX6_beginWith_17 ?_
  refine lv_iconst (v := (1 : Int32)) hx hb dX6_beginWith_20 (by decide) ?_
  refine lv_isub hx hb dX6_beginWith_21 ?_
  refine kput (ci := 6) (v := .int ((if (if (6 : Int32) < (Int32.ofNat n_a1) then (6 : Int32) else (Int32.ofNat n_a1)) < a2 then (if (6 : Int32) < (Int32.ofNat n_a1) then (6 : Int32) else (Int32.ofNat n_a1)) else a2) - (1 : Int32))) (ty := .int) X hw iX6 tyX6_ok nmX6 0 rfl rfl 5 (by decide) tw_138 rfl rfl rfl rfl (Nat.le_of_ble_eq_true rfl) dX6_beginWith_22 (fun H locs hw => ?_)
  have hw : WD D A (kwX6_beginWith cI cZ cG q q_kindOf q_plotOf q_row q_standsOn q1 n_a1 (if (if (6 : Int32) < (Int32.ofNat n_a1) then (6 : Int32) else (Int32.ofNat n_a1)) < a2 then (if (6 : Int32) < (Int32.ofNat n_a1) then (6 : Int32) else (Int32.ofNat n_a1)) else a2) ((if (if (6 : Int32) < (Int32.ofNat n_a1) then (6 : Int32) else (Int32.ofNat n_a1)) < a2 then (if (6 : Int32) < (Int32.ofNat n_a1) then (6 : Int32) else (Int32.ofNat n_a1)) else a2) - (1 : Int32)) v_downFor w1_arr v_standsOn v_row v_plotOf) s.heap H locs := hw
  refine lv_aload_n hx hb dX6_beginWith_25 rfl (lv_at hl 0 rfl) ?_
  refine lv_iconst (v := (0 : Int32)) hx hb dX6_beginWith_26 (by decide) ?_
  refine kput (ci := 6) (v := .int (0 : Int32)) (ty := .int) X hw iX6 tyX6_ok nmX6 0 rfl rfl 6 (by decide) tw_139 rfl rfl rfl rfl (Nat.le_of_ble_eq_true rfl) dX6_beginWith_27 (fun H locs hw => ?_)
  have hw : WD D A (kwX6_beginWith cI cZ cG q q_kindOf q_plotOf q_row q_standsOn q1 n_a1 (if (if (6 : Int32) < (Int32.ofNat n_a1) then (6 : Int32) else (Int32.ofNat n_a1)) < a2 then (if (6 : Int32) < (Int32.ofNat n_a1) then (6 : Int32) else (Int32.ofNat n_a1)) else a2) ((if (if (6 : Int32) < (Int32.ofNat n_a1) then (6 : Int32) else (Int32.ofNat n_a1)) < a2 then (if (6 : Int32) < (Int32.ofNat n_a1) then (6 : Int32) else (Int32.ofNat n_a1)) else a2) - (1 : Int32)) (0 : Int32) w1_arr v_standsOn v_row v_plotOf) s.heap H locs := hw
  refine lv_iconst (v := (0 : Int32)) hx hb dX6_beginWith_30 (by decide) ?_
  refine lv_istore_n (lv' := [(3, .int (0 : Int32)), (0, .ref q), (1, .ref q1), (2, .int a2)]) hx hb dX6_beginWith_31 rfl hl (by decide) rfl (fun ls hl => ?_)
  exact wX6_beginWith_32 X hrm ret  _ _ h _ _ _ hw (lv_sub hl [1, 2, 0] rfl)
set_option maxHeartbeats 4000000 in
set_option maxRecDepth 100000 in
theorem cX6_beginWith_ct (l : Launch) (D : va_G) (cI cZ cG : ClassId) (q q_kindOf q_plotOf q_row q_standsOn q1 : Nat) (n_a1 : Nat) (v_houses : Int32) (v_front : Int32) (v_downFor : Int32) (w1_arr : (Nat → Int32)) (v_standsOn : (Nat → Int32)) (v_row : (Nat → Int32)) (v_plotOf : (Nat → Int32)) (a2 : Int32) (N : Nat) (ρ : Int32 × Int32 × Int32 × (Nat → Int32) × (Nat → Int32) × (Nat → Int32)) (h : fX6_beginWith N n_a1 w1_arr a2 v_houses v_front v_downFor v_standsOn v_row v_plotOf  = some ρ) (sz : Nat) : Met l yX6_beginWith (wz yX6_beginWith cX6_beginWith 5 none) (cRm 1 21) (cPre D (TY cI cZ cG) [.ref q, .ref q1, .int a2] (kwX6_beginWith cI cZ cG q q_kindOf q_plotOf q_row q_standsOn q1 n_a1 v_houses v_front v_downFor w1_arr v_standsOn v_row v_plotOf) sz) (cQv D (kwX6_beginWith cI cZ cG q q_kindOf q_plotOf q_row q_standsOn q1 n_a1 v_houses v_front v_downFor w1_arr v_standsOn v_row v_plotOf) (kwX6_beginWith cI cZ cG q q_kindOf q_plotOf q_row q_standsOn q1 n_a1 (ρ.1) (ρ.2.1) (ρ.2.2.1) w1_arr (ρ.2.2.2.1) (ρ.2.2.2.2.1) (ρ.2.2.2.2.2)) sz) 0 0 (va_A (kwX6_beginWith cI cZ cG q q_kindOf q_plotOf q_row q_standsOn q1 n_a1 v_houses v_front v_downFor w1_arr v_standsOn v_row v_plotOf) sz) :=
  mk_v (by decide) (Nat.le_of_ble_eq_true rfl) (fun X hrm ret hw hl => wX6_beginWith X hrm ret h _ _ _ hw hl)
theorem dX4_grantedBy_0 : decode cX4_grantedBy 0 = .ok (.aload_n 0, 1) := by decide +kernel
theorem dX4_grantedBy_1 : decode cX4_grantedBy 1 = .ok (.getfield 21, 3) := by decide +kernel
theorem dX4_grantedBy_4 : decode cX4_grantedBy 4 = .ok (.aload_n 0, 1) := by decide +kernel
theorem dX4_grantedBy_5 : decode cX4_grantedBy 5 = .ok (.getfield 15, 3) := by decide +kernel
theorem dX4_grantedBy_8 : decode cX4_grantedBy 8 = .ok (.iload_n 1, 1) := by decide +kernel
theorem dX4_grantedBy_9 : decode cX4_grantedBy 9 = .ok (.invokevirtual 58, 3) := by decide +kernel
theorem dX4_grantedBy_12 : decode cX4_grantedBy 12 = .ok (.aload_n 2, 1) := by decide +kernel
theorem dX4_grantedBy_13 : decode cX4_grantedBy 13 = .ok (.invokevirtual 62, 3) := by decide +kernel
theorem dX4_grantedBy_16 : decode cX4_grantedBy 16 = .ok (.istore_n 3, 1) := by decide +kernel
theorem dX4_grantedBy_17 : decode cX4_grantedBy 17 = .ok (.iconst 0, 1) := by decide +kernel
theorem dX4_grantedBy_18 : decode cX4_grantedBy 18 = .ok (.istore 4, 2) := by decide +kernel
theorem dX4_grantedBy_20 : decode cX4_grantedBy 20 = .ok (.iconst 1, 1) := by decide +kernel
theorem dX4_grantedBy_21 : decode cX4_grantedBy 21 = .ok (.istore 5, 2) := by decide +kernel
theorem dX4_grantedBy_23 : decode cX4_grantedBy 23 = .ok (.iload 5, 2) := by decide +kernel
theorem dX4_grantedBy_25 : decode cX4_grantedBy 25 = .ok (.iload_n 3, 1) := by decide +kernel
theorem dX4_grantedBy_26 : decode cX4_grantedBy 26 = .ok (.if_icmp .gt 32, 3) := by decide +kernel
theorem dX4_grantedBy_29 : decode cX4_grantedBy 29 = .ok (.aload_n 0, 1) := by decide +kernel
theorem dX4_grantedBy_30 : decode cX4_grantedBy 30 = .ok (.getfield 21, 3) := by decide +kernel
theorem dX4_grantedBy_33 : decode cX4_grantedBy 33 = .ok (.invokevirtual 66, 3) := by decide +kernel
theorem dX4_grantedBy_36 : decode cX4_grantedBy 36 = .ok (.pop, 1) := by decide +kernel
theorem dX4_grantedBy_37 : decode cX4_grantedBy 37 = .ok (.iload 4, 2) := by decide +kernel
theorem dX4_grantedBy_39 : decode cX4_grantedBy 39 = .ok (.aload_n 2, 1) := by decide +kernel
theorem dX4_grantedBy_40 : decode cX4_grantedBy 40 = .ok (.iload 5, 2) := by decide +kernel
theorem dX4_grantedBy_42 : decode cX4_grantedBy 42 = .ok (.aload_n 0, 1) := by decide +kernel
theorem dX4_grantedBy_43 : decode cX4_grantedBy 43 = .ok (.getfield 21, 3) := by decide +kernel
theorem dX4_grantedBy_46 : decode cX4_grantedBy 46 = .ok (.invokevirtual 69, 3) := by decide +kernel
theorem dX4_grantedBy_49 : decode cX4_grantedBy 49 = .ok (.iadd, 1) := by decide +kernel
theorem dX4_grantedBy_50 : decode cX4_grantedBy 50 = .ok (.istore 4, 2) := by decide +kernel
theorem dX4_grantedBy_52 : decode cX4_grantedBy 52 = .ok (.iinc 5 1, 3) := by decide +kernel
theorem dX4_grantedBy_55 : decode cX4_grantedBy 55 = .ok (.goto (-32), 3) := by decide +kernel
theorem dX4_grantedBy_58 : decode cX4_grantedBy 58 = .ok (.iload 4, 2) := by decide +kernel
theorem dX4_grantedBy_60 : decode cX4_grantedBy 60 = .ok (.ireturn, 1) := by decide +kernel
abbrev kwX4_grantedBy (cI cZ cG : ClassId) (q q_best q_trial q_town q_town_kindOf q_town_plotOf q_town_row q_town_standsOn q2 q2_house q2_plot q2_night n_a2 : Nat) (v_most : Int32) (v_town_houses : Int32) (v_town_front : Int32) (v_town_downFor : Int32) (v_trial : (Nat → Int32)) (v_town_standsOn : (Nat → Int32)) (v_town_row : (Nat → Int32)) (v_town_plotOf : (Nat → Int32)) (w2_size : Int32) (w2_night : (Nat → Int32)) (v_town_kindOf : (Nat → Int32)) (w2_house : (Nat → Int32)) (w2_plot : (Nat → Int32)) : va_W := [(q, .inr (4, [.ref q_best, .ref q_trial, .ref q_town, .int v_most])), (q_town, .inr (6, [.ref q_town_kindOf, .ref q_town_plotOf, .ref q_town_row, .ref q_town_standsOn, .int v_town_houses, .int v_town_front, .int v_town_downFor])), (q_trial, .inl (cI, 6, .inl v_trial)), (q_town_standsOn, .inl (cI, 12, .inl v_town_standsOn)), (q_town_row, .inl (cI, 6, .inl v_town_row)), (q_town_plotOf, .inl (cI, 6, .inl v_town_plotOf)), (q2, .inr (2, [.ref q2_house, .ref q2_plot, .ref q2_night, .int w2_size])), (q2_night, .inl (cI, n_a2, .inl w2_night)), (q_town_kindOf, .inl (cI, 6, .inl v_town_kindOf)), (q2_house, .inl (cI, n_a2, .inl w2_house)), (q2_plot, .inl (cI, n_a2, .inl w2_plot))]
noncomputable def fX4_grantedBy_23 (N : Nat) (n_a2 : Nat) (v_trial : (Nat → Int32)) (w2_size : Int32) (w2_night : (Nat → Int32)) (v_town_kindOf : (Nat → Int32)) (w2_house : (Nat → Int32)) (w2_plot : (Nat → Int32)) (a1 : Int32)  (K_23 : Int32 → Int32 → Int32 → Int32 → Int32 → Int32 → (Nat → Int32) → (Nat → Int32) → (Nat → Int32) → Option (Int32 × Int32 × Int32 × Int32 × (Nat → Int32) × (Nat → Int32) × (Nat → Int32))) (l3 : Int32) (l4 : Int32) (l5 : Int32) (v_town_houses : Int32) (v_town_front : Int32) (v_town_downFor : Int32) (v_town_standsOn : (Nat → Int32)) (v_town_row : (Nat → Int32)) (v_town_plotOf : (Nat → Int32)) : Option (Int32 × Int32 × Int32 × Int32 × (Nat → Int32) × (Nat → Int32) × (Nat → Int32)) := if l3 < l5 then (some (l4, v_town_houses, v_town_front, v_town_downFor, v_town_standsOn, v_town_row, v_town_plotOf)) else ((fX6_turn N v_town_houses v_town_kindOf v_town_front v_town_downFor v_town_row v_town_plotOf v_town_standsOn).bind (fun x_33 => (fX2_trueBehind N n_a2 w2_size w2_night w2_house x_33.2.2.2.2.1 w2_plot l5).bind (fun x_46 => K_23 l3 (l4 + x_46) (l5 + (1 : Int32)) v_town_houses x_33.2.1 x_33.2.2.1 x_33.2.2.2.2.2 x_33.2.2.2.1 x_33.2.2.2.2.1)))
noncomputable def fX4_grantedBy (N : Nat) (n_a2 : Nat) (v_trial : (Nat → Int32)) (w2_size : Int32) (w2_night : (Nat → Int32)) (v_town_kindOf : (Nat → Int32)) (w2_house : (Nat → Int32)) (w2_plot : (Nat → Int32)) (a1 : Int32) (v_town_houses : Int32) (v_town_front : Int32) (v_town_downFor : Int32) (v_town_standsOn : (Nat → Int32)) (v_town_row : (Nat → Int32)) (v_town_plotOf : (Nat → Int32))  : Option (Int32 × Int32 × Int32 × Int32 × (Nat → Int32) × (Nat → Int32) × (Nat → Int32)) := (fX6_beginWith N 6 v_trial a1 v_town_houses v_town_front v_town_downFor v_town_standsOn v_town_row v_town_plotOf).bind (fun x_9 => (fX2_lastNight N n_a2 w2_size w2_night).bind (fun x_13 => lfix (fun (K : Int32 × Int32 × Int32 × Int32 × Int32 × Int32 × (Nat → Int32) × (Nat → Int32) × (Nat → Int32) → Option (Int32 × Int32 × Int32 × Int32 × (Nat → Int32) × (Nat → Int32) × (Nat → Int32))) (a : Int32 × Int32 × Int32 × Int32 × Int32 × Int32 × (Nat → Int32) × (Nat → Int32) × (Nat → Int32)) => fX4_grantedBy_23 N n_a2 v_trial w2_size w2_night v_town_kindOf w2_house w2_plot a1 (fun (l3 : Int32) (l4 : Int32) (l5 : Int32) (v_town_houses : Int32) (v_town_front : Int32) (v_town_downFor : Int32) (v_town_standsOn : (Nat → Int32)) (v_town_row : (Nat → Int32)) (v_town_plotOf : (Nat → Int32)) => K (l3, l4, l5, v_town_houses, v_town_front, v_town_downFor, v_town_standsOn, v_town_row, v_town_plotOf)) a.1 a.2.1 a.2.2.1 a.2.2.2.1 a.2.2.2.2.1 a.2.2.2.2.2.1 a.2.2.2.2.2.2.1 a.2.2.2.2.2.2.2.1 a.2.2.2.2.2.2.2.2) N (x_13, (0 : Int32), (1 : Int32), x_9.1, x_9.2.1, x_9.2.2.1, x_9.2.2.2.1, x_9.2.2.2.2.1, x_9.2.2.2.2.2)))
set_option maxHeartbeats 4000000 in
set_option maxRecDepth 100000 in
theorem wX4_grantedBy_23 {p : Program} {l : Launch} {e : Env} {R : Room} {s : State} {m : MethodId} {args : Array Value} {below : List Frame} {meth : Method} {c : Code} {cells slots : Nat} {Q : State → Prop} {D : va_G} {A : Nat → Prop} {cI cZ cG : ClassId} {q q_best q_trial q_town q_town_kindOf q_town_plotOf q_town_row q_town_standsOn q2 q2_house q2_plot q2_night : Nat} {n_a2 : Nat} {v_most : Int32} {v_trial : (Nat → Int32)} {w2_size : Int32} {w2_night : (Nat → Int32)} {v_town_kindOf : (Nat → Int32)} {w2_house : (Nat → Int32)} {w2_plot : (Nat → Int32)} {a1 : Int32} {N : Nat} {ρ : Int32 × Int32 × Int32 × Int32 × (Nat → Int32) × (Nat → Int32) × (Nat → Int32)} (X : CX p s m args c cX4_grantedBy 6 RX4 D (TY cI cZ cG) A) (hrm : RM R 3 67 cells slots) (ret : ∀ (pc : Nat) (H : Heap) (locs : List Loc) (ls : Array Slot), decode cX4_grantedBy pc = .ok (.ireturn, 1) → WD D A (kwX4_grantedBy cI cZ cG q q_best q_trial q_town q_town_kindOf q_town_plotOf q_town_row q_town_standsOn q2 q2_house q2_plot q2_night n_a2 v_most (ρ.2.1) (ρ.2.2.1) (ρ.2.2.2.1) v_trial (ρ.2.2.2.2.1) (ρ.2.2.2.2.2.1) (ρ.2.2.2.2.2.2) w2_size w2_night v_town_kindOf w2_house w2_plot) s.heap H locs → W p l e R s m args below meth c H locs cells slots Q (F0 m pc ls [.int ρ.1]))  : ∀ (n : Nat) (a : Int32 × Int32 × Int32 × Int32 × Int32 × Int32 × (Nat → Int32) × (Nat → Int32) × (Nat → Int32)), lfix (fun (K : Int32 × Int32 × Int32 × Int32 × Int32 × Int32 × (Nat → Int32) × (Nat → Int32) × (Nat → Int32) → Option (Int32 × Int32 × Int32 × Int32 × (Nat → Int32) × (Nat → Int32) × (Nat → Int32))) (a : Int32 × Int32 × Int32 × Int32 × Int32 × Int32 × (Nat → Int32) × (Nat → Int32) × (Nat → Int32)) => fX4_grantedBy_23 N n_a2 v_trial w2_size w2_night v_town_kindOf w2_house w2_plot a1 (fun (l3 : Int32) (l4 : Int32) (l5 : Int32) (v_town_houses : Int32) (v_town_front : Int32) (v_town_downFor : Int32) (v_town_standsOn : (Nat → Int32)) (v_town_row : (Nat → Int32)) (v_town_plotOf : (Nat → Int32)) => K (l3, l4, l5, v_town_houses, v_town_front, v_town_downFor, v_town_standsOn, v_town_row, v_town_plotOf)) a.1 a.2.1 a.2.2.1 a.2.2.2.1 a.2.2.2.2.1 a.2.2.2.2.2.1 a.2.2.2.2.2.2.1 a.2.2.2.2.2.2.2.1 a.2.2.2.2.2.2.2.2) n a = some ρ → (fun (l3 : Int32) (l4 : Int32) (l5 : Int32) (v_town_houses : Int32) (v_town_front : Int32) (v_town_downFor : Int32) (v_town_standsOn : (Nat → Int32)) (v_town_row : (Nat → Int32)) (v_town_plotOf : (Nat → Int32)) => ∀ (H : Heap) (locs : List Loc) (ls : Array Slot), WD D A (kwX4_grantedBy cI cZ cG q q_best q_trial q_town q_town_kindOf q_town_plotOf q_town_row q_town_standsOn q2 q2_house q2_plot q2_night n_a2 v_most v_town_houses v_town_front v_town_downFor v_trial v_town_standsOn v_town_row v_town_plotOf w2_size w2_night v_town_kindOf w2_house w2_plot) s.heap H locs → lv_has ls 6 [(0, .ref q), (2, .ref q2), (3, .int l3), (4, .int l4), (5, .int l5)] → W p l e R s m args below meth c H locs cells slots Q (F0 m 23 ls [])) (a.1) (a.2.1) (a.2.2.1) (a.2.2.2.1) (a.2.2.2.2.1) (a.2.2.2.2.2.1) (a.2.2.2.2.2.2.1) (a.2.2.2.2.2.2.2.1) (a.2.2.2.2.2.2.2.2) := by
  have hx := X.1.1
  have hb := X.1.2.1
  refine lfix_W (fun K hK a h => ?_)
  obtain ⟨l3, l4, l5, v_town_houses, v_town_front, v_town_downFor, v_town_standsOn, v_town_row, v_town_plotOf⟩ := a
  intro H locs ls hw hl
  have h : fX4_grantedBy_23 N n_a2 v_trial w2_size w2_night v_town_kindOf w2_house w2_plot a1 (fun (l3 : Int32) (l4 : Int32) (l5 : Int32) (v_town_houses : Int32) (v_town_front : Int32) (v_town_downFor : Int32) (v_town_standsOn : (Nat → Int32)) (v_town_row : (Nat → Int32)) (v_town_plotOf : (Nat → Int32)) => K (l3, l4, l5, v_town_houses, v_town_front, v_town_downFor, v_town_standsOn, v_town_row, v_town_plotOf)) l3 l4 l5 v_town_houses v_town_front v_town_downFor v_town_standsOn v_town_row v_town_plotOf = some ρ := h
  have hK_23 : ∀ (l3 : Int32) (l4 : Int32) (l5 : Int32) (v_town_houses : Int32) (v_town_front : Int32) (v_town_downFor : Int32) (v_town_standsOn : (Nat → Int32)) (v_town_row : (Nat → Int32)) (v_town_plotOf : (Nat → Int32)), (fun (l3 : Int32) (l4 : Int32) (l5 : Int32) (v_town_houses : Int32) (v_town_front : Int32) (v_town_downFor : Int32) (v_town_standsOn : (Nat → Int32)) (v_town_row : (Nat → Int32)) (v_town_plotOf : (Nat → Int32)) => K (l3, l4, l5, v_town_houses, v_town_front, v_town_downFor, v_town_standsOn, v_town_row, v_town_plotOf)) l3 l4 l5 v_town_houses v_town_front v_town_downFor v_town_standsOn v_town_row v_town_plotOf = some ρ → ∀ (H : Heap) (locs : List Loc) (ls : Array Slot), WD D A (kwX4_grantedBy cI cZ cG q q_best q_trial q_town q_town_kindOf q_town_plotOf q_town_row q_town_standsOn q2 q2_house q2_plot q2_night n_a2 v_most v_town_houses v_town_front v_town_downFor v_trial v_town_standsOn v_town_row v_town_plotOf w2_size w2_night v_town_kindOf w2_house w2_plot) s.heap H locs → lv_has ls 6 [(0, .ref q), (2, .ref q2), (3, .int l3), (4, .int l4), (5, .int l5)] → W p l e R s m args below meth c H locs cells slots Q (F0 m 23 ls []) := fun l3 l4 l5 v_town_houses v_town_front v_town_downFor v_town_standsOn v_town_row v_town_plotOf h => hK (l3, l4, l5, v_town_houses, v_town_front, v_town_downFor, v_town_standsOn, v_town_row, v_town_plotOf) h
  generalize (fun (l3 : Int32) (l4 : Int32) (l5 : Int32) (v_town_houses : Int32) (v_town_front : Int32) (v_town_downFor : Int32) (v_town_standsOn : (Nat → Int32)) (v_town_row : (Nat → Int32)) (v_town_plotOf : (Nat → Int32)) => K (l3, l4, l5, v_town_houses, v_town_front, v_town_downFor, v_town_standsOn, v_town_row, v_town_plotOf)) = K_23 at h hK_23
  have hw : WD D A (kwX4_grantedBy cI cZ cG q q_best q_trial q_town q_town_kindOf q_town_plotOf q_town_row q_town_standsOn q2 q2_house q2_plot q2_night n_a2 v_most v_town_houses v_town_front v_town_downFor v_trial v_town_standsOn v_town_row v_town_plotOf w2_size w2_night v_town_kindOf w2_house w2_plot) s.heap H locs := hw
  have hl : lv_has ls 6 [(0, .ref q), (2, .ref q2), (3, .int l3), (4, .int l4), (5, .int l5)] := hl
  unfold fX4_grantedBy_23 at h
  refine lv_iload hx hb dX4_grantedBy_23 (lv_at hl 4 rfl) ?_
  refine lv_iload_n hx hb dX4_grantedBy_25 rfl (lv_at hl 2 rfl) ?_
  refine lv_icmp_gt (tgt := 58) hx hb dX4_grantedBy_26 (by decide) (fun c_26 => ?_) (fun c_26 => ?_)
  · have h := ift c_26 h
    refine lv_iload hx hb dX4_grantedBy_58 (lv_at hl 3 rfl) ?_
    obtain rfl := Option.some.inj h
    exact ret _ _ _ _ dX4_grantedBy_60 hw
  · have h := iff_ c_26 h
    refine lv_aload_n hx hb dX4_grantedBy_29 rfl (lv_at hl 0 rfl) ?_
    refine kget (ci := 4) (v := .ref q_town) X hw iX4 0 rfl rfl 2 (by decide) tw_293 rfl dX4_grantedBy_30 ?_
    obtain ⟨x_33, hc_33, h⟩ := obd h
    refine ksV_i (ws2 := (kwX4_grantedBy cI cZ cG q q_best q_trial q_town q_town_kindOf q_town_plotOf q_town_row q_town_standsOn q2 q2_house q2_plot q2_night n_a2 v_most v_town_houses x_33.2.1 x_33.2.2.1 v_trial x_33.2.2.2.2.2 x_33.2.2.2.1 x_33.2.2.2.2.1 w2_size w2_night v_town_kindOf w2_house w2_plot)) (nW := 11) (ci := 6) (As := []) (rest := []) X hw rfl rfl rfl (cX6_turn_ct l D cI cZ cG q_town q_town_kindOf q_town_plotOf q_town_row q_town_standsOn v_town_houses v_town_front v_town_downFor v_town_row v_town_kindOf v_town_plotOf v_town_standsOn N x_33 hc_33 H.size) mX6_turn tw_294 (hrm.call (by decide) (by decide)) [1, 4, 8, 5, 3] rfl (by decide) rfl (by decide) rfl ⟨rfl, ⟨rfl, ⟨rfl, ⟨rfl, ⟨rfl, ⟨rfl, trivial⟩⟩⟩⟩⟩⟩ rfl hl.1 rfl (Nat.le_of_ble_eq_true rfl) dX4_grantedBy_33 ⟨hrm.2.2.1, hrm.2.2.2⟩ (fun H locs hw => ?_)
    refine lv_pop hx hb dX4_grantedBy_36 rfl ?_
    refine lv_iload hx hb dX4_grantedBy_37 (lv_at hl 3 rfl) ?_
    refine lv_aload_n hx hb dX4_grantedBy_39 rfl (lv_at hl 1 rfl) ?_
    refine lv_iload hx hb dX4_grantedBy_40 (lv_at hl 4 rfl) ?_
    refine lv_aload_n hx hb dX4_grantedBy_42 rfl (lv_at hl 0 rfl) ?_
    refine kget (ci := 4) (v := .ref q_town) X hw iX4 0 rfl rfl 2 (by decide) tw_293 rfl dX4_grantedBy_43 ?_
    obtain ⟨x_46, hc_46, h⟩ := obd h
    refine ksV_i (ws2 := (kwX4_grantedBy cI cZ cG q q_best q_trial q_town q_town_kindOf q_town_plotOf q_town_row q_town_standsOn q2 q2_house q2_plot q2_night n_a2 v_most v_town_houses x_33.2.1 x_33.2.2.1 v_trial x_33.2.2.2.2.2 x_33.2.2.2.1 x_33.2.2.2.2.1 w2_size w2_night v_town_kindOf w2_house w2_plot)) (nW := 11) (ci := 2) (As := [.int l5, .ref q_town]) (rest := [.int l4]) X hw rfl rfl rfl (cX2_trueBehind_ct l D cI cZ cG q2 q2_house q2_plot q2_night q_town q_town_kindOf q_town_plotOf q_town_row q_town_standsOn n_a2 w2_size w2_night v_town_houses x_33.2.1 x_33.2.2.1 w2_house x_33.2.2.2.2.1 w2_plot l5 N x_46 hc_46 H.size) mX2_trueBehind tw_295 (hrm.call (by decide) (by decide)) [6, 7, 1, 9, 5, 10] rfl (by decide) rfl (by decide) rfl ⟨rfl, ⟨rfl, ⟨rfl, ⟨rfl, ⟨rfl, trivial⟩⟩⟩⟩⟩ rfl hl.1 rfl (Nat.le_of_ble_eq_true rfl) dX4_grantedBy_46 ⟨hrm.2.2.1, hrm.2.2.2⟩ (fun H locs hw => ?_)
    refine lv_iadd hx hb dX4_grantedBy_49 ?_
    refine lv_istore (lv' := [(4, .int (l4 + x_46)), (0, .ref q), (2, .ref q2), (3, .int l3), (5, .int l5)]) hx hb dX4_grantedBy_50 hl (by decide) rfl (fun ls hl => ?_)
    refine lv_iinc (v := (l5 + (1 : Int32))) (lv' := [(5, .int (l5 + (1 : Int32))), (4, .int (l4 + x_46)), (0, .ref q), (2, .ref q2), (3, .int l3)]) hx hb dX4_grantedBy_52 hl (k := 4) rfl (congrArg (l5 + ·) (by decide)) (by decide) rfl (fun ls hl => ?_)
    refine lv_goto (tgt := 23) hx hb dX4_grantedBy_55 (by decide) ?_
    exact hK_23 _ _ _ _ _ _ _ _ _ h _ _ _ hw (lv_sub hl [2, 3, 4, 1, 0] rfl)
set_option maxHeartbeats 4000000 in
set_option maxRecDepth 100000 in
theorem wX4_grantedBy {p : Program} {l : Launch} {e : Env} {R : Room} {s : State} {m : MethodId} {args : Array Value} {below : List Frame} {meth : Method} {c : Code} {cells slots : Nat} {Q : State → Prop} {D : va_G} {A : Nat → Prop} {cI cZ cG : ClassId} {q q_best q_trial q_town q_town_kindOf q_town_plotOf q_town_row q_town_standsOn q2 q2_house q2_plot q2_night : Nat} {n_a2 : Nat} {v_most : Int32} {v_town_houses : Int32} {v_town_front : Int32} {v_town_downFor : Int32} {v_trial : (Nat → Int32)} {v_town_standsOn : (Nat → Int32)} {v_town_row : (Nat → Int32)} {v_town_plotOf : (Nat → Int32)} {w2_size : Int32} {w2_night : (Nat → Int32)} {v_town_kindOf : (Nat → Int32)} {w2_house : (Nat → Int32)} {w2_plot : (Nat → Int32)} {a1 : Int32} {N : Nat} {ρ : Int32 × Int32 × Int32 × Int32 × (Nat → Int32) × (Nat → Int32) × (Nat → Int32)} (X : CX p s m args c cX4_grantedBy 6 RX4 D (TY cI cZ cG) A) (hrm : RM R 3 67 cells slots) (ret : ∀ (pc : Nat) (H : Heap) (locs : List Loc) (ls : Array Slot), decode cX4_grantedBy pc = .ok (.ireturn, 1) → WD D A (kwX4_grantedBy cI cZ cG q q_best q_trial q_town q_town_kindOf q_town_plotOf q_town_row q_town_standsOn q2 q2_house q2_plot q2_night n_a2 v_most (ρ.2.1) (ρ.2.2.1) (ρ.2.2.2.1) v_trial (ρ.2.2.2.2.1) (ρ.2.2.2.2.2.1) (ρ.2.2.2.2.2.2) w2_size w2_night v_town_kindOf w2_house w2_plot) s.heap H locs → W p l e R s m args below meth c H locs cells slots Q (F0 m pc ls [.int ρ.1])) (h : fX4_grantedBy N n_a2 v_trial w2_size w2_night v_town_kindOf w2_house w2_plot a1 v_town_houses v_town_front v_town_downFor v_town_standsOn v_town_row v_town_plotOf  = some ρ) (H : Heap) (locs : List Loc) (ls : Array Slot) (hw : WD D A (kwX4_grantedBy cI cZ cG q q_best q_trial q_town q_town_kindOf q_town_plotOf q_town_row q_town_standsOn q2 q2_house q2_plot q2_night n_a2 v_most v_town_houses v_town_front v_town_downFor v_trial v_town_standsOn v_town_row v_town_plotOf w2_size w2_night v_town_kindOf w2_house w2_plot) s.heap H locs) (hl : lv_has ls 6 [(0, .ref q), (1, .int a1), (2, .ref q2)]) : W p l e R s m args below meth c H locs cells slots Q (F0 m 0 ls []) := by
  have hx := X.1.1
  have hb := X.1.2.1
  unfold fX4_grantedBy at h
  refine lv_aload_n hx hb dX4_grantedBy_0 rfl (lv_at hl 0 rfl) ?_
  refine kget (ci := 4) (v := .ref q_town) X hw iX4 0 rfl rfl 2 (by decide) tw_293 rfl dX4_grantedBy_1 ?_
  refine lv_aload_n hx hb dX4_grantedBy_4 rfl (lv_at hl 0 rfl) ?_
  refine kget (ci := 4) (v := .ref q_trial) X hw iX4 0 rfl rfl 1 (by decide) tw_296 rfl dX4_grantedBy_5 ?_
  refine lv_iload_n hx hb dX4_grantedBy_8 rfl (lv_at hl 1 rfl) ?_
  obtain ⟨x_9, hc_9, h⟩ := obd h
  refine ksV_v (ws2 := (kwX4_grantedBy cI cZ cG q q_best q_trial q_town q_town_kindOf q_town_plotOf q_town_row q_town_standsOn q2 q2_house q2_plot q2_night n_a2 v_most x_9.1 x_9.2.1 x_9.2.2.1 v_trial x_9.2.2.2.1 x_9.2.2.2.2.1 x_9.2.2.2.2.2 w2_size w2_night v_town_kindOf w2_house w2_plot)) (nW := 11) (ci := 6) (As := [.ref q_trial, .int a1]) (rest := []) X hw rfl rfl rfl (cX6_beginWith_ct l D cI cZ cG q_town q_town_kindOf q_town_plotOf q_town_row q_town_standsOn q_trial 6 v_town_houses v_town_front v_town_downFor v_trial v_town_standsOn v_town_row v_town_plotOf a1 N x_9 hc_9 H.size) mX6_beginWith tw_297 (hrm.call (by decide) (by decide)) [1, 2, 3, 4, 5] rfl (by decide) rfl (by decide) rfl ⟨rfl, ⟨rfl, ⟨rfl, ⟨rfl, ⟨rfl, ⟨rfl, trivial⟩⟩⟩⟩⟩⟩ rfl hl.1 rfl (Nat.le_of_ble_eq_true rfl) dX4_grantedBy_9 ⟨hrm.2.2.1, hrm.2.2.2⟩ (fun H locs hw => ?_)
  refine lv_aload_n hx hb dX4_grantedBy_12 rfl (lv_at hl 2 rfl) ?_
  obtain ⟨x_13, hc_13, h⟩ := obd h
  refine ksV_i (ws2 := (kwX4_grantedBy cI cZ cG q q_best q_trial q_town q_town_kindOf q_town_plotOf q_town_row q_town_standsOn q2 q2_house q2_plot q2_night n_a2 v_most x_9.1 x_9.2.1 x_9.2.2.1 v_trial x_9.2.2.2.1 x_9.2.2.2.2.1 x_9.2.2.2.2.2 w2_size w2_night v_town_kindOf w2_house w2_plot)) (nW := 11) (ci := 2) (As := []) (rest := []) X hw rfl rfl rfl (cX2_lastNight_ct l D cI cZ cG q2 q2_house q2_plot q2_night n_a2 w2_size w2_night N x_13 hc_13 H.size) mX2_lastNight tw_298 (hrm.call (by decide) (by decide)) [6, 7] rfl (by decide) rfl (by decide) rfl ⟨rfl, ⟨rfl, ⟨rfl, ⟨rfl, ⟨rfl, ⟨rfl, ⟨rfl, ⟨rfl, ⟨rfl, trivial⟩⟩⟩⟩⟩⟩⟩⟩⟩ rfl hl.1 rfl (Nat.le_of_ble_eq_true rfl) dX4_grantedBy_13 ⟨hrm.2.2.1, hrm.2.2.2⟩ (fun H locs hw => ?_)
  refine lv_istore_n (lv' := [(3, .int x_13), (0, .ref q), (1, .int a1), (2, .ref q2)]) hx hb dX4_grantedBy_16 rfl hl (by decide) rfl (fun ls hl => ?_)
  refine lv_iconst (v := (0 : Int32)) hx hb dX4_grantedBy_17 (by decide) ?_
  refine lv_istore (lv' := [(4, .int (0 : Int32)), (3, .int x_13), (0, .ref q), (1, .int a1), (2, .ref q2)]) hx hb dX4_grantedBy_18 hl (by decide) rfl (fun ls hl => ?_)
  refine lv_iconst (v := (1 : Int32)) hx hb dX4_grantedBy_20 (by decide) ?_
  refine lv_istore (lv' := [(5, .int (1 : Int32)), (4, .int (0 : Int32)), (3, .int x_13), (0, .ref q), (1, .int a1), (2, .ref q2)]) hx hb dX4_grantedBy_21 hl (by decide) rfl (fun ls hl => ?_)
  exact wX4_grantedBy_23 X hrm ret  _ _ h _ _ _ hw (lv_sub hl [3, 5, 2, 1, 0] rfl)
set_option maxHeartbeats 4000000 in
set_option maxRecDepth 100000 in
theorem cX4_grantedBy_ct (l : Launch) (D : va_G) (cI cZ cG : ClassId) (q q_best q_trial q_town q_town_kindOf q_town_plotOf q_town_row q_town_standsOn q2 q2_house q2_plot q2_night : Nat) (n_a2 : Nat) (v_most : Int32) (v_town_houses : Int32) (v_town_front : Int32) (v_town_downFor : Int32) (v_trial : (Nat → Int32)) (v_town_standsOn : (Nat → Int32)) (v_town_row : (Nat → Int32)) (v_town_plotOf : (Nat → Int32)) (w2_size : Int32) (w2_night : (Nat → Int32)) (v_town_kindOf : (Nat → Int32)) (w2_house : (Nat → Int32)) (w2_plot : (Nat → Int32)) (a1 : Int32) (N : Nat) (ρ : Int32 × Int32 × Int32 × Int32 × (Nat → Int32) × (Nat → Int32) × (Nat → Int32)) (h : fX4_grantedBy N n_a2 v_trial w2_size w2_night v_town_kindOf w2_house w2_plot a1 v_town_houses v_town_front v_town_downFor v_town_standsOn v_town_row v_town_plotOf  = some ρ) (sz : Nat) : Met l yX4_grantedBy (wz yX4_grantedBy cX4_grantedBy 6 (some .int)) (cRm 3 67) (cPre D (TY cI cZ cG) [.ref q, .int a1, .ref q2] (kwX4_grantedBy cI cZ cG q q_best q_trial q_town q_town_kindOf q_town_plotOf q_town_row q_town_standsOn q2 q2_house q2_plot q2_night n_a2 v_most v_town_houses v_town_front v_town_downFor v_trial v_town_standsOn v_town_row v_town_plotOf w2_size w2_night v_town_kindOf w2_house w2_plot) sz) (cQi D (ρ.1) (kwX4_grantedBy cI cZ cG q q_best q_trial q_town q_town_kindOf q_town_plotOf q_town_row q_town_standsOn q2 q2_house q2_plot q2_night n_a2 v_most v_town_houses v_town_front v_town_downFor v_trial v_town_standsOn v_town_row v_town_plotOf w2_size w2_night v_town_kindOf w2_house w2_plot) (kwX4_grantedBy cI cZ cG q q_best q_trial q_town q_town_kindOf q_town_plotOf q_town_row q_town_standsOn q2 q2_house q2_plot q2_night n_a2 v_most (ρ.2.1) (ρ.2.2.1) (ρ.2.2.2.1) v_trial (ρ.2.2.2.2.1) (ρ.2.2.2.2.2.1) (ρ.2.2.2.2.2.2) w2_size w2_night v_town_kindOf w2_house w2_plot) sz) 0 0 (va_A (kwX4_grantedBy cI cZ cG q q_best q_trial q_town q_town_kindOf q_town_plotOf q_town_row q_town_standsOn q2 q2_house q2_plot q2_night n_a2 v_most v_town_houses v_town_front v_town_downFor v_trial v_town_standsOn v_town_row v_town_plotOf w2_size w2_night v_town_kindOf w2_house w2_plot) sz) :=
  mk_i (by decide) (Nat.le_of_ble_eq_true rfl) (fun X hrm ret hw hl => wX4_grantedBy X hrm ret h _ _ _ hw hl)
theorem dX4_exchange_0 : decode cX4_exchange 0 = .ok (.aload_n 0, 1) := by decide +kernel
theorem dX4_exchange_1 : decode cX4_exchange 1 = .ok (.getfield 15, 3) := by decide +kernel
theorem dX4_exchange_4 : decode cX4_exchange 4 = .ok (.iload_n 1, 1) := by decide +kernel
theorem dX4_exchange_5 : decode cX4_exchange 5 = .ok (.iaload, 1) := by decide +kernel
theorem dX4_exchange_6 : decode cX4_exchange 6 = .ok (.istore_n 3, 1) := by decide +kernel
theorem dX4_exchange_7 : decode cX4_exchange 7 = .ok (.aload_n 0, 1) := by decide +kernel
theorem dX4_exchange_8 : decode cX4_exchange 8 = .ok (.getfield 15, 3) := by decide +kernel
theorem dX4_exchange_11 : decode cX4_exchange 11 = .ok (.iload_n 1, 1) := by decide +kernel
theorem dX4_exchange_12 : decode cX4_exchange 12 = .ok (.aload_n 0, 1) := by decide +kernel
theorem dX4_exchange_13 : decode cX4_exchange 13 = .ok (.getfield 15, 3) := by decide +kernel
theorem dX4_exchange_16 : decode cX4_exchange 16 = .ok (.iload_n 2, 1) := by decide +kernel
theorem dX4_exchange_17 : decode cX4_exchange 17 = .ok (.iaload, 1) := by decide +kernel
theorem dX4_exchange_18 : decode cX4_exchange 18 = .ok (.iastore, 1) := by decide +kernel
theorem dX4_exchange_19 : decode cX4_exchange 19 = .ok (.aload_n 0, 1) := by decide +kernel
theorem dX4_exchange_20 : decode cX4_exchange 20 = .ok (.getfield 15, 3) := by decide +kernel
theorem dX4_exchange_23 : decode cX4_exchange 23 = .ok (.iload_n 2, 1) := by decide +kernel
theorem dX4_exchange_24 : decode cX4_exchange 24 = .ok (.iload_n 3, 1) := by decide +kernel
theorem dX4_exchange_25 : decode cX4_exchange 25 = .ok (.iastore, 1) := by decide +kernel
theorem dX4_exchange_26 : decode cX4_exchange 26 = .ok (.return_, 1) := by decide +kernel
abbrev kwX4_exchange (cI cZ cG : ClassId) (q q_best q_trial q_town : Nat) (v_most : Int32) (v_trial : (Nat → Int32)) : va_W := [(q, .inr (4, [.ref q_best, .ref q_trial, .ref q_town, .int v_most])), (q_trial, .inl (cI, 6, .inl v_trial))]
noncomputable def fX4_exchange (N : Nat) (a1 : Int32) (a2 : Int32) (v_trial : (Nat → Int32))  : Option ((Nat → Int32)) := if a1 < 0 ∨ 6 ≤ (a1).toNatClampNeg then none else (if a2 < 0 ∨ 6 ≤ (a2).toNatClampNeg then none else (if a1 < 0 ∨ 6 ≤ (a1).toNatClampNeg then none else (if a2 < 0 ∨ 6 ≤ (a2).toNatClampNeg then none else (some (upd (upd v_trial (a1).toNatClampNeg (v_trial (a2).toNatClampNeg)) (a2).toNatClampNeg (v_trial (a1).toNatClampNeg))))))
set_option maxHeartbeats 4000000 in
set_option maxRecDepth 100000 in
theorem wX4_exchange {p : Program} {l : Launch} {e : Env} {R : Room} {s : State} {m : MethodId} {args : Array Value} {below : List Frame} {meth : Method} {c : Code} {cells slots : Nat} {Q : State → Prop} {D : va_G} {A : Nat → Prop} {cI cZ cG : ClassId} {q q_best q_trial q_town : Nat} {v_most : Int32} {v_trial : (Nat → Int32)} {a1 : Int32} {a2 : Int32} {N : Nat} {ρ : (Nat → Int32)} (X : CX p s m args c cX4_exchange 4 RX4 D (TY cI cZ cG) A) (hrm : RM R 0 0 cells slots) (ret : ∀ (pc : Nat) (H : Heap) (locs : List Loc) (ls : Array Slot), decode cX4_exchange pc = .ok (.return_, 1) → WD D A (kwX4_exchange cI cZ cG q q_best q_trial q_town v_most ρ) s.heap H locs → W p l e R s m args below meth c H locs cells slots Q (F0 m pc ls [])) (h : fX4_exchange N a1 a2 v_trial  = some ρ) (H : Heap) (locs : List Loc) (ls : Array Slot) (hw : WD D A (kwX4_exchange cI cZ cG q q_best q_trial q_town v_most v_trial) s.heap H locs) (hl : lv_has ls 4 [(0, .ref q), (1, .int a1), (2, .int a2)]) : W p l e R s m args below meth c H locs cells slots Q (F0 m 0 ls []) := by
  have hx := X.1.1
  have hb := X.1.2.1
  unfold fX4_exchange at h
  refine lv_aload_n hx hb dX4_exchange_0 rfl (lv_at hl 0 rfl) ?_
  refine kget (ci := 4) (v := .ref q_trial) X hw iX4 0 rfl rfl 1 (by decide) tw_296 rfl dX4_exchange_1 ?_
  refine lv_iload_n hx hb dX4_exchange_4 rfl (lv_at hl 1 rfl) ?_
  obtain ⟨g_5, h⟩ := gd h
  refine kiald X hw 1 rfl rfl g_5 dX4_exchange_5 ?_
  refine lv_istore_n (lv' := [(3, .int (v_trial (a1).toNatClampNeg)), (0, .ref q), (1, .int a1), (2, .int a2)]) hx hb dX4_exchange_6 rfl hl (by decide) rfl (fun ls hl => ?_)
  refine lv_aload_n hx hb dX4_exchange_7 rfl (lv_at hl 1 rfl) ?_
  refine kget (ci := 4) (v := .ref q_trial) X hw iX4 0 rfl rfl 1 (by decide) tw_296 rfl dX4_exchange_8 ?_
  refine lv_iload_n hx hb dX4_exchange_11 rfl (lv_at hl 2 rfl) ?_
  refine lv_aload_n hx hb dX4_exchange_12 rfl (lv_at hl 1 rfl) ?_
  refine kget (ci := 4) (v := .ref q_trial) X hw iX4 0 rfl rfl 1 (by decide) tw_296 rfl dX4_exchange_13 ?_
  refine lv_iload_n hx hb dX4_exchange_16 rfl (lv_at hl 3 rfl) ?_
  obtain ⟨g_17, h⟩ := gd h
  refine kiald X hw 1 rfl rfl g_17 dX4_exchange_17 ?_
  obtain ⟨g_18, h⟩ := gd h
  refine kiast X hw 1 rfl rfl g_18 dX4_exchange_18 (fun H locs hw => ?_)
  have hw : WD D A (kwX4_exchange cI cZ cG q q_best q_trial q_town v_most (upd v_trial (a1).toNatClampNeg (v_trial (a2).toNatClampNeg))) s.heap H locs := hw
  refine lv_aload_n hx hb dX4_exchange_19 rfl (lv_at hl 1 rfl) ?_
  refine kget (ci := 4) (v := .ref q_trial) X hw iX4 0 rfl rfl 1 (by decide) tw_296 rfl dX4_exchange_20 ?_
  refine lv_iload_n hx hb dX4_exchange_23 rfl (lv_at hl 3 rfl) ?_
  refine lv_iload_n hx hb dX4_exchange_24 rfl (lv_at hl 0 rfl) ?_
  obtain ⟨g_25, h⟩ := gd h
  refine kiast X hw 1 rfl rfl g_25 dX4_exchange_25 (fun H locs hw => ?_)
  have hw : WD D A (kwX4_exchange cI cZ cG q q_best q_trial q_town v_most (upd (upd v_trial (a1).toNatClampNeg (v_trial (a2).toNatClampNeg)) (a2).toNatClampNeg (v_trial (a1).toNatClampNeg))) s.heap H locs := hw
  obtain rfl := Option.some.inj h
  exact ret _ _ _ _ dX4_exchange_26 hw
set_option maxHeartbeats 4000000 in
set_option maxRecDepth 100000 in
theorem cX4_exchange_ct (l : Launch) (D : va_G) (cI cZ cG : ClassId) (q q_best q_trial q_town : Nat)  (v_most : Int32) (v_trial : (Nat → Int32)) (a1 : Int32) (a2 : Int32) (N : Nat) (ρ : (Nat → Int32)) (h : fX4_exchange N a1 a2 v_trial  = some ρ) (sz : Nat) : Met l yX4_exchange (wz yX4_exchange cX4_exchange 4 none) (cRm 0 0) (cPre D (TY cI cZ cG) [.ref q, .int a1, .int a2] (kwX4_exchange cI cZ cG q q_best q_trial q_town v_most v_trial) sz) (cQv D (kwX4_exchange cI cZ cG q q_best q_trial q_town v_most v_trial) (kwX4_exchange cI cZ cG q q_best q_trial q_town v_most ρ) sz) 0 0 (va_A (kwX4_exchange cI cZ cG q q_best q_trial q_town v_most v_trial) sz) :=
  mk_v (by decide) (Nat.le_of_ble_eq_true rfl) (fun X hrm ret hw hl => wX4_exchange X hrm ret h _ _ _ hw hl)
theorem dX4_goToNextTrial_0 : decode cX4_goToNextTrial 0 = .ok (.iload_n 1, 1) := by decide +kernel
theorem dX4_goToNextTrial_1 : decode cX4_goToNextTrial 1 = .ok (.iconst 2, 1) := by decide +kernel
theorem dX4_goToNextTrial_2 : decode cX4_goToNextTrial 2 = .ok (.isub, 1) := by decide +kernel
theorem dX4_goToNextTrial_3 : decode cX4_goToNextTrial 3 = .ok (.istore_n 2, 1) := by decide +kernel
theorem dX4_goToNextTrial_4 : decode cX4_goToNextTrial 4 = .ok (.iload_n 2, 1) := by decide +kernel
theorem dX4_goToNextTrial_5 : decode cX4_goToNextTrial 5 = .ok (.ifCond .lt 26, 3) := by decide +kernel
theorem dX4_goToNextTrial_8 : decode cX4_goToNextTrial 8 = .ok (.aload_n 0, 1) := by decide +kernel
theorem dX4_goToNextTrial_9 : decode cX4_goToNextTrial 9 = .ok (.getfield 15, 3) := by decide +kernel
theorem dX4_goToNextTrial_12 : decode cX4_goToNextTrial 12 = .ok (.iload_n 2, 1) := by decide +kernel
theorem dX4_goToNextTrial_13 : decode cX4_goToNextTrial 13 = .ok (.iaload, 1) := by decide +kernel
theorem dX4_goToNextTrial_14 : decode cX4_goToNextTrial 14 = .ok (.aload_n 0, 1) := by decide +kernel
theorem dX4_goToNextTrial_15 : decode cX4_goToNextTrial 15 = .ok (.getfield 15, 3) := by decide +kernel
theorem dX4_goToNextTrial_18 : decode cX4_goToNextTrial 18 = .ok (.iload_n 2, 1) := by decide +kernel
theorem dX4_goToNextTrial_19 : decode cX4_goToNextTrial 19 = .ok (.iconst 1, 1) := by decide +kernel
theorem dX4_goToNextTrial_20 : decode cX4_goToNextTrial 20 = .ok (.iadd, 1) := by decide +kernel
theorem dX4_goToNextTrial_21 : decode cX4_goToNextTrial 21 = .ok (.iaload, 1) := by decide +kernel
theorem dX4_goToNextTrial_22 : decode cX4_goToNextTrial 22 = .ok (.if_icmp .le 9, 3) := by decide +kernel
theorem dX4_goToNextTrial_25 : decode cX4_goToNextTrial 25 = .ok (.iinc 2 (-1), 3) := by decide +kernel
theorem dX4_goToNextTrial_28 : decode cX4_goToNextTrial 28 = .ok (.goto (-24), 3) := by decide +kernel
theorem dX4_goToNextTrial_31 : decode cX4_goToNextTrial 31 = .ok (.iload_n 2, 1) := by decide +kernel
theorem dX4_goToNextTrial_32 : decode cX4_goToNextTrial 32 = .ok (.ifCond .ge 5, 3) := by decide +kernel
theorem dX4_goToNextTrial_35 : decode cX4_goToNextTrial 35 = .ok (.iconst 0, 1) := by decide +kernel
theorem dX4_goToNextTrial_36 : decode cX4_goToNextTrial 36 = .ok (.ireturn, 1) := by decide +kernel
theorem dX4_goToNextTrial_37 : decode cX4_goToNextTrial 37 = .ok (.iload_n 1, 1) := by decide +kernel
theorem dX4_goToNextTrial_38 : decode cX4_goToNextTrial 38 = .ok (.iconst 1, 1) := by decide +kernel
theorem dX4_goToNextTrial_39 : decode cX4_goToNextTrial 39 = .ok (.isub, 1) := by decide +kernel
theorem dX4_goToNextTrial_40 : decode cX4_goToNextTrial 40 = .ok (.istore_n 3, 1) := by decide +kernel
theorem dX4_goToNextTrial_41 : decode cX4_goToNextTrial 41 = .ok (.iload_n 3, 1) := by decide +kernel
theorem dX4_goToNextTrial_42 : decode cX4_goToNextTrial 42 = .ok (.iload_n 2, 1) := by decide +kernel
theorem dX4_goToNextTrial_43 : decode cX4_goToNextTrial 43 = .ok (.if_icmp .le 24, 3) := by decide +kernel
theorem dX4_goToNextTrial_46 : decode cX4_goToNextTrial 46 = .ok (.aload_n 0, 1) := by decide +kernel
theorem dX4_goToNextTrial_47 : decode cX4_goToNextTrial 47 = .ok (.getfield 15, 3) := by decide +kernel
theorem dX4_goToNextTrial_50 : decode cX4_goToNextTrial 50 = .ok (.iload_n 3, 1) := by decide +kernel
theorem dX4_goToNextTrial_51 : decode cX4_goToNextTrial 51 = .ok (.iaload, 1) := by decide +kernel
theorem dX4_goToNextTrial_52 : decode cX4_goToNextTrial 52 = .ok (.aload_n 0, 1) := by decide +kernel
theorem dX4_goToNextTrial_53 : decode cX4_goToNextTrial 53 = .ok (.getfield 15, 3) := by decide +kernel
theorem dX4_goToNextTrial_56 : decode cX4_goToNextTrial 56 = .ok (.iload_n 2, 1) := by decide +kernel
theorem dX4_goToNextTrial_57 : decode cX4_goToNextTrial 57 = .ok (.iaload, 1) := by decide +kernel
theorem dX4_goToNextTrial_58 : decode cX4_goToNextTrial 58 = .ok (.if_icmp .ge 9, 3) := by decide +kernel
theorem dX4_goToNextTrial_61 : decode cX4_goToNextTrial 61 = .ok (.iinc 3 (-1), 3) := by decide +kernel
theorem dX4_goToNextTrial_64 : decode cX4_goToNextTrial 64 = .ok (.goto (-23), 3) := by decide +kernel
theorem dX4_goToNextTrial_67 : decode cX4_goToNextTrial 67 = .ok (.aload_n 0, 1) := by decide +kernel
theorem dX4_goToNextTrial_68 : decode cX4_goToNextTrial 68 = .ok (.iload_n 2, 1) := by decide +kernel
theorem dX4_goToNextTrial_69 : decode cX4_goToNextTrial 69 = .ok (.iload_n 3, 1) := by decide +kernel
theorem dX4_goToNextTrial_70 : decode cX4_goToNextTrial 70 = .ok (.invokevirtual 73, 3) := by decide +kernel
theorem dX4_goToNextTrial_73 : decode cX4_goToNextTrial 73 = .ok (.iload_n 2, 1) := by decide +kernel
theorem dX4_goToNextTrial_74 : decode cX4_goToNextTrial 74 = .ok (.iconst 1, 1) := by decide +kernel
theorem dX4_goToNextTrial_75 : decode cX4_goToNextTrial 75 = .ok (.iadd, 1) := by decide +kernel
theorem dX4_goToNextTrial_76 : decode cX4_goToNextTrial 76 = .ok (.istore 4, 2) := by decide +kernel
theorem dX4_goToNextTrial_78 : decode cX4_goToNextTrial 78 = .ok (.iload_n 1, 1) := by decide +kernel
theorem dX4_goToNextTrial_79 : decode cX4_goToNextTrial 79 = .ok (.iconst 1, 1) := by decide +kernel
theorem dX4_goToNextTrial_80 : decode cX4_goToNextTrial 80 = .ok (.isub, 1) := by decide +kernel
theorem dX4_goToNextTrial_81 : decode cX4_goToNextTrial 81 = .ok (.istore 5, 2) := by decide +kernel
theorem dX4_goToNextTrial_83 : decode cX4_goToNextTrial 83 = .ok (.iload 4, 2) := by decide +kernel
theorem dX4_goToNextTrial_85 : decode cX4_goToNextTrial 85 = .ok (.iload 5, 2) := by decide +kernel
theorem dX4_goToNextTrial_87 : decode cX4_goToNextTrial 87 = .ok (.if_icmp .ge 20, 3) := by decide +kernel
theorem dX4_goToNextTrial_90 : decode cX4_goToNextTrial 90 = .ok (.aload_n 0, 1) := by decide +kernel
theorem dX4_goToNextTrial_91 : decode cX4_goToNextTrial 91 = .ok (.iload 4, 2) := by decide +kernel
theorem dX4_goToNextTrial_93 : decode cX4_goToNextTrial 93 = .ok (.iload 5, 2) := by decide +kernel
theorem dX4_goToNextTrial_95 : decode cX4_goToNextTrial 95 = .ok (.invokevirtual 73, 3) := by decide +kernel
theorem dX4_goToNextTrial_98 : decode cX4_goToNextTrial 98 = .ok (.iinc 4 1, 3) := by decide +kernel
theorem dX4_goToNextTrial_101 : decode cX4_goToNextTrial 101 = .ok (.iinc 5 (-1), 3) := by decide +kernel
theorem dX4_goToNextTrial_104 : decode cX4_goToNextTrial 104 = .ok (.goto (-21), 3) := by decide +kernel
theorem dX4_goToNextTrial_107 : decode cX4_goToNextTrial 107 = .ok (.iconst 1, 1) := by decide +kernel
theorem dX4_goToNextTrial_108 : decode cX4_goToNextTrial 108 = .ok (.ireturn, 1) := by decide +kernel
abbrev kwX4_goToNextTrial (cI cZ cG : ClassId) (q q_best q_trial q_town : Nat) (v_most : Int32) (v_trial : (Nat → Int32)) : va_W := [(q, .inr (4, [.ref q_best, .ref q_trial, .ref q_town, .int v_most])), (q_trial, .inl (cI, 6, .inl v_trial))]
noncomputable def fX4_goToNextTrial_83 (N : Nat) (a1 : Int32)  (K_83 : Int32 → Int32 → (Nat → Int32) → Option (Int32 × (Nat → Int32))) (l4 : Int32) (l5 : Int32) (v_trial : (Nat → Int32)) : Option (Int32 × (Nat → Int32)) := if l5 ≤ l4 then (some ((1 : Int32), v_trial)) else ((fX4_exchange N l4 l5 v_trial).bind (fun x_95 => K_83 (l4 + (1 : Int32)) (l5 + (-1 : Int32)) x_95))
noncomputable def fX4_goToNextTrial_67 (N : Nat) (a1 : Int32)  (l2 : Int32) (l3 : Int32) (v_trial : (Nat → Int32)) : Option (Int32 × (Nat → Int32)) := (fX4_exchange N l2 l3 v_trial).bind (fun x_70 => lfix (fun (K : Int32 × Int32 × (Nat → Int32) → Option (Int32 × (Nat → Int32))) (a : Int32 × Int32 × (Nat → Int32)) => fX4_goToNextTrial_83 N a1 (fun (l4 : Int32) (l5 : Int32) (v_trial : (Nat → Int32)) => K (l4, l5, v_trial)) a.1 a.2.1 a.2.2) N ((l2 + (1 : Int32)), (a1 - (1 : Int32)), x_70))
noncomputable def fX4_goToNextTrial_41 (N : Nat) (a1 : Int32)  (K_41 : Int32 → Int32 → (Nat → Int32) → Option (Int32 × (Nat → Int32))) (l2 : Int32) (l3 : Int32) (v_trial : (Nat → Int32)) : Option (Int32 × (Nat → Int32)) := if l3 ≤ l2 then (fX4_goToNextTrial_67 N a1 l2 l3 v_trial) else (if l3 < 0 ∨ 6 ≤ (l3).toNatClampNeg then none else (if l2 < 0 ∨ 6 ≤ (l2).toNatClampNeg then none else (if (v_trial (l2).toNatClampNeg) ≤ (v_trial (l3).toNatClampNeg) then (fX4_goToNextTrial_67 N a1 l2 l3 v_trial) else (K_41 l2 (l3 + (-1 : Int32)) v_trial))))
noncomputable def fX4_goToNextTrial_4 (N : Nat) (a1 : Int32)  (K_4 : Int32 → (Nat → Int32) → Option (Int32 × (Nat → Int32))) (l2 : Int32) (v_trial : (Nat → Int32)) : Option (Int32 × (Nat → Int32)) := if l2 < 0 then (if 0 ≤ l2 then (lfix (fun (K : Int32 × Int32 × (Nat → Int32) → Option (Int32 × (Nat → Int32))) (a : Int32 × Int32 × (Nat → Int32)) => fX4_goToNextTrial_41 N a1 (fun (l2 : Int32) (l3 : Int32) (v_trial : (Nat → Int32)) => K (l2, l3, v_trial)) a.1 a.2.1 a.2.2) N (l2, (a1 - (1 : Int32)), v_trial)) else (some ((0 : Int32), v_trial))) else (if l2 < 0 ∨ 6 ≤ (l2).toNatClampNeg then none else (if (l2 + (1 : Int32)) < 0 ∨ 6 ≤ ((l2 + (1 : Int32))).toNatClampNeg then none else (if (v_trial (l2).toNatClampNeg) ≤ (v_trial ((l2 + (1 : Int32))).toNatClampNeg) then (if 0 ≤ l2 then (lfix (fun (K : Int32 × Int32 × (Nat → Int32) → Option (Int32 × (Nat → Int32))) (a : Int32 × Int32 × (Nat → Int32)) => fX4_goToNextTrial_41 N a1 (fun (l2 : Int32) (l3 : Int32) (v_trial : (Nat → Int32)) => K (l2, l3, v_trial)) a.1 a.2.1 a.2.2) N (l2, (a1 - (1 : Int32)), v_trial)) else (some ((0 : Int32), v_trial))) else (K_4 (l2 + (-1 : Int32)) v_trial))))
noncomputable def fX4_goToNextTrial (N : Nat) (a1 : Int32) (v_trial : (Nat → Int32))  : Option (Int32 × (Nat → Int32)) := lfix (fun (K : Int32 × (Nat → Int32) → Option (Int32 × (Nat → Int32))) (a : Int32 × (Nat → Int32)) => fX4_goToNextTrial_4 N a1 (fun (l2 : Int32) (v_trial : (Nat → Int32)) => K (l2, v_trial)) a.1 a.2) N ((a1 - (2 : Int32)), v_trial)
set_option maxHeartbeats 4000000 in
set_option maxRecDepth 100000 in
theorem wX4_goToNextTrial_83 {p : Program} {l : Launch} {e : Env} {R : Room} {s : State} {m : MethodId} {args : Array Value} {below : List Frame} {meth : Method} {c : Code} {cells slots : Nat} {Q : State → Prop} {D : va_G} {A : Nat → Prop} {cI cZ cG : ClassId} {q q_best q_trial q_town : Nat} {v_most : Int32} {a1 : Int32} {N : Nat} {ρ : Int32 × (Nat → Int32)} (X : CX p s m args c cX4_goToNextTrial 6 RX4 D (TY cI cZ cG) A) (hrm : RM R 1 23 cells slots) (ret : ∀ (pc : Nat) (H : Heap) (locs : List Loc) (ls : Array Slot), narrow .boolean (.int ρ.1) = .int ρ.1 → decode cX4_goToNextTrial pc = .ok (.ireturn, 1) → WD D A (kwX4_goToNextTrial cI cZ cG q q_best q_trial q_town v_most (ρ.2)) s.heap H locs → W p l e R s m args below meth c H locs cells slots Q (F0 m pc ls [.int ρ.1]))  : ∀ (n : Nat) (a : Int32 × Int32 × (Nat → Int32)), lfix (fun (K : Int32 × Int32 × (Nat → Int32) → Option (Int32 × (Nat → Int32))) (a : Int32 × Int32 × (Nat → Int32)) => fX4_goToNextTrial_83 N a1 (fun (l4 : Int32) (l5 : Int32) (v_trial : (Nat → Int32)) => K (l4, l5, v_trial)) a.1 a.2.1 a.2.2) n a = some ρ → (fun (l4 : Int32) (l5 : Int32) (v_trial : (Nat → Int32)) => ∀ (H : Heap) (locs : List Loc) (ls : Array Slot), WD D A (kwX4_goToNextTrial cI cZ cG q q_best q_trial q_town v_most v_trial) s.heap H locs → lv_has ls 6 [(0, .ref q), (4, .int l4), (5, .int l5)] → W p l e R s m args below meth c H locs cells slots Q (F0 m 83 ls [])) (a.1) (a.2.1) (a.2.2) := by
  have hx := X.1.1
  have hb := X.1.2.1
  refine lfix_W (fun K hK a h => ?_)
  obtain ⟨l4, l5, v_trial⟩ := a
  intro H locs ls hw hl
  have h : fX4_goToNextTrial_83 N a1 (fun (l4 : Int32) (l5 : Int32) (v_trial : (Nat → Int32)) => K (l4, l5, v_trial)) l4 l5 v_trial = some ρ := h
  have hK_83 : ∀ (l4 : Int32) (l5 : Int32) (v_trial : (Nat → Int32)), (fun (l4 : Int32) (l5 : Int32) (v_trial : (Nat → Int32)) => K (l4, l5, v_trial)) l4 l5 v_trial = some ρ → ∀ (H : Heap) (locs : List Loc) (ls : Array Slot), WD D A (kwX4_goToNextTrial cI cZ cG q q_best q_trial q_town v_most v_trial) s.heap H locs → lv_has ls 6 [(0, .ref q), (4, .int l4), (5, .int l5)] → W p l e R s m args below meth c H locs cells slots Q (F0 m 83 ls []) := fun l4 l5 v_trial h => hK (l4, l5, v_trial) h
  generalize (fun (l4 : Int32) (l5 : Int32) (v_trial : (Nat → Int32)) => K (l4, l5, v_trial)) = K_83 at h hK_83
  have hw : WD D A (kwX4_goToNextTrial cI cZ cG q q_best q_trial q_town v_most v_trial) s.heap H locs := hw
  have hl : lv_has ls 6 [(0, .ref q), (4, .int l4), (5, .int l5)] := hl
  unfold fX4_goToNextTrial_83 at h
  refine lv_iload hx hb dX4_goToNextTrial_83 (lv_at hl 1 rfl) ?_
  refine lv_iload hx hb dX4_goToNextTrial_85 (lv_at hl 2 rfl) ?_
  refine lv_icmp_ge (tgt := 107) hx hb dX4_goToNextTrial_87 (by decide) (fun c_87 => ?_) (fun c_87 => ?_)
  · have h := ift c_87 h
    refine lv_iconst (v := (1 : Int32)) hx hb dX4_goToNextTrial_107 (by decide) ?_
    obtain rfl := Option.some.inj h
    exact ret _ _ _ _ (show narrow .boolean (.int (1 : Int32)) = .int (1 : Int32) from rfl) dX4_goToNextTrial_108 hw
  · have h := iff_ c_87 h
    refine lv_aload_n hx hb dX4_goToNextTrial_90 rfl (lv_at hl 0 rfl) ?_
    refine lv_iload hx hb dX4_goToNextTrial_91 (lv_at hl 1 rfl) ?_
    refine lv_iload hx hb dX4_goToNextTrial_93 (lv_at hl 2 rfl) ?_
    obtain ⟨x_95, hc_95, h⟩ := obd h
    refine ksV_v (ws2 := (kwX4_goToNextTrial cI cZ cG q q_best q_trial q_town v_most x_95)) (nW := 2) (ci := 4) (As := [.int l4, .int l5]) (rest := []) X hw rfl rfl rfl (cX4_exchange_ct l D cI cZ cG q q_best q_trial q_town v_most v_trial l4 l5 N x_95 hc_95 H.size) mX4_exchange tw_306 (hrm.call (by decide) (by decide)) [0, 1] rfl (by decide) rfl (by decide) rfl trivial rfl hl.1 rfl (Nat.le_of_ble_eq_true rfl) dX4_goToNextTrial_95 ⟨hrm.2.2.1, hrm.2.2.2⟩ (fun H locs hw => ?_)
    refine lv_iinc (v := (l4 + (1 : Int32))) (lv' := [(4, .int (l4 + (1 : Int32))), (0, .ref q), (5, .int l5)]) hx hb dX4_goToNextTrial_98 hl (k := 1) rfl (congrArg (l4 + ·) (by decide)) (by decide) rfl (fun ls hl => ?_)
    refine lv_iinc (v := (l5 + (-1 : Int32))) (lv' := [(5, .int (l5 + (-1 : Int32))), (4, .int (l4 + (1 : Int32))), (0, .ref q)]) hx hb dX4_goToNextTrial_101 hl (k := 2) rfl (congrArg (l5 + ·) (by decide)) (by decide) rfl (fun ls hl => ?_)
    refine lv_goto (tgt := 83) hx hb dX4_goToNextTrial_104 (by decide) ?_
    exact hK_83 _ _ _ h _ _ _ hw (lv_sub hl [2, 1, 0] rfl)
set_option maxHeartbeats 4000000 in
set_option maxRecDepth 100000 in
theorem wX4_goToNextTrial_67 {p : Program} {l : Launch} {e : Env} {R : Room} {s : State} {m : MethodId} {args : Array Value} {below : List Frame} {meth : Method} {c : Code} {cells slots : Nat} {Q : State → Prop} {D : va_G} {A : Nat → Prop} {cI cZ cG : ClassId} {q q_best q_trial q_town : Nat} {v_most : Int32} {v_trial : (Nat → Int32)} {a1 : Int32} {N : Nat} {ρ : Int32 × (Nat → Int32)} (X : CX p s m args c cX4_goToNextTrial 6 RX4 D (TY cI cZ cG) A) (hrm : RM R 1 23 cells slots) (ret : ∀ (pc : Nat) (H : Heap) (locs : List Loc) (ls : Array Slot), narrow .boolean (.int ρ.1) = .int ρ.1 → decode cX4_goToNextTrial pc = .ok (.ireturn, 1) → WD D A (kwX4_goToNextTrial cI cZ cG q q_best q_trial q_town v_most (ρ.2)) s.heap H locs → W p l e R s m args below meth c H locs cells slots Q (F0 m pc ls [.int ρ.1]))  {l2 : Int32} {l3 : Int32} (h : fX4_goToNextTrial_67 N a1 l2 l3 v_trial = some ρ) (H : Heap) (locs : List Loc) (ls : Array Slot) (hw : WD D A (kwX4_goToNextTrial cI cZ cG q q_best q_trial q_town v_most v_trial) s.heap H locs) (hl : lv_has ls 6 [(0, .ref q), (1, .int a1), (2, .int l2), (3, .int l3)]) : W p l e R s m args below meth c H locs cells slots Q (F0 m 67 ls []) := by
  have hx := X.1.1
  have hb := X.1.2.1
  unfold fX4_goToNextTrial_67 at h
  refine lv_aload_n hx hb dX4_goToNextTrial_67 rfl (lv_at hl 0 rfl) ?_
  refine lv_iload_n hx hb dX4_goToNextTrial_68 rfl (lv_at hl 2 rfl) ?_
  refine lv_iload_n hx hb dX4_goToNextTrial_69 rfl (lv_at hl 3 rfl) ?_
  obtain ⟨x_70, hc_70, h⟩ := obd h
  refine ksV_v (ws2 := (kwX4_goToNextTrial cI cZ cG q q_best q_trial q_town v_most x_70)) (nW := 2) (ci := 4) (As := [.int l2, .int l3]) (rest := []) X hw rfl rfl rfl (cX4_exchange_ct l D cI cZ cG q q_best q_trial q_town v_most v_trial l2 l3 N x_70 hc_70 H.size) mX4_exchange tw_306 (hrm.call (by decide) (by decide)) [0, 1] rfl (by decide) rfl (by decide) rfl trivial rfl hl.1 rfl (Nat.le_of_ble_eq_true rfl) dX4_goToNextTrial_70 ⟨hrm.2.2.1, hrm.2.2.2⟩ (fun H locs hw => ?_)
  refine lv_iload_n hx hb dX4_goToNextTrial_73 rfl (lv_at hl 2 rfl) ?_
  refine lv_iconst (v := (1 : Int32)) hx hb dX4_goToNextTrial_74 (by decide) ?_
  refine lv_iadd hx hb dX4_goToNextTrial_75 ?_
  refine lv_istore (lv' := [(4, .int (l2 + (1 : Int32))), (0, .ref q), (1, .int a1), (2, .int l2), (3, .int l3)]) hx hb dX4_goToNextTrial_76 hl (by decide) rfl (fun ls hl => ?_)
  refine lv_iload_n hx hb dX4_goToNextTrial_78 rfl (lv_at hl 2 rfl) ?_
  refine lv_iconst (v := (1 : Int32)) hx hb dX4_goToNextTrial_79 (by decide) ?_
  refine lv_isub hx hb dX4_goToNextTrial_80 ?_
  refine lv_istore (lv' := [(5, .int (a1 - (1 : Int32))), (4, .int (l2 + (1 : Int32))), (0, .ref q), (1, .int a1), (2, .int l2), (3, .int l3)]) hx hb dX4_goToNextTrial_81 hl (by decide) rfl (fun ls hl => ?_)
  exact wX4_goToNextTrial_83 X hrm ret  _ _ h _ _ _ hw (lv_sub hl [2, 1, 0] rfl)
set_option maxHeartbeats 4000000 in
set_option maxRecDepth 100000 in
theorem wX4_goToNextTrial_41 {p : Program} {l : Launch} {e : Env} {R : Room} {s : State} {m : MethodId} {args : Array Value} {below : List Frame} {meth : Method} {c : Code} {cells slots : Nat} {Q : State → Prop} {D : va_G} {A : Nat → Prop} {cI cZ cG : ClassId} {q q_best q_trial q_town : Nat} {v_most : Int32} {a1 : Int32} {N : Nat} {ρ : Int32 × (Nat → Int32)} (X : CX p s m args c cX4_goToNextTrial 6 RX4 D (TY cI cZ cG) A) (hrm : RM R 1 23 cells slots) (ret : ∀ (pc : Nat) (H : Heap) (locs : List Loc) (ls : Array Slot), narrow .boolean (.int ρ.1) = .int ρ.1 → decode cX4_goToNextTrial pc = .ok (.ireturn, 1) → WD D A (kwX4_goToNextTrial cI cZ cG q q_best q_trial q_town v_most (ρ.2)) s.heap H locs → W p l e R s m args below meth c H locs cells slots Q (F0 m pc ls [.int ρ.1]))  : ∀ (n : Nat) (a : Int32 × Int32 × (Nat → Int32)), lfix (fun (K : Int32 × Int32 × (Nat → Int32) → Option (Int32 × (Nat → Int32))) (a : Int32 × Int32 × (Nat → Int32)) => fX4_goToNextTrial_41 N a1 (fun (l2 : Int32) (l3 : Int32) (v_trial : (Nat → Int32)) => K (l2, l3, v_trial)) a.1 a.2.1 a.2.2) n a = some ρ → (fun (l2 : Int32) (l3 : Int32) (v_trial : (Nat → Int32)) => ∀ (H : Heap) (locs : List Loc) (ls : Array Slot), WD D A (kwX4_goToNextTrial cI cZ cG q q_best q_trial q_town v_most v_trial) s.heap H locs → lv_has ls 6 [(0, .ref q), (1, .int a1), (2, .int l2), (3, .int l3)] → W p l e R s m args below meth c H locs cells slots Q (F0 m 41 ls [])) (a.1) (a.2.1) (a.2.2) := by
  have hx := X.1.1
  have hb := X.1.2.1
  refine lfix_W (fun K hK a h => ?_)
  obtain ⟨l2, l3, v_trial⟩ := a
  intro H locs ls hw hl
  have h : fX4_goToNextTrial_41 N a1 (fun (l2 : Int32) (l3 : Int32) (v_trial : (Nat → Int32)) => K (l2, l3, v_trial)) l2 l3 v_trial = some ρ := h
  have hK_41 : ∀ (l2 : Int32) (l3 : Int32) (v_trial : (Nat → Int32)), (fun (l2 : Int32) (l3 : Int32) (v_trial : (Nat → Int32)) => K (l2, l3, v_trial)) l2 l3 v_trial = some ρ → ∀ (H : Heap) (locs : List Loc) (ls : Array Slot), WD D A (kwX4_goToNextTrial cI cZ cG q q_best q_trial q_town v_most v_trial) s.heap H locs → lv_has ls 6 [(0, .ref q), (1, .int a1), (2, .int l2), (3, .int l3)] → W p l e R s m args below meth c H locs cells slots Q (F0 m 41 ls []) := fun l2 l3 v_trial h => hK (l2, l3, v_trial) h
  generalize (fun (l2 : Int32) (l3 : Int32) (v_trial : (Nat → Int32)) => K (l2, l3, v_trial)) = K_41 at h hK_41
  have hw : WD D A (kwX4_goToNextTrial cI cZ cG q q_best q_trial q_town v_most v_trial) s.heap H locs := hw
  have hl : lv_has ls 6 [(0, .ref q), (1, .int a1), (2, .int l2), (3, .int l3)] := hl
  unfold fX4_goToNextTrial_41 at h
  refine lv_iload_n hx hb dX4_goToNextTrial_41 rfl (lv_at hl 3 rfl) ?_
  refine lv_iload_n hx hb dX4_goToNextTrial_42 rfl (lv_at hl 2 rfl) ?_
  refine lv_icmp_le (tgt := 67) hx hb dX4_goToNextTrial_43 (by decide) (fun c_43 => ?_) (fun c_43 => ?_)
  · have h := ift c_43 h
    exact wX4_goToNextTrial_67 X hrm ret  h _ _ _ hw (lv_sub hl [0, 1, 2, 3] rfl)
  · have h := iff_ c_43 h
    refine lv_aload_n hx hb dX4_goToNextTrial_46 rfl (lv_at hl 0 rfl) ?_
    refine kget (ci := 4) (v := .ref q_trial) X hw iX4 0 rfl rfl 1 (by decide) tw_296 rfl dX4_goToNextTrial_47 ?_
    refine lv_iload_n hx hb dX4_goToNextTrial_50 rfl (lv_at hl 3 rfl) ?_
    obtain ⟨g_51, h⟩ := gd h
    refine kiald X hw 1 rfl rfl g_51 dX4_goToNextTrial_51 ?_
    refine lv_aload_n hx hb dX4_goToNextTrial_52 rfl (lv_at hl 0 rfl) ?_
    refine kget (ci := 4) (v := .ref q_trial) X hw iX4 0 rfl rfl 1 (by decide) tw_296 rfl dX4_goToNextTrial_53 ?_
    refine lv_iload_n hx hb dX4_goToNextTrial_56 rfl (lv_at hl 2 rfl) ?_
    obtain ⟨g_57, h⟩ := gd h
    refine kiald X hw 1 rfl rfl g_57 dX4_goToNextTrial_57 ?_
    refine lv_icmp_ge (tgt := 67) hx hb dX4_goToNextTrial_58 (by decide) (fun c_58 => ?_) (fun c_58 => ?_)
    · have h := ift c_58 h
      exact wX4_goToNextTrial_67 X hrm ret  h _ _ _ hw (lv_sub hl [0, 1, 2, 3] rfl)
    · have h := iff_ c_58 h
      refine lv_iinc (v := (l3 + (-1 : Int32))) (lv' := [(3, .int (l3 + (-1 : Int32))), (0, .ref q), (1, .int a1), (2, .int l2)]) hx hb dX4_goToNextTrial_61 hl (k := 3) rfl (congrArg (l3 + ·) (by decide)) (by decide) rfl (fun ls hl => ?_)
      refine lv_goto (tgt := 41) hx hb dX4_goToNextTrial_64 (by decide) ?_
      exact hK_41 _ _ _ h _ _ _ hw (lv_sub hl [1, 2, 3, 0] rfl)
set_option maxHeartbeats 4000000 in
set_option maxRecDepth 100000 in
theorem wX4_goToNextTrial_4 {p : Program} {l : Launch} {e : Env} {R : Room} {s : State} {m : MethodId} {args : Array Value} {below : List Frame} {meth : Method} {c : Code} {cells slots : Nat} {Q : State → Prop} {D : va_G} {A : Nat → Prop} {cI cZ cG : ClassId} {q q_best q_trial q_town : Nat} {v_most : Int32} {a1 : Int32} {N : Nat} {ρ : Int32 × (Nat → Int32)} (X : CX p s m args c cX4_goToNextTrial 6 RX4 D (TY cI cZ cG) A) (hrm : RM R 1 23 cells slots) (ret : ∀ (pc : Nat) (H : Heap) (locs : List Loc) (ls : Array Slot), narrow .boolean (.int ρ.1) = .int ρ.1 → decode cX4_goToNextTrial pc = .ok (.ireturn, 1) → WD D A (kwX4_goToNextTrial cI cZ cG q q_best q_trial q_town v_most (ρ.2)) s.heap H locs → W p l e R s m args below meth c H locs cells slots Q (F0 m pc ls [.int ρ.1]))  : ∀ (n : Nat) (a : Int32 × (Nat → Int32)), lfix (fun (K : Int32 × (Nat → Int32) → Option (Int32 × (Nat → Int32))) (a : Int32 × (Nat → Int32)) => fX4_goToNextTrial_4 N a1 (fun (l2 : Int32) (v_trial : (Nat → Int32)) => K (l2, v_trial)) a.1 a.2) n a = some ρ → (fun (l2 : Int32) (v_trial : (Nat → Int32)) => ∀ (H : Heap) (locs : List Loc) (ls : Array Slot), WD D A (kwX4_goToNextTrial cI cZ cG q q_best q_trial q_town v_most v_trial) s.heap H locs → lv_has ls 6 [(0, .ref q), (1, .int a1), (2, .int l2)] → W p l e R s m args below meth c H locs cells slots Q (F0 m 4 ls [])) (a.1) (a.2) := by
  have hx := X.1.1
  have hb := X.1.2.1
  refine lfix_W (fun K hK a h => ?_)
  obtain ⟨l2, v_trial⟩ := a
  intro H locs ls hw hl
  have h : fX4_goToNextTrial_4 N a1 (fun (l2 : Int32) (v_trial : (Nat → Int32)) => K (l2, v_trial)) l2 v_trial = some ρ := h
  have hK_4 : ∀ (l2 : Int32) (v_trial : (Nat → Int32)), (fun (l2 : Int32) (v_trial : (Nat → Int32)) => K (l2, v_trial)) l2 v_trial = some ρ → ∀ (H : Heap) (locs : List Loc) (ls : Array Slot), WD D A (kwX4_goToNextTrial cI cZ cG q q_best q_trial q_town v_most v_trial) s.heap H locs → lv_has ls 6 [(0, .ref q), (1, .int a1), (2, .int l2)] → W p l e R s m args below meth c H locs cells slots Q (F0 m 4 ls []) := fun l2 v_trial h => hK (l2, v_trial) h
  generalize (fun (l2 : Int32) (v_trial : (Nat → Int32)) => K (l2, v_trial)) = K_4 at h hK_4
  have hw : WD D A (kwX4_goToNextTrial cI cZ cG q q_best q_trial q_town v_most v_trial) s.heap H locs := hw
  have hl : lv_has ls 6 [(0, .ref q), (1, .int a1), (2, .int l2)] := hl
  unfold fX4_goToNextTrial_4 at h
  refine lv_iload_n hx hb dX4_goToNextTrial_4 rfl (lv_at hl 2 rfl) ?_
  refine lv_if_lt (tgt := 31) hx hb dX4_goToNextTrial_5 (by decide) (fun c_5 => ?_) (fun c_5 => ?_)
  · have h := ift c_5 h
    refine lv_iload_n hx hb dX4_goToNextTrial_31 rfl (lv_at hl 2 rfl) ?_
    refine lv_if_ge (tgt := 37) hx hb dX4_goToNextTrial_32 (by decide) (fun c_32 => ?_) (fun c_32 => ?_)
    · have h := ift c_32 h
      refine lv_iload_n hx hb dX4_goToNextTrial_37 rfl (lv_at hl 1 rfl) ?_
      refine lv_iconst (v := (1 : Int32)) hx hb dX4_goToNextTrial_38 (by decide) ?_
      refine lv_isub hx hb dX4_goToNextTrial_39 ?_
      refine lv_istore_n (lv' := [(3, .int (a1 - (1 : Int32))), (0, .ref q), (1, .int a1), (2, .int l2)]) hx hb dX4_goToNextTrial_40 rfl hl (by decide) rfl (fun ls hl => ?_)
      exact wX4_goToNextTrial_41 X hrm ret  _ _ h _ _ _ hw (lv_sub hl [1, 2, 3, 0] rfl)
    · have h := iff_ c_32 h
      refine lv_iconst (v := (0 : Int32)) hx hb dX4_goToNextTrial_35 (by decide) ?_
      obtain rfl := Option.some.inj h
      exact ret _ _ _ _ (show narrow .boolean (.int (0 : Int32)) = .int (0 : Int32) from rfl) dX4_goToNextTrial_36 hw
  · have h := iff_ c_5 h
    refine lv_aload_n hx hb dX4_goToNextTrial_8 rfl (lv_at hl 0 rfl) ?_
    refine kget (ci := 4) (v := .ref q_trial) X hw iX4 0 rfl rfl 1 (by decide) tw_296 rfl dX4_goToNextTrial_9 ?_
    refine lv_iload_n hx hb dX4_goToNextTrial_12 rfl (lv_at hl 2 rfl) ?_
    obtain ⟨g_13, h⟩ := gd h
    refine kiald X hw 1 rfl rfl g_13 dX4_goToNextTrial_13 ?_
    refine lv_aload_n hx hb dX4_goToNextTrial_14 rfl (lv_at hl 0 rfl) ?_
    refine kget (ci := 4) (v := .ref q_trial) X hw iX4 0 rfl rfl 1 (by decide) tw_296 rfl dX4_goToNextTrial_15 ?_
    refine lv_iload_n hx hb dX4_goToNextTrial_18 rfl (lv_at hl 2 rfl) ?_
    refine lv_iconst (v := (1 : Int32)) hx hb dX4_goToNextTrial_19 (by decide) ?_
    refine lv_iadd hx hb dX4_goToNextTrial_20 ?_
    obtain ⟨g_21, h⟩ := gd h
    refine kiald X hw 1 rfl rfl g_21 dX4_goToNextTrial_21 ?_
    refine lv_icmp_le (tgt := 31) hx hb dX4_goToNextTrial_22 (by decide) (fun c_22 => ?_) (fun c_22 => ?_)
    · have h := ift c_22 h
      refine lv_iload_n hx hb dX4_goToNextTrial_31 rfl (lv_at hl 2 rfl) ?_
      refine lv_if_ge (tgt := 37) hx hb dX4_goToNextTrial_32 (by decide) (fun c_32 => ?_) (fun c_32 => ?_)
      · have h := ift c_32 h
        refine lv_iload_n hx hb dX4_goToNextTrial_37 rfl (lv_at hl 1 rfl) ?_
        refine lv_iconst (v := (1 : Int32)) hx hb dX4_goToNextTrial_38 (by decide) ?_
        refine lv_isub hx hb dX4_goToNextTrial_39 ?_
        refine lv_istore_n (lv' := [(3, .int (a1 - (1 : Int32))), (0, .ref q), (1, .int a1), (2, .int l2)]) hx hb dX4_goToNextTrial_40 rfl hl (by decide) rfl (fun ls hl => ?_)
        exact wX4_goToNextTrial_41 X hrm ret  _ _ h _ _ _ hw (lv_sub hl [1, 2, 3, 0] rfl)
      · have h := iff_ c_32 h
        refine lv_iconst (v := (0 : Int32)) hx hb dX4_goToNextTrial_35 (by decide) ?_
        obtain rfl := Option.some.inj h
        exact ret _ _ _ _ (show narrow .boolean (.int (0 : Int32)) = .int (0 : Int32) from rfl) dX4_goToNextTrial_36 hw
    · have h := iff_ c_22 h
      refine lv_iinc (v := (l2 + (-1 : Int32))) (lv' := [(2, .int (l2 + (-1 : Int32))), (0, .ref q), (1, .int a1)]) hx hb dX4_goToNextTrial_25 hl (k := 2) rfl (congrArg (l2 + ·) (by decide)) (by decide) rfl (fun ls hl => ?_)
      refine lv_goto (tgt := 4) hx hb dX4_goToNextTrial_28 (by decide) ?_
      exact hK_4 _ _ h _ _ _ hw (lv_sub hl [1, 2, 0] rfl)
set_option maxHeartbeats 4000000 in
set_option maxRecDepth 100000 in
theorem wX4_goToNextTrial {p : Program} {l : Launch} {e : Env} {R : Room} {s : State} {m : MethodId} {args : Array Value} {below : List Frame} {meth : Method} {c : Code} {cells slots : Nat} {Q : State → Prop} {D : va_G} {A : Nat → Prop} {cI cZ cG : ClassId} {q q_best q_trial q_town : Nat} {v_most : Int32} {v_trial : (Nat → Int32)} {a1 : Int32} {N : Nat} {ρ : Int32 × (Nat → Int32)} (X : CX p s m args c cX4_goToNextTrial 6 RX4 D (TY cI cZ cG) A) (hrm : RM R 1 23 cells slots) (ret : ∀ (pc : Nat) (H : Heap) (locs : List Loc) (ls : Array Slot), narrow .boolean (.int ρ.1) = .int ρ.1 → decode cX4_goToNextTrial pc = .ok (.ireturn, 1) → WD D A (kwX4_goToNextTrial cI cZ cG q q_best q_trial q_town v_most (ρ.2)) s.heap H locs → W p l e R s m args below meth c H locs cells slots Q (F0 m pc ls [.int ρ.1])) (h : fX4_goToNextTrial N a1 v_trial  = some ρ) (H : Heap) (locs : List Loc) (ls : Array Slot) (hw : WD D A (kwX4_goToNextTrial cI cZ cG q q_best q_trial q_town v_most v_trial) s.heap H locs) (hl : lv_has ls 6 [(0, .ref q), (1, .int a1)]) : W p l e R s m args below meth c H locs cells slots Q (F0 m 0 ls []) := by
  have hx := X.1.1
  have hb := X.1.2.1
  unfold fX4_goToNextTrial at h
  refine lv_iload_n hx hb dX4_goToNextTrial_0 rfl (lv_at hl 1 rfl) ?_
  refine lv_iconst (v := (2 : Int32)) hx hb dX4_goToNextTrial_1 (by decide) ?_
  refine lv_isub hx hb dX4_goToNextTrial_2 ?_
  refine lv_istore_n (lv' := [(2, .int (a1 - (2 : Int32))), (0, .ref q), (1, .int a1)]) hx hb dX4_goToNextTrial_3 rfl hl (by decide) rfl (fun ls hl => ?_)
  exact wX4_goToNextTrial_4 X hrm ret  _ _ h _ _ _ hw (lv_sub hl [1, 2, 0] rfl)
set_option maxHeartbeats 4000000 in
set_option maxRecDepth 100000 in
theorem cX4_goToNextTrial_ct (l : Launch) (D : va_G) (cI cZ cG : ClassId) (q q_best q_trial q_town : Nat)  (v_most : Int32) (v_trial : (Nat → Int32)) (a1 : Int32) (N : Nat) (ρ : Int32 × (Nat → Int32)) (h : fX4_goToNextTrial N a1 v_trial  = some ρ) (sz : Nat) : Met l yX4_goToNextTrial (wz yX4_goToNextTrial cX4_goToNextTrial 6 (some .boolean)) (cRm 1 23) (cPre D (TY cI cZ cG) [.ref q, .int a1] (kwX4_goToNextTrial cI cZ cG q q_best q_trial q_town v_most v_trial) sz) (cQi D (ρ.1) (kwX4_goToNextTrial cI cZ cG q q_best q_trial q_town v_most v_trial) (kwX4_goToNextTrial cI cZ cG q q_best q_trial q_town v_most (ρ.2)) sz) 0 0 (va_A (kwX4_goToNextTrial cI cZ cG q q_best q_trial q_town v_most v_trial) sz) :=
  mk_z (by decide) (Nat.le_of_ble_eq_true rfl) (fun X hrm ret hw hl => wX4_goToNextTrial X hrm ret h _ _ _ hw hl)
