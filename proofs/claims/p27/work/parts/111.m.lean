theorem dX9_in_0 : decode cX9_in 0 = .ok (.lload_n 0, 1) := by decide +kernel
theorem dX9_in_1 : decode cX9_in 1 = .ok (.lload_n 2, 1) := by decide +kernel
theorem dX9_in_2 : decode cX9_in 2 = .ok (.lcmp, 1) := by decide +kernel
theorem dX9_in_3 : decode cX9_in 3 = .ok (.ifCond .lt 14, 3) := by decide +kernel
theorem dX9_in_6 : decode cX9_in 6 = .ok (.lload_n 0, 1) := by decide +kernel
theorem dX9_in_7 : decode cX9_in 7 = .ok (.lload 4, 2) := by decide +kernel
theorem dX9_in_9 : decode cX9_in 9 = .ok (.lcmp, 1) := by decide +kernel
theorem dX9_in_10 : decode cX9_in 10 = .ok (.ifCond .gt 7, 3) := by decide +kernel
theorem dX9_in_13 : decode cX9_in 13 = .ok (.iconst 1, 1) := by decide +kernel
theorem dX9_in_14 : decode cX9_in 14 = .ok (.goto 4, 3) := by decide +kernel
theorem dX9_in_17 : decode cX9_in 17 = .ok (.iconst 0, 1) := by decide +kernel
theorem dX9_in_18 : decode cX9_in 18 = .ok (.ireturn, 1) := by decide +kernel
abbrev kwX9_in (cI cZ cG : ClassId) : va_W := []
noncomputable def fX9_in (N : Nat) (a0 : Int64) (a2 : Int64) (a4 : Int64)   : Option (Int32) := if (lg_cmp a0 a2) < 0 then (some (0 : Int32)) else (if 0 < (lg_cmp a0 a4) then (some (0 : Int32)) else (some (1 : Int32)))
set_option maxHeartbeats 4000000 in
set_option maxRecDepth 100000 in
theorem wX9_in {p : Program} {l : Launch} {e : Env} {R : Room} {s : State} {m : MethodId} {args : Array Value} {below : List Frame} {meth : Method} {c : Code} {cells slots : Nat} {Q : State → Prop} {D : va_G} {A : Nat → Prop} {cI cZ cG : ClassId} {a0 : Int64} {a2 : Int64} {a4 : Int64} {N : Nat} {ρ : Int32} (X : CX p s m args c cX9_in 6 RX9 D (TY cI cZ cG) A) (hrm : RM R 0 0 cells slots) (ret : ∀ (pc : Nat) (H : Heap) (locs : List Loc) (ls : Array Slot), narrow .boolean (.int ρ) = .int ρ → decode cX9_in pc = .ok (.ireturn, 1) → WD D A (kwX9_in cI cZ cG) s.heap H locs → W p l e R s m args below meth c H locs cells slots Q (F0 m pc ls [.int ρ])) (h : fX9_in N a0 a2 a4   = some ρ) (H : Heap) (locs : List Loc) (ls : Array Slot) (hw : WD D A (kwX9_in cI cZ cG) s.heap H locs) (hl : lv_has ls 6 [(0, .long a0), (2, .long a2), (4, .long a4)]) : W p l e R s m args below meth c H locs cells slots Q (F0 m 0 ls []) := by
  have hx := X.1.1
  have hb := X.1.2.1
  unfold fX9_in at h
  refine lv_lload_n hx hb dX9_in_0 rfl (lv_at hl 0 rfl) ?_
  refine lv_lload_n hx hb dX9_in_1 rfl (lv_at hl 1 rfl) ?_
  refine W.lcmp hx hb dX9_in_2 ?_
  refine lv_if_lt (tgt := 17) hx hb dX9_in_3 (by decide) (fun c_3 => ?_) (fun c_3 => ?_)
  · have h := ift c_3 h
    refine lv_iconst (v := (0 : Int32)) hx hb dX9_in_17 (by decide) ?_
    obtain rfl := Option.some.inj h
    exact ret _ _ _ _ (show narrow .boolean (.int (0 : Int32)) = .int (0 : Int32) from rfl) dX9_in_18 hw
  · have h := iff_ c_3 h
    refine lv_lload_n hx hb dX9_in_6 rfl (lv_at hl 0 rfl) ?_
    refine lv_lload hx hb dX9_in_7 (lv_at hl 2 rfl) ?_
    refine W.lcmp hx hb dX9_in_9 ?_
    refine lv_if_gt (tgt := 17) hx hb dX9_in_10 (by decide) (fun c_10 => ?_) (fun c_10 => ?_)
    · have h := ift c_10 h
      refine lv_iconst (v := (0 : Int32)) hx hb dX9_in_17 (by decide) ?_
      obtain rfl := Option.some.inj h
      exact ret _ _ _ _ (show narrow .boolean (.int (0 : Int32)) = .int (0 : Int32) from rfl) dX9_in_18 hw
    · have h := iff_ c_10 h
      refine lv_iconst (v := (1 : Int32)) hx hb dX9_in_13 (by decide) ?_
      refine lv_goto (tgt := 18) hx hb dX9_in_14 (by decide) ?_
      obtain rfl := Option.some.inj h
      exact ret _ _ _ _ (show narrow .boolean (.int (1 : Int32)) = .int (1 : Int32) from rfl) dX9_in_18 hw
set_option maxHeartbeats 4000000 in
set_option maxRecDepth 100000 in
theorem cX9_in_ct (l : Launch) (D : va_G) (cI cZ cG : ClassId)    (a0 : Int64) (a2 : Int64) (a4 : Int64) (N : Nat) (ρ : Int32) (h : fX9_in N a0 a2 a4   = some ρ) (sz : Nat) : Met l yX9_in (wz yX9_in cX9_in 6 (some .boolean)) (cRm 0 0) (cPre D (TY cI cZ cG) [.long a0, .long a2, .long a4] (kwX9_in cI cZ cG) sz) (cQi D (ρ) (kwX9_in cI cZ cG) (kwX9_in cI cZ cG) sz) 0 0 (va_A (kwX9_in cI cZ cG) sz) :=
  mk_z (by decide) (Nat.le_of_ble_eq_true rfl) (fun X hrm ret hw hl => wX9_in X hrm ret h _ _ _ hw hl)
theorem dX9_copy_0 : decode cX9_copy 0 = .ok (.iconst 0, 1) := by decide +kernel
theorem dX9_copy_1 : decode cX9_copy 1 = .ok (.istore_n 2, 1) := by decide +kernel
theorem dX9_copy_2 : decode cX9_copy 2 = .ok (.iload_n 2, 1) := by decide +kernel
theorem dX9_copy_3 : decode cX9_copy 3 = .ok (.aload_n 0, 1) := by decide +kernel
theorem dX9_copy_4 : decode cX9_copy 4 = .ok (.arraylength, 1) := by decide +kernel
theorem dX9_copy_5 : decode cX9_copy 5 = .ok (.if_icmp .ge 15, 3) := by decide +kernel
theorem dX9_copy_8 : decode cX9_copy 8 = .ok (.aload_n 1, 1) := by decide +kernel
theorem dX9_copy_9 : decode cX9_copy 9 = .ok (.iload_n 2, 1) := by decide +kernel
theorem dX9_copy_10 : decode cX9_copy 10 = .ok (.aload_n 0, 1) := by decide +kernel
theorem dX9_copy_11 : decode cX9_copy 11 = .ok (.iload_n 2, 1) := by decide +kernel
theorem dX9_copy_12 : decode cX9_copy 12 = .ok (.iaload, 1) := by decide +kernel
theorem dX9_copy_13 : decode cX9_copy 13 = .ok (.iastore, 1) := by decide +kernel
theorem dX9_copy_14 : decode cX9_copy 14 = .ok (.iinc 2 1, 3) := by decide +kernel
theorem dX9_copy_17 : decode cX9_copy 17 = .ok (.goto (-15), 3) := by decide +kernel
theorem dX9_copy_20 : decode cX9_copy 20 = .ok (.return_, 1) := by decide +kernel
abbrev kwX9_copy (cI cZ cG : ClassId) (q0 q1 n_a0 n_a1 : Nat) (w0_arr : (Nat → Int32)) (w1_arr : (Nat → Int32)) : va_W := [(q0, .inl (cI, n_a0, .inl w0_arr)), (q1, .inl (cI, n_a1, .inl w1_arr))]
noncomputable def fX9_copy_2 (N : Nat) (n_a0 : Nat) (n_a1 : Nat) (w0_arr : (Nat → Int32))  (K_2 : Int32 → (Nat → Int32) → Option ((Nat → Int32))) (l2 : Int32) (w1_arr : (Nat → Int32)) : Option ((Nat → Int32)) := if (Int32.ofNat n_a0) ≤ l2 then (some w1_arr) else (if l2 < 0 ∨ n_a0 ≤ (l2).toNatClampNeg then none else (if l2 < 0 ∨ n_a1 ≤ (l2).toNatClampNeg then none else (K_2 (l2 + (1 : Int32)) (upd w1_arr (l2).toNatClampNeg (w0_arr (l2).toNatClampNeg)))))
noncomputable def fX9_copy (N : Nat) (n_a0 : Nat) (n_a1 : Nat) (w0_arr : (Nat → Int32)) (w1_arr : (Nat → Int32))  : Option ((Nat → Int32)) := lfix (fun (K : Int32 × (Nat → Int32) → Option ((Nat → Int32))) (a : Int32 × (Nat → Int32)) => fX9_copy_2 N n_a0 n_a1 w0_arr (fun (l2 : Int32) (w1_arr : (Nat → Int32)) => K (l2, w1_arr)) a.1 a.2) N ((0 : Int32), w1_arr)
set_option maxHeartbeats 4000000 in
set_option maxRecDepth 100000 in
theorem wX9_copy_2 {p : Program} {l : Launch} {e : Env} {R : Room} {s : State} {m : MethodId} {args : Array Value} {below : List Frame} {meth : Method} {c : Code} {cells slots : Nat} {Q : State → Prop} {D : va_G} {A : Nat → Prop} {cI cZ cG : ClassId} {q0 q1 : Nat} {n_a0 n_a1 : Nat} {w0_arr : (Nat → Int32)} {N : Nat} {ρ : (Nat → Int32)} (X : CX p s m args c cX9_copy 3 RX9 D (TY cI cZ cG) A) (hrm : RM R 0 0 cells slots) (ret : ∀ (pc : Nat) (H : Heap) (locs : List Loc) (ls : Array Slot), decode cX9_copy pc = .ok (.return_, 1) → WD D A (kwX9_copy cI cZ cG q0 q1 n_a0 n_a1 w0_arr ρ) s.heap H locs → W p l e R s m args below meth c H locs cells slots Q (F0 m pc ls []))  : ∀ (n : Nat) (a : Int32 × (Nat → Int32)), lfix (fun (K : Int32 × (Nat → Int32) → Option ((Nat → Int32))) (a : Int32 × (Nat → Int32)) => fX9_copy_2 N n_a0 n_a1 w0_arr (fun (l2 : Int32) (w1_arr : (Nat → Int32)) => K (l2, w1_arr)) a.1 a.2) n a = some ρ → (fun (l2 : Int32) (w1_arr : (Nat → Int32)) => ∀ (H : Heap) (locs : List Loc) (ls : Array Slot), WD D A (kwX9_copy cI cZ cG q0 q1 n_a0 n_a1 w0_arr w1_arr) s.heap H locs → lv_has ls 3 [(0, .ref q0), (1, .ref q1), (2, .int l2)] → W p l e R s m args below meth c H locs cells slots Q (F0 m 2 ls [])) (a.1) (a.2) := by
  have hx := X.1.1
  have hb := X.1.2.1
  refine lfix_W (fun K hK a h => ?_)
  obtain ⟨l2, w1_arr⟩ := a
  intro H locs ls hw hl
  have h : fX9_copy_2 N n_a0 n_a1 w0_arr (fun (l2 : Int32) (w1_arr : (Nat → Int32)) => K (l2, w1_arr)) l2 w1_arr = some ρ := h
  have hK_2 : ∀ (l2 : Int32) (w1_arr : (Nat → Int32)), (fun (l2 : Int32) (w1_arr : (Nat → Int32)) => K (l2, w1_arr)) l2 w1_arr = some ρ → ∀ (H : Heap) (locs : List Loc) (ls : Array Slot), WD D A (kwX9_copy cI cZ cG q0 q1 n_a0 n_a1 w0_arr w1_arr) s.heap H locs → lv_has ls 3 [(0, .ref q0), (1, .ref q1), (2, .int l2)] → W p l e R s m args below meth c H locs cells slots Q (F0 m 2 ls []) := fun l2 w1_arr h => hK (l2, w1_arr) h
  generalize (fun (l2 : Int32) (w1_arr : (Nat → Int32)) => K (l2, w1_arr)) = K_2 at h hK_2
  have hw : WD D A (kwX9_copy cI cZ cG q0 q1 n_a0 n_a1 w0_arr w1_arr) s.heap H locs := hw
  have hl : lv_has ls 3 [(0, .ref q0), (1, .ref q1), (2, .int l2)] := hl
  unfold fX9_copy_2 at h
  refine lv_iload_n hx hb dX9_copy_2 rfl (lv_at hl 2 rfl) ?_
  refine lv_aload_n hx hb dX9_copy_3 rfl (lv_at hl 0 rfl) ?_
  refine kalen (v := (Int32.ofNat n_a0)) X hw 0 rfl rfl rfl dX9_copy_4 ?_
  refine lv_icmp_ge (tgt := 20) hx hb dX9_copy_5 (by decide) (fun c_5 => ?_) (fun c_5 => ?_)
  · have h := ift c_5 h
    obtain rfl := Option.some.inj h
    exact ret _ _ _ _ dX9_copy_20 hw
  · have h := iff_ c_5 h
    refine lv_aload_n hx hb dX9_copy_8 rfl (lv_at hl 1 rfl) ?_
    refine lv_iload_n hx hb dX9_copy_9 rfl (lv_at hl 2 rfl) ?_
    refine lv_aload_n hx hb dX9_copy_10 rfl (lv_at hl 0 rfl) ?_
    refine lv_iload_n hx hb dX9_copy_11 rfl (lv_at hl 2 rfl) ?_
    obtain ⟨g_12, h⟩ := gd h
    refine kiald X hw 0 rfl rfl g_12 dX9_copy_12 ?_
    obtain ⟨g_13, h⟩ := gd h
    refine kiast X hw 1 rfl rfl g_13 dX9_copy_13 (fun H locs hw => ?_)
    have hw : WD D A (kwX9_copy cI cZ cG q0 q1 n_a0 n_a1 w0_arr (upd w1_arr (l2).toNatClampNeg (w0_arr (l2).toNatClampNeg))) s.heap H locs := hw
    refine lv_iinc (v := (l2 + (1 : Int32))) (lv' := [(2, .int (l2 + (1 : Int32))), (0, .ref q0), (1, .ref q1)]) hx hb dX9_copy_14 hl (k := 2) rfl (congrArg (l2 + ·) (by decide)) (by decide) rfl (fun ls hl => ?_)
    refine lv_goto (tgt := 2) hx hb dX9_copy_17 (by decide) ?_
    exact hK_2 _ _ h _ _ _ hw (lv_sub hl [1, 2, 0] rfl)
set_option maxHeartbeats 4000000 in
set_option maxRecDepth 100000 in
theorem wX9_copy {p : Program} {l : Launch} {e : Env} {R : Room} {s : State} {m : MethodId} {args : Array Value} {below : List Frame} {meth : Method} {c : Code} {cells slots : Nat} {Q : State → Prop} {D : va_G} {A : Nat → Prop} {cI cZ cG : ClassId} {q0 q1 : Nat} {n_a0 n_a1 : Nat} {w0_arr : (Nat → Int32)} {w1_arr : (Nat → Int32)} {N : Nat} {ρ : (Nat → Int32)} (X : CX p s m args c cX9_copy 3 RX9 D (TY cI cZ cG) A) (hrm : RM R 0 0 cells slots) (ret : ∀ (pc : Nat) (H : Heap) (locs : List Loc) (ls : Array Slot), decode cX9_copy pc = .ok (.return_, 1) → WD D A (kwX9_copy cI cZ cG q0 q1 n_a0 n_a1 w0_arr ρ) s.heap H locs → W p l e R s m args below meth c H locs cells slots Q (F0 m pc ls [])) (h : fX9_copy N n_a0 n_a1 w0_arr w1_arr  = some ρ) (H : Heap) (locs : List Loc) (ls : Array Slot) (hw : WD D A (kwX9_copy cI cZ cG q0 q1 n_a0 n_a1 w0_arr w1_arr) s.heap H locs) (hl : lv_has ls 3 [(0, .ref q0), (1, .ref q1)]) : W p l e R s m args below meth c H locs cells slots Q (F0 m 0 ls []) := by
  have hx := X.1.1
  have hb := X.1.2.1
  unfold fX9_copy at h
  refine lv_iconst (v := (0 : Int32)) hx hb dX9_copy_0 (by decide) ?_
  refine lv_istore_n (lv' := [(2, .int (0 : Int32)), (0, .ref q0), (1, .ref q1)]) hx hb dX9_copy_1 rfl hl (by decide) rfl (fun ls hl => ?_)
  exact wX9_copy_2 X hrm ret  _ _ h _ _ _ hw (lv_sub hl [1, 2, 0] rfl)
set_option maxHeartbeats 4000000 in
set_option maxRecDepth 100000 in
theorem cX9_copy_ct (l : Launch) (D : va_G) (cI cZ cG : ClassId) (q0 q1 : Nat) (n_a0 n_a1 : Nat) (w0_arr : (Nat → Int32)) (w1_arr : (Nat → Int32))  (N : Nat) (ρ : (Nat → Int32)) (h : fX9_copy N n_a0 n_a1 w0_arr w1_arr  = some ρ) (sz : Nat) : Met l yX9_copy (wz yX9_copy cX9_copy 3 none) (cRm 0 0) (cPre D (TY cI cZ cG) [.ref q0, .ref q1] (kwX9_copy cI cZ cG q0 q1 n_a0 n_a1 w0_arr w1_arr) sz) (cQv D (kwX9_copy cI cZ cG q0 q1 n_a0 n_a1 w0_arr w1_arr) (kwX9_copy cI cZ cG q0 q1 n_a0 n_a1 w0_arr ρ) sz) 0 0 (va_A (kwX9_copy cI cZ cG q0 q1 n_a0 n_a1 w0_arr w1_arr) sz) :=
  mk_v (by decide) (Nat.le_of_ble_eq_true rfl) (fun X hrm ret hw hl => wX9_copy X hrm ret h _ _ _ hw hl)
theorem dX9_round_0 : decode cX9_round 0 = .ok (.iload_n 0, 1) := by decide +kernel
theorem dX9_round_1 : decode cX9_round 1 = .ok (.iload_n 1, 1) := by decide +kernel
theorem dX9_round_2 : decode cX9_round 2 = .ok (.isub, 1) := by decide +kernel
theorem dX9_round_3 : decode cX9_round 3 = .ok (.bipush 12, 2) := by decide +kernel
theorem dX9_round_5 : decode cX9_round 5 = .ok (.iadd, 1) := by decide +kernel
theorem dX9_round_6 : decode cX9_round 6 = .ok (.bipush 12, 2) := by decide +kernel
theorem dX9_round_8 : decode cX9_round 8 = .ok (.irem, 1) := by decide +kernel
theorem dX9_round_9 : decode cX9_round 9 = .ok (.istore_n 2, 1) := by decide +kernel
theorem dX9_round_10 : decode cX9_round 10 = .ok (.iload_n 2, 1) := by decide +kernel
theorem dX9_round_11 : decode cX9_round 11 = .ok (.bipush 6, 2) := by decide +kernel
theorem dX9_round_13 : decode cX9_round 13 = .ok (.if_icmp .le 10, 3) := by decide +kernel
theorem dX9_round_16 : decode cX9_round 16 = .ok (.bipush 12, 2) := by decide +kernel
theorem dX9_round_18 : decode cX9_round 18 = .ok (.iload_n 2, 1) := by decide +kernel
theorem dX9_round_19 : decode cX9_round 19 = .ok (.isub, 1) := by decide +kernel
theorem dX9_round_20 : decode cX9_round 20 = .ok (.goto 4, 3) := by decide +kernel
theorem dX9_round_23 : decode cX9_round 23 = .ok (.iload_n 2, 1) := by decide +kernel
theorem dX9_round_24 : decode cX9_round 24 = .ok (.ireturn, 1) := by decide +kernel
abbrev kwX9_round (cI cZ cG : ClassId) : va_W := []
noncomputable def fX9_round (N : Nat) (a0 : Int32) (a1 : Int32)   : Option (Int32) := if (((a0 - a1) + (12 : Int32)) - ((a0 - a1) + (12 : Int32)) / (12 : Int32) * (12 : Int32)) ≤ (6 : Int32) then (some (((a0 - a1) + (12 : Int32)) - ((a0 - a1) + (12 : Int32)) / (12 : Int32) * (12 : Int32))) else (some ((12 : Int32) - (((a0 - a1) + (12 : Int32)) - ((a0 - a1) + (12 : Int32)) / (12 : Int32) * (12 : Int32))))
set_option maxHeartbeats 4000000 in
set_option maxRecDepth 100000 in
theorem wX9_round {p : Program} {l : Launch} {e : Env} {R : Room} {s : State} {m : MethodId} {args : Array Value} {below : List Frame} {meth : Method} {c : Code} {cells slots : Nat} {Q : State → Prop} {D : va_G} {A : Nat → Prop} {cI cZ cG : ClassId} {a0 : Int32} {a1 : Int32} {N : Nat} {ρ : Int32} (X : CX p s m args c cX9_round 3 RX9 D (TY cI cZ cG) A) (hrm : RM R 0 0 cells slots) (ret : ∀ (pc : Nat) (H : Heap) (locs : List Loc) (ls : Array Slot), decode cX9_round pc = .ok (.ireturn, 1) → WD D A (kwX9_round cI cZ cG) s.heap H locs → W p l e R s m args below meth c H locs cells slots Q (F0 m pc ls [.int ρ])) (h : fX9_round N a0 a1   = some ρ) (H : Heap) (locs : List Loc) (ls : Array Slot) (hw : WD D A (kwX9_round cI cZ cG) s.heap H locs) (hl : lv_has ls 3 [(0, .int a0), (1, .int a1)]) : W p l e R s m args below meth c H locs cells slots Q (F0 m 0 ls []) := by
  have hx := X.1.1
  have hb := X.1.2.1
  unfold fX9_round at h
  refine lv_iload_n hx hb dX9_round_0 rfl (lv_at hl 0 rfl) ?_
  refine lv_iload_n hx hb dX9_round_1 rfl (lv_at hl 1 rfl) ?_
  refine lv_isub hx hb dX9_round_2 ?_
  refine lv_bipush (v := (12 : Int32)) hx hb dX9_round_3 (by decide) ?_
  refine lv_iadd hx hb dX9_round_5 ?_
  refine lv_bipush (v := (12 : Int32)) hx hb dX9_round_6 (by decide) ?_
  refine lv_irem hx hb dX9_round_8 (by decide) ?_
  refine lv_istore_n (lv' := [(2, .int (((a0 - a1) + (12 : Int32)) - ((a0 - a1) + (12 : Int32)) / (12 : Int32) * (12 : Int32))), (0, .int a0), (1, .int a1)]) hx hb dX9_round_9 rfl hl (by decide) rfl (fun ls hl => ?_)
  refine lv_iload_n hx hb dX9_round_10 rfl (lv_at hl 0 rfl) ?_
  refine lv_bipush (v := (6 : Int32)) hx hb dX9_round_11 (by decide) ?_
  refine lv_icmp_le (tgt := 23) hx hb dX9_round_13 (by decide) (fun c_13 => ?_) (fun c_13 => ?_)
  · have h := ift c_13 h
    refine lv_iload_n hx hb dX9_round_23 rfl (lv_at hl 0 rfl) ?_
    obtain rfl := Option.some.inj h
    exact ret _ _ _ _ dX9_round_24 hw
  · have h := iff_ c_13 h
    refine lv_bipush (v := (12 : Int32)) hx hb dX9_round_16 (by decide) ?_
    refine lv_iload_n hx hb dX9_round_18 rfl (lv_at hl 0 rfl) ?_
    refine lv_isub hx hb dX9_round_19 ?_
    refine lv_goto (tgt := 24) hx hb dX9_round_20 (by decide) ?_
    obtain rfl := Option.some.inj h
    exact ret _ _ _ _ dX9_round_24 hw
set_option maxHeartbeats 4000000 in
set_option maxRecDepth 100000 in
theorem cX9_round_ct (l : Launch) (D : va_G) (cI cZ cG : ClassId)    (a0 : Int32) (a1 : Int32) (N : Nat) (ρ : Int32) (h : fX9_round N a0 a1   = some ρ) (sz : Nat) : Met l yX9_round (wz yX9_round cX9_round 3 (some .int)) (cRm 0 0) (cPre D (TY cI cZ cG) [.int a0, .int a1] (kwX9_round cI cZ cG) sz) (cQi D (ρ) (kwX9_round cI cZ cG) (kwX9_round cI cZ cG) sz) 0 0 (va_A (kwX9_round cI cZ cG) sz) :=
  mk_i (by decide) (Nat.le_of_ble_eq_true rfl) (fun X hrm ret hw hl => wX9_round X hrm ret h _ _ _ hw hl)
theorem dX9_letter_0 : decode cX9_letter 0 = .ok (.iload_n 1, 1) := by decide +kernel
theorem dX9_letter_1 : decode cX9_letter 1 = .ok (.i2l, 1) := by decide +kernel
theorem dX9_letter_2 : decode cX9_letter 2 = .ok (.lconst 1, 1) := by decide +kernel
theorem dX9_letter_3 : decode cX9_letter 3 = .ok (.ldc2_w 83, 3) := by decide +kernel
theorem dX9_letter_6 : decode cX9_letter 6 = .ok (.invokestatic 85, 3) := by decide +kernel
theorem dX9_letter_9 : decode cX9_letter 9 = .ok (.ifCond .ne 6, 3) := by decide +kernel
theorem dX9_letter_12 : decode cX9_letter 12 = .ok (.bipush (-102), 2) := by decide +kernel
theorem dX9_letter_14 : decode cX9_letter 14 = .ok (.ireturn, 1) := by decide +kernel
theorem dX9_letter_15 : decode cX9_letter 15 = .ok (.aload_n 0, 1) := by decide +kernel
theorem dX9_letter_16 : decode cX9_letter 16 = .ok (.getfield 89, 3) := by decide +kernel
theorem dX9_letter_19 : decode cX9_letter 19 = .ok (.bipush 32, 2) := by decide +kernel
theorem dX9_letter_21 : decode cX9_letter 21 = .ok (.if_icmp .ne 6, 3) := by decide +kernel
theorem dX9_letter_24 : decode cX9_letter 24 = .ok (.bipush (-104), 2) := by decide +kernel
theorem dX9_letter_26 : decode cX9_letter 26 = .ok (.ireturn, 1) := by decide +kernel
theorem dX9_letter_27 : decode cX9_letter 27 = .ok (.aload_n 0, 1) := by decide +kernel
theorem dX9_letter_28 : decode cX9_letter 28 = .ok (.getfield 7, 3) := by decide +kernel
theorem dX9_letter_31 : decode cX9_letter 31 = .ok (.aload_n 0, 1) := by decide +kernel
theorem dX9_letter_32 : decode cX9_letter 32 = .ok (.getfield 89, 3) := by decide +kernel
theorem dX9_letter_35 : decode cX9_letter 35 = .ok (.iload_n 1, 1) := by decide +kernel
theorem dX9_letter_36 : decode cX9_letter 36 = .ok (.iastore, 1) := by decide +kernel
theorem dX9_letter_37 : decode cX9_letter 37 = .ok (.aload_n 0, 1) := by decide +kernel
theorem dX9_letter_38 : decode cX9_letter 38 = .ok (.dup, 1) := by decide +kernel
theorem dX9_letter_39 : decode cX9_letter 39 = .ok (.getfield 89, 3) := by decide +kernel
theorem dX9_letter_42 : decode cX9_letter 42 = .ok (.iconst 1, 1) := by decide +kernel
theorem dX9_letter_43 : decode cX9_letter 43 = .ok (.iadd, 1) := by decide +kernel
theorem dX9_letter_44 : decode cX9_letter 44 = .ok (.putfield 89, 3) := by decide +kernel
theorem dX9_letter_47 : decode cX9_letter 47 = .ok (.aload_n 0, 1) := by decide +kernel
theorem dX9_letter_48 : decode cX9_letter 48 = .ok (.getfield 89, 3) := by decide +kernel
theorem dX9_letter_51 : decode cX9_letter 51 = .ok (.ireturn, 1) := by decide +kernel
abbrev kwX9_letter (cI cZ cG : ClassId) (q q_page q_worths q_kinds q_likes q_had q_plots q_row q_plotsThen q_rowThen q_traded q_points q_ringLong q_wishes q_order q_bestOrder q_sights q_ways q_keptKinds q_keptPlots q_keptRow q_keptHad q_keptWishes q_keptSights : Nat) (v_pageMany : Int32) (v_houses : Int32) (v_nights : Int32) (v_squaresRead : Int32) (v_front : Int32) (v_down : Int32) (v_frontThen : Int32) (v_downThen : Int32) (v_ringsMany : Int32) (v_wishesMany : Int32) (v_ordersDone : Int32) (v_seenMany : Int32) (v_seedNow : Int32) (v_keptSquare : Int32) (v_keptFront : Int32) (v_keptDown : Int32) (v_keptNights : Int32) (v_keptWishesMany : Int32) (v_keptSeen : Int32) (v_hash : Int64) (v_page : (Nat → Int32)) : va_W := [(q, .inr (9, [.ref q_page, .int v_pageMany, .int v_houses, .int v_nights, .int v_squaresRead, .ref q_worths, .ref q_kinds, .ref q_likes, .ref q_had, .ref q_plots, .ref q_row, .int v_front, .int v_down, .ref q_plotsThen, .ref q_rowThen, .int v_frontThen, .int v_downThen, .ref q_traded, .ref q_points, .int v_ringsMany, .ref q_ringLong, .int v_wishesMany, .ref q_wishes, .int v_ordersDone, .ref q_order, .ref q_bestOrder, .int v_seenMany, .ref q_sights, .ref q_ways, .int v_seedNow, .int v_keptSquare, .int v_keptFront, .int v_keptDown, .int v_keptNights, .int v_keptWishesMany, .int v_keptSeen, .ref q_keptKinds, .ref q_keptPlots, .ref q_keptRow, .ref q_keptHad, .ref q_keptWishes, .ref q_keptSights, .long v_hash])), (q_page, .inl (cI, 32, .inl v_page))]
noncomputable def fX9_letter (N : Nat) (a1 : Int32) (v_pageMany : Int32) (v_page : (Nat → Int32))  : Option (Int32 × Int32 × (Nat → Int32)) := (fX9_in N ((a1).toInt64) (1 : Int64) (126 : Int64)).bind (fun x_6 => if x_6 = 0 then (some ((-102 : Int32), v_pageMany, v_page)) else (if v_pageMany = (32 : Int32) then (some ((-104 : Int32), v_pageMany, v_page)) else (if v_pageMany < 0 ∨ 32 ≤ (v_pageMany).toNatClampNeg then none else (some ((v_pageMany + (1 : Int32)), (v_pageMany + (1 : Int32)), (upd v_page (v_pageMany).toNatClampNeg a1))))))
set_option maxHeartbeats 4000000 in
set_option maxRecDepth 100000 in
theorem wX9_letter {p : Program} {l : Launch} {e : Env} {R : Room} {s : State} {m : MethodId} {args : Array Value} {below : List Frame} {meth : Method} {c : Code} {cells slots : Nat} {Q : State → Prop} {D : va_G} {A : Nat → Prop} {cI cZ cG : ClassId} {q q_page q_worths q_kinds q_likes q_had q_plots q_row q_plotsThen q_rowThen q_traded q_points q_ringLong q_wishes q_order q_bestOrder q_sights q_ways q_keptKinds q_keptPlots q_keptRow q_keptHad q_keptWishes q_keptSights : Nat} {v_pageMany : Int32} {v_houses : Int32} {v_nights : Int32} {v_squaresRead : Int32} {v_front : Int32} {v_down : Int32} {v_frontThen : Int32} {v_downThen : Int32} {v_ringsMany : Int32} {v_wishesMany : Int32} {v_ordersDone : Int32} {v_seenMany : Int32} {v_seedNow : Int32} {v_keptSquare : Int32} {v_keptFront : Int32} {v_keptDown : Int32} {v_keptNights : Int32} {v_keptWishesMany : Int32} {v_keptSeen : Int32} {v_hash : Int64} {v_page : (Nat → Int32)} {a1 : Int32} {N : Nat} {ρ : Int32 × Int32 × (Nat → Int32)} (X : CX p s m args c cX9_letter 2 RX9 D (TY cI cZ cG) A) (hrm : RM R 1 25 cells slots) (ret : ∀ (pc : Nat) (H : Heap) (locs : List Loc) (ls : Array Slot), decode cX9_letter pc = .ok (.ireturn, 1) → WD D A (kwX9_letter cI cZ cG q q_page q_worths q_kinds q_likes q_had q_plots q_row q_plotsThen q_rowThen q_traded q_points q_ringLong q_wishes q_order q_bestOrder q_sights q_ways q_keptKinds q_keptPlots q_keptRow q_keptHad q_keptWishes q_keptSights (ρ.2.1) v_houses v_nights v_squaresRead v_front v_down v_frontThen v_downThen v_ringsMany v_wishesMany v_ordersDone v_seenMany v_seedNow v_keptSquare v_keptFront v_keptDown v_keptNights v_keptWishesMany v_keptSeen v_hash (ρ.2.2)) s.heap H locs → W p l e R s m args below meth c H locs cells slots Q (F0 m pc ls [.int ρ.1])) (h : fX9_letter N a1 v_pageMany v_page  = some ρ) (H : Heap) (locs : List Loc) (ls : Array Slot) (hw : WD D A (kwX9_letter cI cZ cG q q_page q_worths q_kinds q_likes q_had q_plots q_row q_plotsThen q_rowThen q_traded q_points q_ringLong q_wishes q_order q_bestOrder q_sights q_ways q_keptKinds q_keptPlots q_keptRow q_keptHad q_keptWishes q_keptSights v_pageMany v_houses v_nights v_squaresRead v_front v_down v_frontThen v_downThen v_ringsMany v_wishesMany v_ordersDone v_seenMany v_seedNow v_keptSquare v_keptFront v_keptDown v_keptNights v_keptWishesMany v_keptSeen v_hash v_page) s.heap H locs) (hl : lv_has ls 2 [(0, .ref q), (1, .int a1)]) : W p l e R s m args below meth c H locs cells slots Q (F0 m 0 ls []) := by
  have hx := X.1.1
  have hb := X.1.2.1
  unfold fX9_letter at h
  refine lv_iload_n hx hb dX9_letter_0 rfl (lv_at hl 1 rfl) ?_
  refine lv_i2l (v := ((a1).toInt64)) hx hb dX9_letter_1 rfl ?_
  refine lv_lconst (v := 1) hx hb dX9_letter_2 (by decide) ?_
  refine lv_ldc2 (v := (126 : Int64)) hx hb X.1.2.2.2.1 (X.1.2.2.2.2 _ tw_598) dX9_letter_3 ?_
  obtain ⟨x_6, hc_6, h⟩ := obd h
  refine ksS_i (ws2 := (kwX9_letter cI cZ cG q q_page q_worths q_kinds q_likes q_had q_plots q_row q_plotsThen q_rowThen q_traded q_points q_ringLong q_wishes q_order q_bestOrder q_sights q_ways q_keptKinds q_keptPlots q_keptRow q_keptHad q_keptWishes q_keptSights v_pageMany v_houses v_nights v_squaresRead v_front v_down v_frontThen v_downThen v_ringsMany v_wishesMany v_ordersDone v_seenMany v_seedNow v_keptSquare v_keptFront v_keptDown v_keptNights v_keptWishesMany v_keptSeen v_hash v_page)) (nW := 2) (As := [.long ((a1).toInt64), .long (1 : Int64), .long (126 : Int64)]) (rest := []) X hw (cX9_in_ct l D cI cZ cG ((a1).toInt64) (1 : Int64) (126 : Int64) N x_6 hc_6 H.size) mX9_in tw_599 (hrm.call (by decide) (by decide)) [] rfl (by decide) rfl (by decide) rfl ⟨rfl, ⟨rfl, trivial⟩⟩ rfl hl.1 rfl (Nat.le_of_ble_eq_true rfl) dX9_letter_6 ⟨hrm.2.2.1, hrm.2.2.2⟩ (fun H locs hw => ?_)
  refine lv_if_ne (tgt := 15) hx hb dX9_letter_9 (by decide) (fun c_9 => ?_) (fun c_9 => ?_)
  · have h := iff_ c_9 h
    refine lv_aload_n hx hb dX9_letter_15 rfl (lv_at hl 0 rfl) ?_
    refine kget (ci := 9) (v := .int v_pageMany) X hw iX9 0 rfl rfl 1 (by decide) tw_600 rfl dX9_letter_16 ?_
    refine lv_bipush (v := (32 : Int32)) hx hb dX9_letter_19 (by decide) ?_
    refine lv_icmp_ne (tgt := 27) hx hb dX9_letter_21 (by decide) (fun c_21 => ?_) (fun c_21 => ?_)
    · have h := iff_ c_21 h
      refine lv_aload_n hx hb dX9_letter_27 rfl (lv_at hl 0 rfl) ?_
      refine kget (ci := 9) (v := .ref q_page) X hw iX9 0 rfl rfl 0 (by decide) tw_601 rfl dX9_letter_28 ?_
      refine lv_aload_n hx hb dX9_letter_31 rfl (lv_at hl 0 rfl) ?_
      refine kget (ci := 9) (v := .int v_pageMany) X hw iX9 0 rfl rfl 1 (by decide) tw_600 rfl dX9_letter_32 ?_
      refine lv_iload_n hx hb dX9_letter_35 rfl (lv_at hl 1 rfl) ?_
      obtain ⟨g_36, h⟩ := gd h
      refine kiast X hw 1 rfl rfl g_36 dX9_letter_36 (fun H locs hw => ?_)
      have hw : WD D A (kwX9_letter cI cZ cG q q_page q_worths q_kinds q_likes q_had q_plots q_row q_plotsThen q_rowThen q_traded q_points q_ringLong q_wishes q_order q_bestOrder q_sights q_ways q_keptKinds q_keptPlots q_keptRow q_keptHad q_keptWishes q_keptSights v_pageMany v_houses v_nights v_squaresRead v_front v_down v_frontThen v_downThen v_ringsMany v_wishesMany v_ordersDone v_seenMany v_seedNow v_keptSquare v_keptFront v_keptDown v_keptNights v_keptWishesMany v_keptSeen v_hash (upd v_page (v_pageMany).toNatClampNeg a1)) s.heap H locs := hw
      refine lv_aload_n hx hb dX9_letter_37 rfl (lv_at hl 0 rfl) ?_
      refine lv_dup hx hb dX9_letter_38 rfl ?_
      refine kget (ci := 9) (v := .int v_pageMany) X hw iX9 0 rfl rfl 1 (by decide) tw_600 rfl dX9_letter_39 ?_
      refine lv_iconst (v := (1 : Int32)) hx hb dX9_letter_42 (by decide) ?_
      refine lv_iadd hx hb dX9_letter_43 ?_
      refine kput (ci := 9) (v := .int (v_pageMany + (1 : Int32))) (ty := .int) X hw iX9 tyX9_ok nmX9 0 rfl rfl 1 (by decide) tw_600 rfl rfl rfl rfl (Nat.le_of_ble_eq_true rfl) dX9_letter_44 (fun H locs hw => ?_)
      have hw : WD D A (kwX9_letter cI cZ cG q q_page q_worths q_kinds q_likes q_had q_plots q_row q_plotsThen q_rowThen q_traded q_points q_ringLong q_wishes q_order q_bestOrder q_sights q_ways q_keptKinds q_keptPlots q_keptRow q_keptHad q_keptWishes q_keptSights (v_pageMany + (1 : Int32)) v_houses v_nights v_squaresRead v_front v_down v_frontThen v_downThen v_ringsMany v_wishesMany v_ordersDone v_seenMany v_seedNow v_keptSquare v_keptFront v_keptDown v_keptNights v_keptWishesMany v_keptSeen v_hash (upd v_page (v_pageMany).toNatClampNeg a1)) s.heap H locs := hw
      refine lv_aload_n hx hb dX9_letter_47 rfl (lv_at hl 0 rfl) ?_
      refine kget (ci := 9) (v := .int (v_pageMany + (1 : Int32))) X hw iX9 0 rfl rfl 1 (by decide) tw_600 rfl dX9_letter_48 ?_
      obtain rfl := Option.some.inj h
      exact ret _ _ _ _ dX9_letter_51 hw
    · have h := ift c_21 h
      refine lv_bipush (v := (-104 : Int32)) hx hb dX9_letter_24 (by decide) ?_
      obtain rfl := Option.some.inj h
      exact ret _ _ _ _ dX9_letter_26 hw
  · have h := ift c_9 h
    refine lv_bipush (v := (-102 : Int32)) hx hb dX9_letter_12 (by decide) ?_
    obtain rfl := Option.some.inj h
    exact ret _ _ _ _ dX9_letter_14 hw
set_option maxHeartbeats 4000000 in
set_option maxRecDepth 100000 in
theorem cX9_letter_ct (l : Launch) (D : va_G) (cI cZ cG : ClassId) (q q_page q_worths q_kinds q_likes q_had q_plots q_row q_plotsThen q_rowThen q_traded q_points q_ringLong q_wishes q_order q_bestOrder q_sights q_ways q_keptKinds q_keptPlots q_keptRow q_keptHad q_keptWishes q_keptSights : Nat)  (v_pageMany : Int32) (v_houses : Int32) (v_nights : Int32) (v_squaresRead : Int32) (v_front : Int32) (v_down : Int32) (v_frontThen : Int32) (v_downThen : Int32) (v_ringsMany : Int32) (v_wishesMany : Int32) (v_ordersDone : Int32) (v_seenMany : Int32) (v_seedNow : Int32) (v_keptSquare : Int32) (v_keptFront : Int32) (v_keptDown : Int32) (v_keptNights : Int32) (v_keptWishesMany : Int32) (v_keptSeen : Int32) (v_hash : Int64) (v_page : (Nat → Int32)) (a1 : Int32) (N : Nat) (ρ : Int32 × Int32 × (Nat → Int32)) (h : fX9_letter N a1 v_pageMany v_page  = some ρ) (sz : Nat) : Met l yX9_letter (wz yX9_letter cX9_letter 2 (some .int)) (cRm 1 25) (cPre D (TY cI cZ cG) [.ref q, .int a1] (kwX9_letter cI cZ cG q q_page q_worths q_kinds q_likes q_had q_plots q_row q_plotsThen q_rowThen q_traded q_points q_ringLong q_wishes q_order q_bestOrder q_sights q_ways q_keptKinds q_keptPlots q_keptRow q_keptHad q_keptWishes q_keptSights v_pageMany v_houses v_nights v_squaresRead v_front v_down v_frontThen v_downThen v_ringsMany v_wishesMany v_ordersDone v_seenMany v_seedNow v_keptSquare v_keptFront v_keptDown v_keptNights v_keptWishesMany v_keptSeen v_hash v_page) sz) (cQi D (ρ.1) (kwX9_letter cI cZ cG q q_page q_worths q_kinds q_likes q_had q_plots q_row q_plotsThen q_rowThen q_traded q_points q_ringLong q_wishes q_order q_bestOrder q_sights q_ways q_keptKinds q_keptPlots q_keptRow q_keptHad q_keptWishes q_keptSights v_pageMany v_houses v_nights v_squaresRead v_front v_down v_frontThen v_downThen v_ringsMany v_wishesMany v_ordersDone v_seenMany v_seedNow v_keptSquare v_keptFront v_keptDown v_keptNights v_keptWishesMany v_keptSeen v_hash v_page) (kwX9_letter cI cZ cG q q_page q_worths q_kinds q_likes q_had q_plots q_row q_plotsThen q_rowThen q_traded q_points q_ringLong q_wishes q_order q_bestOrder q_sights q_ways q_keptKinds q_keptPlots q_keptRow q_keptHad q_keptWishes q_keptSights (ρ.2.1) v_houses v_nights v_squaresRead v_front v_down v_frontThen v_downThen v_ringsMany v_wishesMany v_ordersDone v_seenMany v_seedNow v_keptSquare v_keptFront v_keptDown v_keptNights v_keptWishesMany v_keptSeen v_hash (ρ.2.2)) sz) 0 0 (va_A (kwX9_letter cI cZ cG q q_page q_worths q_kinds q_likes q_had q_plots q_row q_plotsThen q_rowThen q_traded q_points q_ringLong q_wishes q_order q_bestOrder q_sights q_ways q_keptKinds q_keptPlots q_keptRow q_keptHad q_keptWishes q_keptSights v_pageMany v_houses v_nights v_squaresRead v_front v_down v_frontThen v_downThen v_ringsMany v_wishesMany v_ordersDone v_seenMany v_seedNow v_keptSquare v_keptFront v_keptDown v_keptNights v_keptWishesMany v_keptSeen v_hash v_page) sz) :=
  mk_i (by decide) (Nat.le_of_ble_eq_true rfl) (fun X hrm ret hw hl => wX9_letter X hrm ret h _ _ _ hw hl)
theorem dX9_blank_0 : decode cX9_blank 0 = .ok (.aload_n 0, 1) := by decide +kernel
theorem dX9_blank_1 : decode cX9_blank 1 = .ok (.getfield 89, 3) := by decide +kernel
theorem dX9_blank_4 : decode cX9_blank 4 = .ok (.istore_n 1, 1) := by decide +kernel
theorem dX9_blank_5 : decode cX9_blank 5 = .ok (.aload_n 0, 1) := by decide +kernel
theorem dX9_blank_6 : decode cX9_blank 6 = .ok (.iconst 0, 1) := by decide +kernel
theorem dX9_blank_7 : decode cX9_blank 7 = .ok (.putfield 89, 3) := by decide +kernel
theorem dX9_blank_10 : decode cX9_blank 10 = .ok (.iload_n 1, 1) := by decide +kernel
theorem dX9_blank_11 : decode cX9_blank 11 = .ok (.ireturn, 1) := by decide +kernel
abbrev kwX9_blank (cI cZ cG : ClassId) (q q_page q_worths q_kinds q_likes q_had q_plots q_row q_plotsThen q_rowThen q_traded q_points q_ringLong q_wishes q_order q_bestOrder q_sights q_ways q_keptKinds q_keptPlots q_keptRow q_keptHad q_keptWishes q_keptSights : Nat) (v_pageMany : Int32) (v_houses : Int32) (v_nights : Int32) (v_squaresRead : Int32) (v_front : Int32) (v_down : Int32) (v_frontThen : Int32) (v_downThen : Int32) (v_ringsMany : Int32) (v_wishesMany : Int32) (v_ordersDone : Int32) (v_seenMany : Int32) (v_seedNow : Int32) (v_keptSquare : Int32) (v_keptFront : Int32) (v_keptDown : Int32) (v_keptNights : Int32) (v_keptWishesMany : Int32) (v_keptSeen : Int32) (v_hash : Int64) : va_W := [(q, .inr (9, [.ref q_page, .int v_pageMany, .int v_houses, .int v_nights, .int v_squaresRead, .ref q_worths, .ref q_kinds, .ref q_likes, .ref q_had, .ref q_plots, .ref q_row, .int v_front, .int v_down, .ref q_plotsThen, .ref q_rowThen, .int v_frontThen, .int v_downThen, .ref q_traded, .ref q_points, .int v_ringsMany, .ref q_ringLong, .int v_wishesMany, .ref q_wishes, .int v_ordersDone, .ref q_order, .ref q_bestOrder, .int v_seenMany, .ref q_sights, .ref q_ways, .int v_seedNow, .int v_keptSquare, .int v_keptFront, .int v_keptDown, .int v_keptNights, .int v_keptWishesMany, .int v_keptSeen, .ref q_keptKinds, .ref q_keptPlots, .ref q_keptRow, .ref q_keptHad, .ref q_keptWishes, .ref q_keptSights, .long v_hash]))]
noncomputable def fX9_blank (N : Nat) (v_pageMany : Int32)  : Option (Int32 × Int32) := some (v_pageMany, (0 : Int32))
set_option maxHeartbeats 4000000 in
set_option maxRecDepth 100000 in
theorem wX9_blank {p : Program} {l : Launch} {e : Env} {R : Room} {s : State} {m : MethodId} {args : Array Value} {below : List Frame} {meth : Method} {c : Code} {cells slots : Nat} {Q : State → Prop} {D : va_G} {A : Nat → Prop} {cI cZ cG : ClassId} {q q_page q_worths q_kinds q_likes q_had q_plots q_row q_plotsThen q_rowThen q_traded q_points q_ringLong q_wishes q_order q_bestOrder q_sights q_ways q_keptKinds q_keptPlots q_keptRow q_keptHad q_keptWishes q_keptSights : Nat} {v_pageMany : Int32} {v_houses : Int32} {v_nights : Int32} {v_squaresRead : Int32} {v_front : Int32} {v_down : Int32} {v_frontThen : Int32} {v_downThen : Int32} {v_ringsMany : Int32} {v_wishesMany : Int32} {v_ordersDone : Int32} {v_seenMany : Int32} {v_seedNow : Int32} {v_keptSquare : Int32} {v_keptFront : Int32} {v_keptDown : Int32} {v_keptNights : Int32} {v_keptWishesMany : Int32} {v_keptSeen : Int32} {v_hash : Int64} {N : Nat} {ρ : Int32 × Int32} (X : CX p s m args c cX9_blank 2 RX9 D (TY cI cZ cG) A) (hrm : RM R 0 0 cells slots) (ret : ∀ (pc : Nat) (H : Heap) (locs : List Loc) (ls : Array Slot), decode cX9_blank pc = .ok (.ireturn, 1) → WD D A (kwX9_blank cI cZ cG q q_page q_worths q_kinds q_likes q_had q_plots q_row q_plotsThen q_rowThen q_traded q_points q_ringLong q_wishes q_order q_bestOrder q_sights q_ways q_keptKinds q_keptPlots q_keptRow q_keptHad q_keptWishes q_keptSights (ρ.2) v_houses v_nights v_squaresRead v_front v_down v_frontThen v_downThen v_ringsMany v_wishesMany v_ordersDone v_seenMany v_seedNow v_keptSquare v_keptFront v_keptDown v_keptNights v_keptWishesMany v_keptSeen v_hash) s.heap H locs → W p l e R s m args below meth c H locs cells slots Q (F0 m pc ls [.int ρ.1])) (h : fX9_blank N v_pageMany  = some ρ) (H : Heap) (locs : List Loc) (ls : Array Slot) (hw : WD D A (kwX9_blank cI cZ cG q q_page q_worths q_kinds q_likes q_had q_plots q_row q_plotsThen q_rowThen q_traded q_points q_ringLong q_wishes q_order q_bestOrder q_sights q_ways q_keptKinds q_keptPlots q_keptRow q_keptHad q_keptWishes q_keptSights v_pageMany v_houses v_nights v_squaresRead v_front v_down v_frontThen v_downThen v_ringsMany v_wishesMany v_ordersDone v_seenMany v_seedNow v_keptSquare v_keptFront v_keptDown v_keptNights v_keptWishesMany v_keptSeen v_hash) s.heap H locs) (hl : lv_has ls 2 [(0, .ref q)]) : W p l e R s m args below meth c H locs cells slots Q (F0 m 0 ls []) := by
  have hx := X.1.1
  have hb := X.1.2.1
  unfold fX9_blank at h
  refine lv_aload_n hx hb dX9_blank_0 rfl (lv_at hl 0 rfl) ?_
  refine kget (ci := 9) (v := .int v_pageMany) X hw iX9 0 rfl rfl 1 (by decide) tw_600 rfl dX9_blank_1 ?_
  refine lv_istore_n (lv' := [(1, .int v_pageMany), (0, .ref q)]) hx hb dX9_blank_4 rfl hl (by decide) rfl (fun ls hl => ?_)
  refine lv_aload_n hx hb dX9_blank_5 rfl (lv_at hl 1 rfl) ?_
  refine lv_iconst (v := (0 : Int32)) hx hb dX9_blank_6 (by decide) ?_
  refine kput (ci := 9) (v := .int (0 : Int32)) (ty := .int) X hw iX9 tyX9_ok nmX9 0 rfl rfl 1 (by decide) tw_600 rfl rfl rfl rfl (Nat.le_of_ble_eq_true rfl) dX9_blank_7 (fun H locs hw => ?_)
  have hw : WD D A (kwX9_blank cI cZ cG q q_page q_worths q_kinds q_likes q_had q_plots q_row q_plotsThen q_rowThen q_traded q_points q_ringLong q_wishes q_order q_bestOrder q_sights q_ways q_keptKinds q_keptPlots q_keptRow q_keptHad q_keptWishes q_keptSights (0 : Int32) v_houses v_nights v_squaresRead v_front v_down v_frontThen v_downThen v_ringsMany v_wishesMany v_ordersDone v_seenMany v_seedNow v_keptSquare v_keptFront v_keptDown v_keptNights v_keptWishesMany v_keptSeen v_hash) s.heap H locs := hw
  refine lv_iload_n hx hb dX9_blank_10 rfl (lv_at hl 0 rfl) ?_
  obtain rfl := Option.some.inj h
  exact ret _ _ _ _ dX9_blank_11 hw
set_option maxHeartbeats 4000000 in
set_option maxRecDepth 100000 in
theorem cX9_blank_ct (l : Launch) (D : va_G) (cI cZ cG : ClassId) (q q_page q_worths q_kinds q_likes q_had q_plots q_row q_plotsThen q_rowThen q_traded q_points q_ringLong q_wishes q_order q_bestOrder q_sights q_ways q_keptKinds q_keptPlots q_keptRow q_keptHad q_keptWishes q_keptSights : Nat)  (v_pageMany : Int32) (v_houses : Int32) (v_nights : Int32) (v_squaresRead : Int32) (v_front : Int32) (v_down : Int32) (v_frontThen : Int32) (v_downThen : Int32) (v_ringsMany : Int32) (v_wishesMany : Int32) (v_ordersDone : Int32) (v_seenMany : Int32) (v_seedNow : Int32) (v_keptSquare : Int32) (v_keptFront : Int32) (v_keptDown : Int32) (v_keptNights : Int32) (v_keptWishesMany : Int32) (v_keptSeen : Int32) (v_hash : Int64)  (N : Nat) (ρ : Int32 × Int32) (h : fX9_blank N v_pageMany  = some ρ) (sz : Nat) : Met l yX9_blank (wz yX9_blank cX9_blank 2 (some .int)) (cRm 0 0) (cPre D (TY cI cZ cG) [.ref q] (kwX9_blank cI cZ cG q q_page q_worths q_kinds q_likes q_had q_plots q_row q_plotsThen q_rowThen q_traded q_points q_ringLong q_wishes q_order q_bestOrder q_sights q_ways q_keptKinds q_keptPlots q_keptRow q_keptHad q_keptWishes q_keptSights v_pageMany v_houses v_nights v_squaresRead v_front v_down v_frontThen v_downThen v_ringsMany v_wishesMany v_ordersDone v_seenMany v_seedNow v_keptSquare v_keptFront v_keptDown v_keptNights v_keptWishesMany v_keptSeen v_hash) sz) (cQi D (ρ.1) (kwX9_blank cI cZ cG q q_page q_worths q_kinds q_likes q_had q_plots q_row q_plotsThen q_rowThen q_traded q_points q_ringLong q_wishes q_order q_bestOrder q_sights q_ways q_keptKinds q_keptPlots q_keptRow q_keptHad q_keptWishes q_keptSights v_pageMany v_houses v_nights v_squaresRead v_front v_down v_frontThen v_downThen v_ringsMany v_wishesMany v_ordersDone v_seenMany v_seedNow v_keptSquare v_keptFront v_keptDown v_keptNights v_keptWishesMany v_keptSeen v_hash) (kwX9_blank cI cZ cG q q_page q_worths q_kinds q_likes q_had q_plots q_row q_plotsThen q_rowThen q_traded q_points q_ringLong q_wishes q_order q_bestOrder q_sights q_ways q_keptKinds q_keptPlots q_keptRow q_keptHad q_keptWishes q_keptSights (ρ.2) v_houses v_nights v_squaresRead v_front v_down v_frontThen v_downThen v_ringsMany v_wishesMany v_ordersDone v_seenMany v_seedNow v_keptSquare v_keptFront v_keptDown v_keptNights v_keptWishesMany v_keptSeen v_hash) sz) 0 0 (va_A (kwX9_blank cI cZ cG q q_page q_worths q_kinds q_likes q_had q_plots q_row q_plotsThen q_rowThen q_traded q_points q_ringLong q_wishes q_order q_bestOrder q_sights q_ways q_keptKinds q_keptPlots q_keptRow q_keptHad q_keptWishes q_keptSights v_pageMany v_houses v_nights v_squaresRead v_front v_down v_frontThen v_downThen v_ringsMany v_wishesMany v_ordersDone v_seenMany v_seedNow v_keptSquare v_keptFront v_keptDown v_keptNights v_keptWishesMany v_keptSeen v_hash) sz) :=
  mk_i (by decide) (Nat.le_of_ble_eq_true rfl) (fun X hrm ret hw hl => wX9_blank X hrm ret h _ _ _ hw hl)
theorem dX9_kindBy_0 : decode cX9_kindBy 0 = .ok (.iload_n 0, 1) := by decide +kernel
theorem dX9_kindBy_1 : decode cX9_kindBy 1 = .ok (.lookupswitch 61 #[(99, 59), (101, 53), (104, 51), (115, 57), (116, 55)], 51) := by decide +kernel
theorem dX9_kindBy_52 : decode cX9_kindBy 52 = .ok (.iconst 0, 1) := by decide +kernel
theorem dX9_kindBy_53 : decode cX9_kindBy 53 = .ok (.ireturn, 1) := by decide +kernel
theorem dX9_kindBy_54 : decode cX9_kindBy 54 = .ok (.iconst 1, 1) := by decide +kernel
theorem dX9_kindBy_55 : decode cX9_kindBy 55 = .ok (.ireturn, 1) := by decide +kernel
theorem dX9_kindBy_56 : decode cX9_kindBy 56 = .ok (.iconst 2, 1) := by decide +kernel
theorem dX9_kindBy_57 : decode cX9_kindBy 57 = .ok (.ireturn, 1) := by decide +kernel
theorem dX9_kindBy_58 : decode cX9_kindBy 58 = .ok (.iconst 3, 1) := by decide +kernel
theorem dX9_kindBy_59 : decode cX9_kindBy 59 = .ok (.ireturn, 1) := by decide +kernel
theorem dX9_kindBy_60 : decode cX9_kindBy 60 = .ok (.iconst 4, 1) := by decide +kernel
theorem dX9_kindBy_61 : decode cX9_kindBy 61 = .ok (.ireturn, 1) := by decide +kernel
theorem dX9_kindBy_62 : decode cX9_kindBy 62 = .ok (.iconst (-1), 1) := by decide +kernel
theorem dX9_kindBy_63 : decode cX9_kindBy 63 = .ok (.ireturn, 1) := by decide +kernel
abbrev kwX9_kindBy (cI cZ cG : ClassId) : va_W := []
noncomputable def fX9_kindBy (N : Nat) (a0 : Int32)   : Option (Int32) := if a0 = (99 : Int32) then (some (4 : Int32)) else (if a0 = (101 : Int32) then (some (1 : Int32)) else (if a0 = (104 : Int32) then (some (0 : Int32)) else (if a0 = (115 : Int32) then (some (3 : Int32)) else (if a0 = (116 : Int32) then (some (2 : Int32)) else (some (-1 : Int32))))))
set_option maxHeartbeats 4000000 in
set_option maxRecDepth 100000 in
theorem wX9_kindBy {p : Program} {l : Launch} {e : Env} {R : Room} {s : State} {m : MethodId} {args : Array Value} {below : List Frame} {meth : Method} {c : Code} {cells slots : Nat} {Q : State → Prop} {D : va_G} {A : Nat → Prop} {cI cZ cG : ClassId} {a0 : Int32} {N : Nat} {ρ : Int32} (X : CX p s m args c cX9_kindBy 1 RX9 D (TY cI cZ cG) A) (hrm : RM R 0 0 cells slots) (ret : ∀ (pc : Nat) (H : Heap) (locs : List Loc) (ls : Array Slot), decode cX9_kindBy pc = .ok (.ireturn, 1) → WD D A (kwX9_kindBy cI cZ cG) s.heap H locs → W p l e R s m args below meth c H locs cells slots Q (F0 m pc ls [.int ρ])) (h : fX9_kindBy N a0   = some ρ) (H : Heap) (locs : List Loc) (ls : Array Slot) (hw : WD D A (kwX9_kindBy cI cZ cG) s.heap H locs) (hl : lv_has ls 1 [(0, .int a0)]) : W p l e R s m args below meth c H locs cells slots Q (F0 m 0 ls []) := by
  have hx := X.1.1
  have hb := X.1.2.1
  unfold fX9_kindBy at h
  refine lv_iload_n hx hb dX9_kindBy_0 rfl (lv_at hl 0 rfl) ?_
  by_cases c_1_0 : a0 = (99 : Int32)
  · have h := ift c_1_0 h
    refine lv_lookup (off := 59) (tgt := 60) hx hb dX9_kindBy_1 (by decide) (by rw [c_1_0]; rfl) (by decide) ?_
    refine lv_iconst (v := (4 : Int32)) hx hb dX9_kindBy_60 (by decide) ?_
    obtain rfl := Option.some.inj h
    exact ret _ _ _ _ dX9_kindBy_61 hw
  have h := iff_ c_1_0 h
  by_cases c_1_1 : a0 = (101 : Int32)
  · have h := ift c_1_1 h
    refine lv_lookup (off := 53) (tgt := 54) hx hb dX9_kindBy_1 (by decide) (by rw [c_1_1]; rfl) (by decide) ?_
    refine lv_iconst (v := (1 : Int32)) hx hb dX9_kindBy_54 (by decide) ?_
    obtain rfl := Option.some.inj h
    exact ret _ _ _ _ dX9_kindBy_55 hw
  have h := iff_ c_1_1 h
  by_cases c_1_2 : a0 = (104 : Int32)
  · have h := ift c_1_2 h
    refine lv_lookup (off := 51) (tgt := 52) hx hb dX9_kindBy_1 (by decide) (by rw [c_1_2]; rfl) (by decide) ?_
    refine lv_iconst (v := (0 : Int32)) hx hb dX9_kindBy_52 (by decide) ?_
    obtain rfl := Option.some.inj h
    exact ret _ _ _ _ dX9_kindBy_53 hw
  have h := iff_ c_1_2 h
  by_cases c_1_3 : a0 = (115 : Int32)
  · have h := ift c_1_3 h
    refine lv_lookup (off := 57) (tgt := 58) hx hb dX9_kindBy_1 (by decide) (by rw [c_1_3]; rfl) (by decide) ?_
    refine lv_iconst (v := (3 : Int32)) hx hb dX9_kindBy_58 (by decide) ?_
    obtain rfl := Option.some.inj h
    exact ret _ _ _ _ dX9_kindBy_59 hw
  have h := iff_ c_1_3 h
  by_cases c_1_4 : a0 = (116 : Int32)
  · have h := ift c_1_4 h
    refine lv_lookup (off := 55) (tgt := 56) hx hb dX9_kindBy_1 (by decide) (by rw [c_1_4]; rfl) (by decide) ?_
    refine lv_iconst (v := (2 : Int32)) hx hb dX9_kindBy_56 (by decide) ?_
    obtain rfl := Option.some.inj h
    exact ret _ _ _ _ dX9_kindBy_57 hw
  have h := iff_ c_1_4 h
  refine lv_lookup (off := 61) (tgt := 62) hx hb dX9_kindBy_1 (by decide) (by show Op.lookupswitch.offset [(99, 59), (101, 53), (104, 51), (115, 57), (116, 55)] _ _ = _; rw [lv_osw c_1_0 (by decide)]; rw [lv_osw c_1_1 (by decide)]; rw [lv_osw c_1_2 (by decide)]; rw [lv_osw c_1_3 (by decide)]; rw [lv_osw c_1_4 (by decide)]; rfl) (by decide) ?_
  refine lv_iconst (v := (-1 : Int32)) hx hb dX9_kindBy_62 (by decide) ?_
  obtain rfl := Option.some.inj h
  exact ret _ _ _ _ dX9_kindBy_63 hw
set_option maxHeartbeats 4000000 in
set_option maxRecDepth 100000 in
theorem cX9_kindBy_ct (l : Launch) (D : va_G) (cI cZ cG : ClassId)    (a0 : Int32) (N : Nat) (ρ : Int32) (h : fX9_kindBy N a0   = some ρ) (sz : Nat) : Met l yX9_kindBy (wz yX9_kindBy cX9_kindBy 1 (some .int)) (cRm 0 0) (cPre D (TY cI cZ cG) [.int a0] (kwX9_kindBy cI cZ cG) sz) (cQi D (ρ) (kwX9_kindBy cI cZ cG) (kwX9_kindBy cI cZ cG) sz) 0 0 (va_A (kwX9_kindBy cI cZ cG) sz) :=
  mk_i (by decide) (Nat.le_of_ble_eq_true rfl) (fun X hrm ret hw hl => wX9_kindBy X hrm ret h _ _ _ hw hl)
theorem dX9_isGood_0 : decode cX9_isGood 0 = .ok (.iload_n 0, 1) := by decide +kernel
theorem dX9_isGood_1 : decode cX9_isGood 1 = .ok (.bipush 13, 2) := by decide +kernel
theorem dX9_isGood_3 : decode cX9_isGood 3 = .ok (.if_icmp .ge 35, 3) := by decide +kernel
theorem dX9_isGood_6 : decode cX9_isGood 6 = .ok (.iload_n 0, 1) := by decide +kernel
theorem dX9_isGood_7 : decode cX9_isGood 7 = .ok (.bipush 12, 2) := by decide +kernel
theorem dX9_isGood_9 : decode cX9_isGood 9 = .ok (.if_icmp .ge 17, 3) := by decide +kernel
theorem dX9_isGood_12 : decode cX9_isGood 12 = .ok (.iload_n 1, 1) := by decide +kernel
theorem dX9_isGood_13 : decode cX9_isGood 13 = .ok (.i2l, 1) := by decide +kernel
theorem dX9_isGood_14 : decode cX9_isGood 14 = .ok (.ldc2_w 92, 3) := by decide +kernel
theorem dX9_isGood_17 : decode cX9_isGood 17 = .ok (.ldc2_w 94, 3) := by decide +kernel
theorem dX9_isGood_20 : decode cX9_isGood 20 = .ok (.invokestatic 85, 3) := by decide +kernel
theorem dX9_isGood_23 : decode cX9_isGood 23 = .ok (.goto 14, 3) := by decide +kernel
theorem dX9_isGood_26 : decode cX9_isGood 26 = .ok (.iload_n 1, 1) := by decide +kernel
theorem dX9_isGood_27 : decode cX9_isGood 27 = .ok (.bipush 59, 2) := by decide +kernel
theorem dX9_isGood_29 : decode cX9_isGood 29 = .ok (.if_icmp .ne 7, 3) := by decide +kernel
theorem dX9_isGood_32 : decode cX9_isGood 32 = .ok (.iconst 1, 1) := by decide +kernel
theorem dX9_isGood_33 : decode cX9_isGood 33 = .ok (.goto 4, 3) := by decide +kernel
theorem dX9_isGood_36 : decode cX9_isGood 36 = .ok (.iconst 0, 1) := by decide +kernel
theorem dX9_isGood_37 : decode cX9_isGood 37 = .ok (.ireturn, 1) := by decide +kernel
theorem dX9_isGood_38 : decode cX9_isGood 38 = .ok (.iload_n 0, 1) := by decide +kernel
theorem dX9_isGood_39 : decode cX9_isGood 39 = .ok (.bipush 13, 2) := by decide +kernel
theorem dX9_isGood_41 : decode cX9_isGood 41 = .ok (.isub, 1) := by decide +kernel
theorem dX9_isGood_42 : decode cX9_isGood 42 = .ok (.iconst 3, 1) := by decide +kernel
theorem dX9_isGood_43 : decode cX9_isGood 43 = .ok (.irem, 1) := by decide +kernel
theorem dX9_isGood_44 : decode cX9_isGood 44 = .ok (.lookupswitch 54 #[(0, 28), (1, 42)], 28) := by decide +kernel
theorem dX9_isGood_72 : decode cX9_isGood 72 = .ok (.iload_n 1, 1) := by decide +kernel
theorem dX9_isGood_73 : decode cX9_isGood 73 = .ok (.invokestatic 96, 3) := by decide +kernel
theorem dX9_isGood_76 : decode cX9_isGood 76 = .ok (.iconst (-1), 1) := by decide +kernel
theorem dX9_isGood_77 : decode cX9_isGood 77 = .ok (.if_icmp .eq 7, 3) := by decide +kernel
theorem dX9_isGood_80 : decode cX9_isGood 80 = .ok (.iconst 1, 1) := by decide +kernel
theorem dX9_isGood_81 : decode cX9_isGood 81 = .ok (.goto 4, 3) := by decide +kernel
theorem dX9_isGood_84 : decode cX9_isGood 84 = .ok (.iconst 0, 1) := by decide +kernel
theorem dX9_isGood_85 : decode cX9_isGood 85 = .ok (.ireturn, 1) := by decide +kernel
theorem dX9_isGood_86 : decode cX9_isGood 86 = .ok (.iload_n 1, 1) := by decide +kernel
theorem dX9_isGood_87 : decode cX9_isGood 87 = .ok (.i2l, 1) := by decide +kernel
theorem dX9_isGood_88 : decode cX9_isGood 88 = .ok (.ldc2_w 100, 3) := by decide +kernel
theorem dX9_isGood_91 : decode cX9_isGood 91 = .ok (.ldc2_w 102, 3) := by decide +kernel
theorem dX9_isGood_94 : decode cX9_isGood 94 = .ok (.invokestatic 85, 3) := by decide +kernel
theorem dX9_isGood_97 : decode cX9_isGood 97 = .ok (.ireturn, 1) := by decide +kernel
theorem dX9_isGood_98 : decode cX9_isGood 98 = .ok (.iload_n 1, 1) := by decide +kernel
theorem dX9_isGood_99 : decode cX9_isGood 99 = .ok (.bipush 44, 2) := by decide +kernel
theorem dX9_isGood_101 : decode cX9_isGood 101 = .ok (.if_icmp .ne 13, 3) := by decide +kernel
theorem dX9_isGood_104 : decode cX9_isGood 104 = .ok (.iload_n 0, 1) := by decide +kernel
theorem dX9_isGood_105 : decode cX9_isGood 105 = .ok (.bipush 30, 2) := by decide +kernel
theorem dX9_isGood_107 : decode cX9_isGood 107 = .ok (.if_icmp .ge 7, 3) := by decide +kernel
theorem dX9_isGood_110 : decode cX9_isGood 110 = .ok (.iconst 1, 1) := by decide +kernel
theorem dX9_isGood_111 : decode cX9_isGood 111 = .ok (.goto 4, 3) := by decide +kernel
theorem dX9_isGood_114 : decode cX9_isGood 114 = .ok (.iconst 0, 1) := by decide +kernel
theorem dX9_isGood_115 : decode cX9_isGood 115 = .ok (.ireturn, 1) := by decide +kernel
abbrev kwX9_isGood (cI cZ cG : ClassId) : va_W := []
noncomputable def fX9_isGood (N : Nat) (a0 : Int32) (a1 : Int32)   : Option (Int32) := if (13 : Int32) ≤ a0 then (if ((a0 - (13 : Int32)) - (a0 - (13 : Int32)) / (3 : Int32) * (3 : Int32)) = (0 : Int32) then ((fX9_kindBy N a1).bind (fun x_73 => if x_73 = (-1 : Int32) then (some (0 : Int32)) else (some (1 : Int32)))) else (if ((a0 - (13 : Int32)) - (a0 - (13 : Int32)) / (3 : Int32) * (3 : Int32)) = (1 : Int32) then ((fX9_in N ((a1).toInt64) (97 : Int64) (108 : Int64)).bind (fun x_94 => if ¬ (x_94 = 0 ∨ x_94 = 1) then none else (some x_94))) else (if a1 = (44 : Int32) then (if (30 : Int32) ≤ a0 then (some (0 : Int32)) else (some (1 : Int32))) else (some (0 : Int32))))) else (if (12 : Int32) ≤ a0 then (if a1 = (59 : Int32) then (some (1 : Int32)) else (some (0 : Int32))) else ((fX9_in N ((a1).toInt64) (48 : Int64) (57 : Int64)).bind (fun x_20 => if ¬ (x_20 = 0 ∨ x_20 = 1) then none else (some x_20))))
set_option maxHeartbeats 4000000 in
set_option maxRecDepth 100000 in
theorem wX9_isGood {p : Program} {l : Launch} {e : Env} {R : Room} {s : State} {m : MethodId} {args : Array Value} {below : List Frame} {meth : Method} {c : Code} {cells slots : Nat} {Q : State → Prop} {D : va_G} {A : Nat → Prop} {cI cZ cG : ClassId} {a0 : Int32} {a1 : Int32} {N : Nat} {ρ : Int32} (X : CX p s m args c cX9_isGood 2 RX9 D (TY cI cZ cG) A) (hrm : RM R 1 25 cells slots) (ret : ∀ (pc : Nat) (H : Heap) (locs : List Loc) (ls : Array Slot), narrow .boolean (.int ρ) = .int ρ → decode cX9_isGood pc = .ok (.ireturn, 1) → WD D A (kwX9_isGood cI cZ cG) s.heap H locs → W p l e R s m args below meth c H locs cells slots Q (F0 m pc ls [.int ρ])) (h : fX9_isGood N a0 a1   = some ρ) (H : Heap) (locs : List Loc) (ls : Array Slot) (hw : WD D A (kwX9_isGood cI cZ cG) s.heap H locs) (hl : lv_has ls 2 [(0, .int a0), (1, .int a1)]) : W p l e R s m args below meth c H locs cells slots Q (F0 m 0 ls []) := by
  have hx := X.1.1
  have hb := X.1.2.1
  unfold fX9_isGood at h
  refine lv_iload_n hx hb dX9_isGood_0 rfl (lv_at hl 0 rfl) ?_
  refine lv_bipush (v := (13 : Int32)) hx hb dX9_isGood_1 (by decide) ?_
  refine lv_icmp_ge (tgt := 38) hx hb dX9_isGood_3 (by decide) (fun c_3 => ?_) (fun c_3 => ?_)
  · have h := ift c_3 h
    refine lv_iload_n hx hb dX9_isGood_38 rfl (lv_at hl 0 rfl) ?_
    refine lv_bipush (v := (13 : Int32)) hx hb dX9_isGood_39 (by decide) ?_
    refine lv_isub hx hb dX9_isGood_41 ?_
    refine lv_iconst (v := (3 : Int32)) hx hb dX9_isGood_42 (by decide) ?_
    refine lv_irem hx hb dX9_isGood_43 (by decide) ?_
    by_cases c_44_0 : ((a0 - (13 : Int32)) - (a0 - (13 : Int32)) / (3 : Int32) * (3 : Int32)) = (0 : Int32)
    · have h := ift c_44_0 h
      refine lv_lookup (off := 28) (tgt := 72) hx hb dX9_isGood_44 (by decide) (by rw [c_44_0]; rfl) (by decide) ?_
      refine lv_iload_n hx hb dX9_isGood_72 rfl (lv_at hl 1 rfl) ?_
      obtain ⟨x_73, hc_73, h⟩ := obd h
      refine ksS_i (ws2 := (kwX9_isGood cI cZ cG)) (nW := 0) (As := [.int a1]) (rest := []) X hw (cX9_kindBy_ct l D cI cZ cG a1 N x_73 hc_73 H.size) mX9_kindBy tw_610 (hrm.call (by decide) (by decide)) [] rfl (by decide) rfl (by decide) rfl trivial rfl hl.1 rfl (Nat.le_of_ble_eq_true rfl) dX9_isGood_73 ⟨hrm.2.2.1, hrm.2.2.2⟩ (fun H locs hw => ?_)
      refine lv_iconst (v := (-1 : Int32)) hx hb dX9_isGood_76 (by decide) ?_
      refine lv_icmp_eq (tgt := 84) hx hb dX9_isGood_77 (by decide) (fun c_77 => ?_) (fun c_77 => ?_)
      · have h := ift c_77 h
        refine lv_iconst (v := (0 : Int32)) hx hb dX9_isGood_84 (by decide) ?_
        obtain rfl := Option.some.inj h
        exact ret _ _ _ _ (show narrow .boolean (.int (0 : Int32)) = .int (0 : Int32) from rfl) dX9_isGood_85 hw
      · have h := iff_ c_77 h
        refine lv_iconst (v := (1 : Int32)) hx hb dX9_isGood_80 (by decide) ?_
        refine lv_goto (tgt := 85) hx hb dX9_isGood_81 (by decide) ?_
        obtain rfl := Option.some.inj h
        exact ret _ _ _ _ (show narrow .boolean (.int (1 : Int32)) = .int (1 : Int32) from rfl) dX9_isGood_85 hw
    have h := iff_ c_44_0 h
    by_cases c_44_1 : ((a0 - (13 : Int32)) - (a0 - (13 : Int32)) / (3 : Int32) * (3 : Int32)) = (1 : Int32)
    · have h := ift c_44_1 h
      refine lv_lookup (off := 42) (tgt := 86) hx hb dX9_isGood_44 (by decide) (by rw [c_44_1]; rfl) (by decide) ?_
      refine lv_iload_n hx hb dX9_isGood_86 rfl (lv_at hl 1 rfl) ?_
      refine lv_i2l (v := ((a1).toInt64)) hx hb dX9_isGood_87 rfl ?_
      refine lv_ldc2 (v := (97 : Int64)) hx hb X.1.2.2.2.1 (X.1.2.2.2.2 _ tw_611) dX9_isGood_88 ?_
      refine lv_ldc2 (v := (108 : Int64)) hx hb X.1.2.2.2.1 (X.1.2.2.2.2 _ tw_612) dX9_isGood_91 ?_
      obtain ⟨x_94, hc_94, h⟩ := obd h
      refine ksS_i (ws2 := (kwX9_isGood cI cZ cG)) (nW := 0) (As := [.long ((a1).toInt64), .long (97 : Int64), .long (108 : Int64)]) (rest := []) X hw (cX9_in_ct l D cI cZ cG ((a1).toInt64) (97 : Int64) (108 : Int64) N x_94 hc_94 H.size) mX9_in tw_599 (hrm.call (by decide) (by decide)) [] rfl (by decide) rfl (by decide) rfl trivial rfl hl.1 rfl (Nat.le_of_ble_eq_true rfl) dX9_isGood_94 ⟨hrm.2.2.1, hrm.2.2.2⟩ (fun H locs hw => ?_)
      obtain ⟨g_97, h⟩ := gd h
      obtain rfl := Option.some.inj h
      exact ret _ _ _ _ (nz01 g_97) dX9_isGood_97 hw
    have h := iff_ c_44_1 h
    refine lv_lookup (off := 54) (tgt := 98) hx hb dX9_isGood_44 (by decide) (by show Op.lookupswitch.offset [(0, 28), (1, 42)] _ _ = _; rw [lv_osw c_44_0 (by decide)]; rw [lv_osw c_44_1 (by decide)]; rfl) (by decide) ?_
    refine lv_iload_n hx hb dX9_isGood_98 rfl (lv_at hl 1 rfl) ?_
    refine lv_bipush (v := (44 : Int32)) hx hb dX9_isGood_99 (by decide) ?_
    refine lv_icmp_ne (tgt := 114) hx hb dX9_isGood_101 (by decide) (fun c_101 => ?_) (fun c_101 => ?_)
    · have h := iff_ c_101 h
      refine lv_iconst (v := (0 : Int32)) hx hb dX9_isGood_114 (by decide) ?_
      obtain rfl := Option.some.inj h
      exact ret _ _ _ _ (show narrow .boolean (.int (0 : Int32)) = .int (0 : Int32) from rfl) dX9_isGood_115 hw
    · have h := ift c_101 h
      refine lv_iload_n hx hb dX9_isGood_104 rfl (lv_at hl 0 rfl) ?_
      refine lv_bipush (v := (30 : Int32)) hx hb dX9_isGood_105 (by decide) ?_
      refine lv_icmp_ge (tgt := 114) hx hb dX9_isGood_107 (by decide) (fun c_107 => ?_) (fun c_107 => ?_)
      · have h := ift c_107 h
        refine lv_iconst (v := (0 : Int32)) hx hb dX9_isGood_114 (by decide) ?_
        obtain rfl := Option.some.inj h
        exact ret _ _ _ _ (show narrow .boolean (.int (0 : Int32)) = .int (0 : Int32) from rfl) dX9_isGood_115 hw
      · have h := iff_ c_107 h
        refine lv_iconst (v := (1 : Int32)) hx hb dX9_isGood_110 (by decide) ?_
        refine lv_goto (tgt := 115) hx hb dX9_isGood_111 (by decide) ?_
        obtain rfl := Option.some.inj h
        exact ret _ _ _ _ (show narrow .boolean (.int (1 : Int32)) = .int (1 : Int32) from rfl) dX9_isGood_115 hw
  · have h := iff_ c_3 h
    refine lv_iload_n hx hb dX9_isGood_6 rfl (lv_at hl 0 rfl) ?_
    refine lv_bipush (v := (12 : Int32)) hx hb dX9_isGood_7 (by decide) ?_
    refine lv_icmp_ge (tgt := 26) hx hb dX9_isGood_9 (by decide) (fun c_9 => ?_) (fun c_9 => ?_)
    · have h := ift c_9 h
      refine lv_iload_n hx hb dX9_isGood_26 rfl (lv_at hl 1 rfl) ?_
      refine lv_bipush (v := (59 : Int32)) hx hb dX9_isGood_27 (by decide) ?_
      refine lv_icmp_ne (tgt := 36) hx hb dX9_isGood_29 (by decide) (fun c_29 => ?_) (fun c_29 => ?_)
      · have h := iff_ c_29 h
        refine lv_iconst (v := (0 : Int32)) hx hb dX9_isGood_36 (by decide) ?_
        obtain rfl := Option.some.inj h
        exact ret _ _ _ _ (show narrow .boolean (.int (0 : Int32)) = .int (0 : Int32) from rfl) dX9_isGood_37 hw
      · have h := ift c_29 h
        refine lv_iconst (v := (1 : Int32)) hx hb dX9_isGood_32 (by decide) ?_
        refine lv_goto (tgt := 37) hx hb dX9_isGood_33 (by decide) ?_
        obtain rfl := Option.some.inj h
        exact ret _ _ _ _ (show narrow .boolean (.int (1 : Int32)) = .int (1 : Int32) from rfl) dX9_isGood_37 hw
    · have h := iff_ c_9 h
      refine lv_iload_n hx hb dX9_isGood_12 rfl (lv_at hl 1 rfl) ?_
      refine lv_i2l (v := ((a1).toInt64)) hx hb dX9_isGood_13 rfl ?_
      refine lv_ldc2 (v := (48 : Int64)) hx hb X.1.2.2.2.1 (X.1.2.2.2.2 _ tw_613) dX9_isGood_14 ?_
      refine lv_ldc2 (v := (57 : Int64)) hx hb X.1.2.2.2.1 (X.1.2.2.2.2 _ tw_614) dX9_isGood_17 ?_
      obtain ⟨x_20, hc_20, h⟩ := obd h
      refine ksS_i (ws2 := (kwX9_isGood cI cZ cG)) (nW := 0) (As := [.long ((a1).toInt64), .long (48 : Int64), .long (57 : Int64)]) (rest := []) X hw (cX9_in_ct l D cI cZ cG ((a1).toInt64) (48 : Int64) (57 : Int64) N x_20 hc_20 H.size) mX9_in tw_599 (hrm.call (by decide) (by decide)) [] rfl (by decide) rfl (by decide) rfl trivial rfl hl.1 rfl (Nat.le_of_ble_eq_true rfl) dX9_isGood_20 ⟨hrm.2.2.1, hrm.2.2.2⟩ (fun H locs hw => ?_)
      refine lv_goto (tgt := 37) hx hb dX9_isGood_23 (by decide) ?_
      obtain ⟨g_37, h⟩ := gd h
      obtain rfl := Option.some.inj h
      exact ret _ _ _ _ (nz01 g_37) dX9_isGood_37 hw
set_option maxHeartbeats 4000000 in
set_option maxRecDepth 100000 in
theorem cX9_isGood_ct (l : Launch) (D : va_G) (cI cZ cG : ClassId)    (a0 : Int32) (a1 : Int32) (N : Nat) (ρ : Int32) (h : fX9_isGood N a0 a1   = some ρ) (sz : Nat) : Met l yX9_isGood (wz yX9_isGood cX9_isGood 2 (some .boolean)) (cRm 1 25) (cPre D (TY cI cZ cG) [.int a0, .int a1] (kwX9_isGood cI cZ cG) sz) (cQi D (ρ) (kwX9_isGood cI cZ cG) (kwX9_isGood cI cZ cG) sz) 0 0 (va_A (kwX9_isGood cI cZ cG) sz) :=
  mk_z (by decide) (Nat.le_of_ble_eq_true rfl) (fun X hrm ret hw hl => wX9_isGood X hrm ret h _ _ _ hw hl)
theorem dX9_faultOf_0 : decode cX9_faultOf 0 = .ok (.iconst 0, 1) := by decide +kernel
theorem dX9_faultOf_1 : decode cX9_faultOf 1 = .ok (.istore_n 1, 1) := by decide +kernel
theorem dX9_faultOf_2 : decode cX9_faultOf 2 = .ok (.iload_n 1, 1) := by decide +kernel
theorem dX9_faultOf_3 : decode cX9_faultOf 3 = .ok (.aload_n 0, 1) := by decide +kernel
theorem dX9_faultOf_4 : decode cX9_faultOf 4 = .ok (.getfield 89, 3) := by decide +kernel
theorem dX9_faultOf_7 : decode cX9_faultOf 7 = .ok (.if_icmp .ge 22, 3) := by decide +kernel
theorem dX9_faultOf_10 : decode cX9_faultOf 10 = .ok (.iload_n 1, 1) := by decide +kernel
theorem dX9_faultOf_11 : decode cX9_faultOf 11 = .ok (.aload_n 0, 1) := by decide +kernel
theorem dX9_faultOf_12 : decode cX9_faultOf 12 = .ok (.getfield 7, 3) := by decide +kernel
theorem dX9_faultOf_15 : decode cX9_faultOf 15 = .ok (.iload_n 1, 1) := by decide +kernel
theorem dX9_faultOf_16 : decode cX9_faultOf 16 = .ok (.iaload, 1) := by decide +kernel
theorem dX9_faultOf_17 : decode cX9_faultOf 17 = .ok (.invokestatic 104, 3) := by decide +kernel
theorem dX9_faultOf_20 : decode cX9_faultOf 20 = .ok (.ifCond .eq 9, 3) := by decide +kernel
theorem dX9_faultOf_23 : decode cX9_faultOf 23 = .ok (.iinc 1 1, 3) := by decide +kernel
theorem dX9_faultOf_26 : decode cX9_faultOf 26 = .ok (.goto (-24), 3) := by decide +kernel
theorem dX9_faultOf_29 : decode cX9_faultOf 29 = .ok (.iload_n 1, 1) := by decide +kernel
theorem dX9_faultOf_30 : decode cX9_faultOf 30 = .ok (.ireturn, 1) := by decide +kernel
abbrev kwX9_faultOf (cI cZ cG : ClassId) (q q_page q_worths q_kinds q_likes q_had q_plots q_row q_plotsThen q_rowThen q_traded q_points q_ringLong q_wishes q_order q_bestOrder q_sights q_ways q_keptKinds q_keptPlots q_keptRow q_keptHad q_keptWishes q_keptSights : Nat) (v_pageMany : Int32) (v_houses : Int32) (v_nights : Int32) (v_squaresRead : Int32) (v_front : Int32) (v_down : Int32) (v_frontThen : Int32) (v_downThen : Int32) (v_ringsMany : Int32) (v_wishesMany : Int32) (v_ordersDone : Int32) (v_seenMany : Int32) (v_seedNow : Int32) (v_keptSquare : Int32) (v_keptFront : Int32) (v_keptDown : Int32) (v_keptNights : Int32) (v_keptWishesMany : Int32) (v_keptSeen : Int32) (v_hash : Int64) (v_page : (Nat → Int32)) : va_W := [(q, .inr (9, [.ref q_page, .int v_pageMany, .int v_houses, .int v_nights, .int v_squaresRead, .ref q_worths, .ref q_kinds, .ref q_likes, .ref q_had, .ref q_plots, .ref q_row, .int v_front, .int v_down, .ref q_plotsThen, .ref q_rowThen, .int v_frontThen, .int v_downThen, .ref q_traded, .ref q_points, .int v_ringsMany, .ref q_ringLong, .int v_wishesMany, .ref q_wishes, .int v_ordersDone, .ref q_order, .ref q_bestOrder, .int v_seenMany, .ref q_sights, .ref q_ways, .int v_seedNow, .int v_keptSquare, .int v_keptFront, .int v_keptDown, .int v_keptNights, .int v_keptWishesMany, .int v_keptSeen, .ref q_keptKinds, .ref q_keptPlots, .ref q_keptRow, .ref q_keptHad, .ref q_keptWishes, .ref q_keptSights, .long v_hash])), (q_page, .inl (cI, 32, .inl v_page))]
noncomputable def fX9_faultOf_2 (N : Nat) (v_pageMany : Int32) (v_page : (Nat → Int32))  (K_2 : Int32 → Option (Int32)) (l1 : Int32) : Option (Int32) := if v_pageMany ≤ l1 then (some l1) else (if l1 < 0 ∨ 32 ≤ (l1).toNatClampNeg then none else ((fX9_isGood N l1 (v_page (l1).toNatClampNeg)).bind (fun x_17 => if x_17 = 0 then (some l1) else (K_2 (l1 + (1 : Int32))))))
noncomputable def fX9_faultOf (N : Nat) (v_pageMany : Int32) (v_page : (Nat → Int32))   : Option (Int32) := lfix (fun (K : Int32 → Option (Int32)) (a : Int32) => fX9_faultOf_2 N v_pageMany v_page (fun (l1 : Int32) => K l1) a) N (0 : Int32)
set_option maxHeartbeats 4000000 in
set_option maxRecDepth 100000 in
theorem wX9_faultOf_2 {p : Program} {l : Launch} {e : Env} {R : Room} {s : State} {m : MethodId} {args : Array Value} {below : List Frame} {meth : Method} {c : Code} {cells slots : Nat} {Q : State → Prop} {D : va_G} {A : Nat → Prop} {cI cZ cG : ClassId} {q q_page q_worths q_kinds q_likes q_had q_plots q_row q_plotsThen q_rowThen q_traded q_points q_ringLong q_wishes q_order q_bestOrder q_sights q_ways q_keptKinds q_keptPlots q_keptRow q_keptHad q_keptWishes q_keptSights : Nat} {v_pageMany : Int32} {v_houses : Int32} {v_nights : Int32} {v_squaresRead : Int32} {v_front : Int32} {v_down : Int32} {v_frontThen : Int32} {v_downThen : Int32} {v_ringsMany : Int32} {v_wishesMany : Int32} {v_ordersDone : Int32} {v_seenMany : Int32} {v_seedNow : Int32} {v_keptSquare : Int32} {v_keptFront : Int32} {v_keptDown : Int32} {v_keptNights : Int32} {v_keptWishesMany : Int32} {v_keptSeen : Int32} {v_hash : Int64} {v_page : (Nat → Int32)} {N : Nat} {ρ : Int32} (X : CX p s m args c cX9_faultOf 2 RX9 D (TY cI cZ cG) A) (hrm : RM R 2 46 cells slots) (ret : ∀ (pc : Nat) (H : Heap) (locs : List Loc) (ls : Array Slot), decode cX9_faultOf pc = .ok (.ireturn, 1) → WD D A (kwX9_faultOf cI cZ cG q q_page q_worths q_kinds q_likes q_had q_plots q_row q_plotsThen q_rowThen q_traded q_points q_ringLong q_wishes q_order q_bestOrder q_sights q_ways q_keptKinds q_keptPlots q_keptRow q_keptHad q_keptWishes q_keptSights v_pageMany v_houses v_nights v_squaresRead v_front v_down v_frontThen v_downThen v_ringsMany v_wishesMany v_ordersDone v_seenMany v_seedNow v_keptSquare v_keptFront v_keptDown v_keptNights v_keptWishesMany v_keptSeen v_hash v_page) s.heap H locs → W p l e R s m args below meth c H locs cells slots Q (F0 m pc ls [.int ρ]))  : ∀ (n : Nat) (a : Int32), lfix (fun (K : Int32 → Option (Int32)) (a : Int32) => fX9_faultOf_2 N v_pageMany v_page (fun (l1 : Int32) => K l1) a) n a = some ρ → (fun (l1 : Int32) => ∀ (H : Heap) (locs : List Loc) (ls : Array Slot), WD D A (kwX9_faultOf cI cZ cG q q_page q_worths q_kinds q_likes q_had q_plots q_row q_plotsThen q_rowThen q_traded q_points q_ringLong q_wishes q_order q_bestOrder q_sights q_ways q_keptKinds q_keptPlots q_keptRow q_keptHad q_keptWishes q_keptSights v_pageMany v_houses v_nights v_squaresRead v_front v_down v_frontThen v_downThen v_ringsMany v_wishesMany v_ordersDone v_seenMany v_seedNow v_keptSquare v_keptFront v_keptDown v_keptNights v_keptWishesMany v_keptSeen v_hash v_page) s.heap H locs → lv_has ls 2 [(0, .ref q), (1, .int l1)] → W p l e R s m args below meth c H locs cells slots Q (F0 m 2 ls [])) (a) := by
  have hx := X.1.1
  have hb := X.1.2.1
  refine lfix_W (fun K hK a h => ?_)
  obtain ⟨l1, rfl⟩ : ∃ z, z = a := ⟨_, rfl⟩
  intro H locs ls hw hl
  have h : fX9_faultOf_2 N v_pageMany v_page (fun (l1 : Int32) => K l1) l1 = some ρ := h
  have hK_2 : ∀ (l1 : Int32), (fun (l1 : Int32) => K l1) l1 = some ρ → ∀ (H : Heap) (locs : List Loc) (ls : Array Slot), WD D A (kwX9_faultOf cI cZ cG q q_page q_worths q_kinds q_likes q_had q_plots q_row q_plotsThen q_rowThen q_traded q_points q_ringLong q_wishes q_order q_bestOrder q_sights q_ways q_keptKinds q_keptPlots q_keptRow q_keptHad q_keptWishes q_keptSights v_pageMany v_houses v_nights v_squaresRead v_front v_down v_frontThen v_downThen v_ringsMany v_wishesMany v_ordersDone v_seenMany v_seedNow v_keptSquare v_keptFront v_keptDown v_keptNights v_keptWishesMany v_keptSeen v_hash v_page) s.heap H locs → lv_has ls 2 [(0, .ref q), (1, .int l1)] → W p l e R s m args below meth c H locs cells slots Q (F0 m 2 ls []) := fun l1 h => hK l1 h
  generalize (fun (l1 : Int32) => K l1) = K_2 at h hK_2
  have hw : WD D A (kwX9_faultOf cI cZ cG q q_page q_worths q_kinds q_likes q_had q_plots q_row q_plotsThen q_rowThen q_traded q_points q_ringLong q_wishes q_order q_bestOrder q_sights q_ways q_keptKinds q_keptPlots q_keptRow q_keptHad q_keptWishes q_keptSights v_pageMany v_houses v_nights v_squaresRead v_front v_down v_frontThen v_downThen v_ringsMany v_wishesMany v_ordersDone v_seenMany v_seedNow v_keptSquare v_keptFront v_keptDown v_keptNights v_keptWishesMany v_keptSeen v_hash v_page) s.heap H locs := hw
  have hl : lv_has ls 2 [(0, .ref q), (1, .int l1)] := hl
  unfold fX9_faultOf_2 at h
  refine lv_iload_n hx hb dX9_faultOf_2 rfl (lv_at hl 1 rfl) ?_
  refine lv_aload_n hx hb dX9_faultOf_3 rfl (lv_at hl 0 rfl) ?_
  refine kget (ci := 9) (v := .int v_pageMany) X hw iX9 0 rfl rfl 1 (by decide) tw_600 rfl dX9_faultOf_4 ?_
  refine lv_icmp_ge (tgt := 29) hx hb dX9_faultOf_7 (by decide) (fun c_7 => ?_) (fun c_7 => ?_)
  · have h := ift c_7 h
    refine lv_iload_n hx hb dX9_faultOf_29 rfl (lv_at hl 1 rfl) ?_
    obtain rfl := Option.some.inj h
    exact ret _ _ _ _ dX9_faultOf_30 hw
  · have h := iff_ c_7 h
    refine lv_iload_n hx hb dX9_faultOf_10 rfl (lv_at hl 1 rfl) ?_
    refine lv_aload_n hx hb dX9_faultOf_11 rfl (lv_at hl 0 rfl) ?_
    refine kget (ci := 9) (v := .ref q_page) X hw iX9 0 rfl rfl 0 (by decide) tw_601 rfl dX9_faultOf_12 ?_
    refine lv_iload_n hx hb dX9_faultOf_15 rfl (lv_at hl 1 rfl) ?_
    obtain ⟨g_16, h⟩ := gd h
    refine kiald X hw 1 rfl rfl g_16 dX9_faultOf_16 ?_
    obtain ⟨x_17, hc_17, h⟩ := obd h
    refine ksS_i (ws2 := (kwX9_faultOf cI cZ cG q q_page q_worths q_kinds q_likes q_had q_plots q_row q_plotsThen q_rowThen q_traded q_points q_ringLong q_wishes q_order q_bestOrder q_sights q_ways q_keptKinds q_keptPlots q_keptRow q_keptHad q_keptWishes q_keptSights v_pageMany v_houses v_nights v_squaresRead v_front v_down v_frontThen v_downThen v_ringsMany v_wishesMany v_ordersDone v_seenMany v_seedNow v_keptSquare v_keptFront v_keptDown v_keptNights v_keptWishesMany v_keptSeen v_hash v_page)) (nW := 2) (As := [.int l1, .int (v_page (l1).toNatClampNeg)]) (rest := []) X hw (cX9_isGood_ct l D cI cZ cG l1 (v_page (l1).toNatClampNeg) N x_17 hc_17 H.size) mX9_isGood tw_617 (hrm.call (by decide) (by decide)) [] rfl (by decide) rfl (by decide) rfl ⟨rfl, ⟨rfl, trivial⟩⟩ rfl hl.1 rfl (Nat.le_of_ble_eq_true rfl) dX9_faultOf_17 ⟨hrm.2.2.1, hrm.2.2.2⟩ (fun H locs hw => ?_)
    refine lv_if_eq (tgt := 29) hx hb dX9_faultOf_20 (by decide) (fun c_20 => ?_) (fun c_20 => ?_)
    · have h := ift c_20 h
      refine lv_iload_n hx hb dX9_faultOf_29 rfl (lv_at hl 1 rfl) ?_
      obtain rfl := Option.some.inj h
      exact ret _ _ _ _ dX9_faultOf_30 hw
    · have h := iff_ c_20 h
      refine lv_iinc (v := (l1 + (1 : Int32))) (lv' := [(1, .int (l1 + (1 : Int32))), (0, .ref q)]) hx hb dX9_faultOf_23 hl (k := 1) rfl (congrArg (l1 + ·) (by decide)) (by decide) rfl (fun ls hl => ?_)
      refine lv_goto (tgt := 2) hx hb dX9_faultOf_26 (by decide) ?_
      exact hK_2 _ h _ _ _ hw (lv_sub hl [1, 0] rfl)
set_option maxHeartbeats 4000000 in
set_option maxRecDepth 100000 in
theorem wX9_faultOf {p : Program} {l : Launch} {e : Env} {R : Room} {s : State} {m : MethodId} {args : Array Value} {below : List Frame} {meth : Method} {c : Code} {cells slots : Nat} {Q : State → Prop} {D : va_G} {A : Nat → Prop} {cI cZ cG : ClassId} {q q_page q_worths q_kinds q_likes q_had q_plots q_row q_plotsThen q_rowThen q_traded q_points q_ringLong q_wishes q_order q_bestOrder q_sights q_ways q_keptKinds q_keptPlots q_keptRow q_keptHad q_keptWishes q_keptSights : Nat} {v_pageMany : Int32} {v_houses : Int32} {v_nights : Int32} {v_squaresRead : Int32} {v_front : Int32} {v_down : Int32} {v_frontThen : Int32} {v_downThen : Int32} {v_ringsMany : Int32} {v_wishesMany : Int32} {v_ordersDone : Int32} {v_seenMany : Int32} {v_seedNow : Int32} {v_keptSquare : Int32} {v_keptFront : Int32} {v_keptDown : Int32} {v_keptNights : Int32} {v_keptWishesMany : Int32} {v_keptSeen : Int32} {v_hash : Int64} {v_page : (Nat → Int32)} {N : Nat} {ρ : Int32} (X : CX p s m args c cX9_faultOf 2 RX9 D (TY cI cZ cG) A) (hrm : RM R 2 46 cells slots) (ret : ∀ (pc : Nat) (H : Heap) (locs : List Loc) (ls : Array Slot), decode cX9_faultOf pc = .ok (.ireturn, 1) → WD D A (kwX9_faultOf cI cZ cG q q_page q_worths q_kinds q_likes q_had q_plots q_row q_plotsThen q_rowThen q_traded q_points q_ringLong q_wishes q_order q_bestOrder q_sights q_ways q_keptKinds q_keptPlots q_keptRow q_keptHad q_keptWishes q_keptSights v_pageMany v_houses v_nights v_squaresRead v_front v_down v_frontThen v_downThen v_ringsMany v_wishesMany v_ordersDone v_seenMany v_seedNow v_keptSquare v_keptFront v_keptDown v_keptNights v_keptWishesMany v_keptSeen v_hash v_page) s.heap H locs → W p l e R s m args below meth c H locs cells slots Q (F0 m pc ls [.int ρ])) (h : fX9_faultOf N v_pageMany v_page   = some ρ) (H : Heap) (locs : List Loc) (ls : Array Slot) (hw : WD D A (kwX9_faultOf cI cZ cG q q_page q_worths q_kinds q_likes q_had q_plots q_row q_plotsThen q_rowThen q_traded q_points q_ringLong q_wishes q_order q_bestOrder q_sights q_ways q_keptKinds q_keptPlots q_keptRow q_keptHad q_keptWishes q_keptSights v_pageMany v_houses v_nights v_squaresRead v_front v_down v_frontThen v_downThen v_ringsMany v_wishesMany v_ordersDone v_seenMany v_seedNow v_keptSquare v_keptFront v_keptDown v_keptNights v_keptWishesMany v_keptSeen v_hash v_page) s.heap H locs) (hl : lv_has ls 2 [(0, .ref q)]) : W p l e R s m args below meth c H locs cells slots Q (F0 m 0 ls []) := by
  have hx := X.1.1
  have hb := X.1.2.1
  unfold fX9_faultOf at h
  refine lv_iconst (v := (0 : Int32)) hx hb dX9_faultOf_0 (by decide) ?_
  refine lv_istore_n (lv' := [(1, .int (0 : Int32)), (0, .ref q)]) hx hb dX9_faultOf_1 rfl hl (by decide) rfl (fun ls hl => ?_)
  exact wX9_faultOf_2 X hrm ret  _ _ h _ _ _ hw (lv_sub hl [1, 0] rfl)
set_option maxHeartbeats 4000000 in
set_option maxRecDepth 100000 in
theorem cX9_faultOf_ct (l : Launch) (D : va_G) (cI cZ cG : ClassId) (q q_page q_worths q_kinds q_likes q_had q_plots q_row q_plotsThen q_rowThen q_traded q_points q_ringLong q_wishes q_order q_bestOrder q_sights q_ways q_keptKinds q_keptPlots q_keptRow q_keptHad q_keptWishes q_keptSights : Nat)  (v_pageMany : Int32) (v_houses : Int32) (v_nights : Int32) (v_squaresRead : Int32) (v_front : Int32) (v_down : Int32) (v_frontThen : Int32) (v_downThen : Int32) (v_ringsMany : Int32) (v_wishesMany : Int32) (v_ordersDone : Int32) (v_seenMany : Int32) (v_seedNow : Int32) (v_keptSquare : Int32) (v_keptFront : Int32) (v_keptDown : Int32) (v_keptNights : Int32) (v_keptWishesMany : Int32) (v_keptSeen : Int32) (v_hash : Int64) (v_page : (Nat → Int32))  (N : Nat) (ρ : Int32) (h : fX9_faultOf N v_pageMany v_page   = some ρ) (sz : Nat) : Met l yX9_faultOf (wz yX9_faultOf cX9_faultOf 2 (some .int)) (cRm 2 46) (cPre D (TY cI cZ cG) [.ref q] (kwX9_faultOf cI cZ cG q q_page q_worths q_kinds q_likes q_had q_plots q_row q_plotsThen q_rowThen q_traded q_points q_ringLong q_wishes q_order q_bestOrder q_sights q_ways q_keptKinds q_keptPlots q_keptRow q_keptHad q_keptWishes q_keptSights v_pageMany v_houses v_nights v_squaresRead v_front v_down v_frontThen v_downThen v_ringsMany v_wishesMany v_ordersDone v_seenMany v_seedNow v_keptSquare v_keptFront v_keptDown v_keptNights v_keptWishesMany v_keptSeen v_hash v_page) sz) (cQi D (ρ) (kwX9_faultOf cI cZ cG q q_page q_worths q_kinds q_likes q_had q_plots q_row q_plotsThen q_rowThen q_traded q_points q_ringLong q_wishes q_order q_bestOrder q_sights q_ways q_keptKinds q_keptPlots q_keptRow q_keptHad q_keptWishes q_keptSights v_pageMany v_houses v_nights v_squaresRead v_front v_down v_frontThen v_downThen v_ringsMany v_wishesMany v_ordersDone v_seenMany v_seedNow v_keptSquare v_keptFront v_keptDown v_keptNights v_keptWishesMany v_keptSeen v_hash v_page) (kwX9_faultOf cI cZ cG q q_page q_worths q_kinds q_likes q_had q_plots q_row q_plotsThen q_rowThen q_traded q_points q_ringLong q_wishes q_order q_bestOrder q_sights q_ways q_keptKinds q_keptPlots q_keptRow q_keptHad q_keptWishes q_keptSights v_pageMany v_houses v_nights v_squaresRead v_front v_down v_frontThen v_downThen v_ringsMany v_wishesMany v_ordersDone v_seenMany v_seedNow v_keptSquare v_keptFront v_keptDown v_keptNights v_keptWishesMany v_keptSeen v_hash v_page) sz) 0 0 (va_A (kwX9_faultOf cI cZ cG q q_page q_worths q_kinds q_likes q_had q_plots q_row q_plotsThen q_rowThen q_traded q_points q_ringLong q_wishes q_order q_bestOrder q_sights q_ways q_keptKinds q_keptPlots q_keptRow q_keptHad q_keptWishes q_keptSights v_pageMany v_houses v_nights v_squaresRead v_front v_down v_frontThen v_downThen v_ringsMany v_wishesMany v_ordersDone v_seenMany v_seedNow v_keptSquare v_keptFront v_keptDown v_keptNights v_keptWishesMany v_keptSeen v_hash v_page) sz) :=
  mk_i (by decide) (Nat.le_of_ble_eq_true rfl) (fun X hrm ret hw hl => wX9_faultOf X hrm ret h _ _ _ hw hl)
theorem dX9_fault_0 : decode cX9_fault 0 = .ok (.aload_n 0, 1) := by decide +kernel
theorem dX9_fault_1 : decode cX9_fault 1 = .ok (.invokevirtual 108, 3) := by decide +kernel
theorem dX9_fault_4 : decode cX9_fault 4 = .ok (.ireturn, 1) := by decide +kernel
abbrev kwX9_fault (cI cZ cG : ClassId) (q q_page q_worths q_kinds q_likes q_had q_plots q_row q_plotsThen q_rowThen q_traded q_points q_ringLong q_wishes q_order q_bestOrder q_sights q_ways q_keptKinds q_keptPlots q_keptRow q_keptHad q_keptWishes q_keptSights : Nat) (v_pageMany : Int32) (v_houses : Int32) (v_nights : Int32) (v_squaresRead : Int32) (v_front : Int32) (v_down : Int32) (v_frontThen : Int32) (v_downThen : Int32) (v_ringsMany : Int32) (v_wishesMany : Int32) (v_ordersDone : Int32) (v_seenMany : Int32) (v_seedNow : Int32) (v_keptSquare : Int32) (v_keptFront : Int32) (v_keptDown : Int32) (v_keptNights : Int32) (v_keptWishesMany : Int32) (v_keptSeen : Int32) (v_hash : Int64) (v_page : (Nat → Int32)) : va_W := [(q, .inr (9, [.ref q_page, .int v_pageMany, .int v_houses, .int v_nights, .int v_squaresRead, .ref q_worths, .ref q_kinds, .ref q_likes, .ref q_had, .ref q_plots, .ref q_row, .int v_front, .int v_down, .ref q_plotsThen, .ref q_rowThen, .int v_frontThen, .int v_downThen, .ref q_traded, .ref q_points, .int v_ringsMany, .ref q_ringLong, .int v_wishesMany, .ref q_wishes, .int v_ordersDone, .ref q_order, .ref q_bestOrder, .int v_seenMany, .ref q_sights, .ref q_ways, .int v_seedNow, .int v_keptSquare, .int v_keptFront, .int v_keptDown, .int v_keptNights, .int v_keptWishesMany, .int v_keptSeen, .ref q_keptKinds, .ref q_keptPlots, .ref q_keptRow, .ref q_keptHad, .ref q_keptWishes, .ref q_keptSights, .long v_hash])), (q_page, .inl (cI, 32, .inl v_page))]
noncomputable def fX9_fault (N : Nat) (v_pageMany : Int32) (v_page : (Nat → Int32))   : Option (Int32) := (fX9_faultOf N v_pageMany v_page).bind (fun x_1 => some x_1)
set_option maxHeartbeats 4000000 in
set_option maxRecDepth 100000 in
theorem wX9_fault {p : Program} {l : Launch} {e : Env} {R : Room} {s : State} {m : MethodId} {args : Array Value} {below : List Frame} {meth : Method} {c : Code} {cells slots : Nat} {Q : State → Prop} {D : va_G} {A : Nat → Prop} {cI cZ cG : ClassId} {q q_page q_worths q_kinds q_likes q_had q_plots q_row q_plotsThen q_rowThen q_traded q_points q_ringLong q_wishes q_order q_bestOrder q_sights q_ways q_keptKinds q_keptPlots q_keptRow q_keptHad q_keptWishes q_keptSights : Nat} {v_pageMany : Int32} {v_houses : Int32} {v_nights : Int32} {v_squaresRead : Int32} {v_front : Int32} {v_down : Int32} {v_frontThen : Int32} {v_downThen : Int32} {v_ringsMany : Int32} {v_wishesMany : Int32} {v_ordersDone : Int32} {v_seenMany : Int32} {v_seedNow : Int32} {v_keptSquare : Int32} {v_keptFront : Int32} {v_keptDown : Int32} {v_keptNights : Int32} {v_keptWishesMany : Int32} {v_keptSeen : Int32} {v_hash : Int64} {v_page : (Nat → Int32)} {N : Nat} {ρ : Int32} (X : CX p s m args c cX9_fault 1 RX9 D (TY cI cZ cG) A) (hrm : RM R 3 67 cells slots) (ret : ∀ (pc : Nat) (H : Heap) (locs : List Loc) (ls : Array Slot), decode cX9_fault pc = .ok (.ireturn, 1) → WD D A (kwX9_fault cI cZ cG q q_page q_worths q_kinds q_likes q_had q_plots q_row q_plotsThen q_rowThen q_traded q_points q_ringLong q_wishes q_order q_bestOrder q_sights q_ways q_keptKinds q_keptPlots q_keptRow q_keptHad q_keptWishes q_keptSights v_pageMany v_houses v_nights v_squaresRead v_front v_down v_frontThen v_downThen v_ringsMany v_wishesMany v_ordersDone v_seenMany v_seedNow v_keptSquare v_keptFront v_keptDown v_keptNights v_keptWishesMany v_keptSeen v_hash v_page) s.heap H locs → W p l e R s m args below meth c H locs cells slots Q (F0 m pc ls [.int ρ])) (h : fX9_fault N v_pageMany v_page   = some ρ) (H : Heap) (locs : List Loc) (ls : Array Slot) (hw : WD D A (kwX9_fault cI cZ cG q q_page q_worths q_kinds q_likes q_had q_plots q_row q_plotsThen q_rowThen q_traded q_points q_ringLong q_wishes q_order q_bestOrder q_sights q_ways q_keptKinds q_keptPlots q_keptRow q_keptHad q_keptWishes q_keptSights v_pageMany v_houses v_nights v_squaresRead v_front v_down v_frontThen v_downThen v_ringsMany v_wishesMany v_ordersDone v_seenMany v_seedNow v_keptSquare v_keptFront v_keptDown v_keptNights v_keptWishesMany v_keptSeen v_hash v_page) s.heap H locs) (hl : lv_has ls 1 [(0, .ref q)]) : W p l e R s m args below meth c H locs cells slots Q (F0 m 0 ls []) := by
  have hx := X.1.1
  have hb := X.1.2.1
  unfold fX9_fault at h
  refine lv_aload_n hx hb dX9_fault_0 rfl (lv_at hl 0 rfl) ?_
  obtain ⟨x_1, hc_1, h⟩ := obd h
  refine ksV_i (ws2 := (kwX9_fault cI cZ cG q q_page q_worths q_kinds q_likes q_had q_plots q_row q_plotsThen q_rowThen q_traded q_points q_ringLong q_wishes q_order q_bestOrder q_sights q_ways q_keptKinds q_keptPlots q_keptRow q_keptHad q_keptWishes q_keptSights v_pageMany v_houses v_nights v_squaresRead v_front v_down v_frontThen v_downThen v_ringsMany v_wishesMany v_ordersDone v_seenMany v_seedNow v_keptSquare v_keptFront v_keptDown v_keptNights v_keptWishesMany v_keptSeen v_hash v_page)) (nW := 2) (ci := 9) (As := []) (rest := []) X hw rfl rfl rfl (cX9_faultOf_ct l D cI cZ cG q q_page q_worths q_kinds q_likes q_had q_plots q_row q_plotsThen q_rowThen q_traded q_points q_ringLong q_wishes q_order q_bestOrder q_sights q_ways q_keptKinds q_keptPlots q_keptRow q_keptHad q_keptWishes q_keptSights v_pageMany v_houses v_nights v_squaresRead v_front v_down v_frontThen v_downThen v_ringsMany v_wishesMany v_ordersDone v_seenMany v_seedNow v_keptSquare v_keptFront v_keptDown v_keptNights v_keptWishesMany v_keptSeen v_hash v_page N x_1 hc_1 H.size) mX9_faultOf tw_621 (hrm.call (by decide) (by decide)) [0, 1] rfl (by decide) rfl (by decide) rfl trivial rfl hl.1 rfl (Nat.le_of_ble_eq_true rfl) dX9_fault_1 ⟨hrm.2.2.1, hrm.2.2.2⟩ (fun H locs hw => ?_)
  obtain rfl := Option.some.inj h
  exact ret _ _ _ _ dX9_fault_4 hw
set_option maxHeartbeats 4000000 in
set_option maxRecDepth 100000 in
theorem cX9_fault_ct (l : Launch) (D : va_G) (cI cZ cG : ClassId) (q q_page q_worths q_kinds q_likes q_had q_plots q_row q_plotsThen q_rowThen q_traded q_points q_ringLong q_wishes q_order q_bestOrder q_sights q_ways q_keptKinds q_keptPlots q_keptRow q_keptHad q_keptWishes q_keptSights : Nat)  (v_pageMany : Int32) (v_houses : Int32) (v_nights : Int32) (v_squaresRead : Int32) (v_front : Int32) (v_down : Int32) (v_frontThen : Int32) (v_downThen : Int32) (v_ringsMany : Int32) (v_wishesMany : Int32) (v_ordersDone : Int32) (v_seenMany : Int32) (v_seedNow : Int32) (v_keptSquare : Int32) (v_keptFront : Int32) (v_keptDown : Int32) (v_keptNights : Int32) (v_keptWishesMany : Int32) (v_keptSeen : Int32) (v_hash : Int64) (v_page : (Nat → Int32))  (N : Nat) (ρ : Int32) (h : fX9_fault N v_pageMany v_page   = some ρ) (sz : Nat) : Met l yX9_fault (wz yX9_fault cX9_fault 1 (some .int)) (cRm 3 67) (cPre D (TY cI cZ cG) [.ref q] (kwX9_fault cI cZ cG q q_page q_worths q_kinds q_likes q_had q_plots q_row q_plotsThen q_rowThen q_traded q_points q_ringLong q_wishes q_order q_bestOrder q_sights q_ways q_keptKinds q_keptPlots q_keptRow q_keptHad q_keptWishes q_keptSights v_pageMany v_houses v_nights v_squaresRead v_front v_down v_frontThen v_downThen v_ringsMany v_wishesMany v_ordersDone v_seenMany v_seedNow v_keptSquare v_keptFront v_keptDown v_keptNights v_keptWishesMany v_keptSeen v_hash v_page) sz) (cQi D (ρ) (kwX9_fault cI cZ cG q q_page q_worths q_kinds q_likes q_had q_plots q_row q_plotsThen q_rowThen q_traded q_points q_ringLong q_wishes q_order q_bestOrder q_sights q_ways q_keptKinds q_keptPlots q_keptRow q_keptHad q_keptWishes q_keptSights v_pageMany v_houses v_nights v_squaresRead v_front v_down v_frontThen v_downThen v_ringsMany v_wishesMany v_ordersDone v_seenMany v_seedNow v_keptSquare v_keptFront v_keptDown v_keptNights v_keptWishesMany v_keptSeen v_hash v_page) (kwX9_fault cI cZ cG q q_page q_worths q_kinds q_likes q_had q_plots q_row q_plotsThen q_rowThen q_traded q_points q_ringLong q_wishes q_order q_bestOrder q_sights q_ways q_keptKinds q_keptPlots q_keptRow q_keptHad q_keptWishes q_keptSights v_pageMany v_houses v_nights v_squaresRead v_front v_down v_frontThen v_downThen v_ringsMany v_wishesMany v_ordersDone v_seenMany v_seedNow v_keptSquare v_keptFront v_keptDown v_keptNights v_keptWishesMany v_keptSeen v_hash v_page) sz) 0 0 (va_A (kwX9_fault cI cZ cG q q_page q_worths q_kinds q_likes q_had q_plots q_row q_plotsThen q_rowThen q_traded q_points q_ringLong q_wishes q_order q_bestOrder q_sights q_ways q_keptKinds q_keptPlots q_keptRow q_keptHad q_keptWishes q_keptSights v_pageMany v_houses v_nights v_squaresRead v_front v_down v_frontThen v_downThen v_ringsMany v_wishesMany v_ordersDone v_seenMany v_seedNow v_keptSquare v_keptFront v_keptDown v_keptNights v_keptWishesMany v_keptSeen v_hash v_page) sz) :=
  mk_i (by decide) (Nat.le_of_ble_eq_true rfl) (fun X hrm ret hw hl => wX9_fault X hrm ret h _ _ _ hw hl)
theorem dX9_square_0 : decode cX9_square 0 = .ok (.aload_n 0, 1) := by decide +kernel
theorem dX9_square_1 : decode cX9_square 1 = .ok (.getfield 89, 3) := by decide +kernel
theorem dX9_square_4 : decode cX9_square 4 = .ok (.bipush 18, 2) := by decide +kernel
theorem dX9_square_6 : decode cX9_square 6 = .ok (.if_icmp .lt 23, 3) := by decide +kernel
theorem dX9_square_9 : decode cX9_square 9 = .ok (.aload_n 0, 1) := by decide +kernel
theorem dX9_square_10 : decode cX9_square 10 = .ok (.getfield 89, 3) := by decide +kernel
theorem dX9_square_13 : decode cX9_square 13 = .ok (.iconst 3, 1) := by decide +kernel
theorem dX9_square_14 : decode cX9_square 14 = .ok (.irem, 1) := by decide +kernel
theorem dX9_square_15 : decode cX9_square 15 = .ok (.ifCond .ne 14, 3) := by decide +kernel
theorem dX9_square_18 : decode cX9_square 18 = .ok (.aload_n 0, 1) := by decide +kernel
theorem dX9_square_19 : decode cX9_square 19 = .ok (.invokevirtual 108, 3) := by decide +kernel
theorem dX9_square_22 : decode cX9_square 22 = .ok (.aload_n 0, 1) := by decide +kernel
theorem dX9_square_23 : decode cX9_square 23 = .ok (.getfield 89, 3) := by decide +kernel
theorem dX9_square_26 : decode cX9_square 26 = .ok (.if_icmp .ge 6, 3) := by decide +kernel
theorem dX9_square_29 : decode cX9_square 29 = .ok (.bipush (-103), 2) := by decide +kernel
theorem dX9_square_31 : decode cX9_square 31 = .ok (.ireturn, 1) := by decide +kernel
theorem dX9_square_32 : decode cX9_square 32 = .ok (.aload_n 0, 1) := by decide +kernel
theorem dX9_square_33 : decode cX9_square 33 = .ok (.aload_n 0, 1) := by decide +kernel
theorem dX9_square_34 : decode cX9_square 34 = .ok (.getfield 89, 3) := by decide +kernel
theorem dX9_square_37 : decode cX9_square 37 = .ok (.bipush 12, 2) := by decide +kernel
theorem dX9_square_39 : decode cX9_square 39 = .ok (.isub, 1) := by decide +kernel
theorem dX9_square_40 : decode cX9_square 40 = .ok (.iconst 3, 1) := by decide +kernel
theorem dX9_square_41 : decode cX9_square 41 = .ok (.idiv, 1) := by decide +kernel
theorem dX9_square_42 : decode cX9_square 42 = .ok (.putfield 112, 3) := by decide +kernel
theorem dX9_square_45 : decode cX9_square 45 = .ok (.iconst 0, 1) := by decide +kernel
theorem dX9_square_46 : decode cX9_square 46 = .ok (.istore_n 1, 1) := by decide +kernel
theorem dX9_square_47 : decode cX9_square 47 = .ok (.iload_n 1, 1) := by decide +kernel
theorem dX9_square_48 : decode cX9_square 48 = .ok (.bipush 12, 2) := by decide +kernel
theorem dX9_square_50 : decode cX9_square 50 = .ok (.if_icmp .ge 24, 3) := by decide +kernel
theorem dX9_square_53 : decode cX9_square 53 = .ok (.aload_n 0, 1) := by decide +kernel
theorem dX9_square_54 : decode cX9_square 54 = .ok (.getfield 13, 3) := by decide +kernel
theorem dX9_square_57 : decode cX9_square 57 = .ok (.iload_n 1, 1) := by decide +kernel
theorem dX9_square_58 : decode cX9_square 58 = .ok (.aload_n 0, 1) := by decide +kernel
theorem dX9_square_59 : decode cX9_square 59 = .ok (.getfield 7, 3) := by decide +kernel
theorem dX9_square_62 : decode cX9_square 62 = .ok (.iload_n 1, 1) := by decide +kernel
theorem dX9_square_63 : decode cX9_square 63 = .ok (.iaload, 1) := by decide +kernel
theorem dX9_square_64 : decode cX9_square 64 = .ok (.bipush 48, 2) := by decide +kernel
theorem dX9_square_66 : decode cX9_square 66 = .ok (.isub, 1) := by decide +kernel
theorem dX9_square_67 : decode cX9_square 67 = .ok (.iastore, 1) := by decide +kernel
theorem dX9_square_68 : decode cX9_square 68 = .ok (.iinc 1 1, 3) := by decide +kernel
theorem dX9_square_71 : decode cX9_square 71 = .ok (.goto (-24), 3) := by decide +kernel
theorem dX9_square_74 : decode cX9_square 74 = .ok (.iconst 0, 1) := by decide +kernel
theorem dX9_square_75 : decode cX9_square 75 = .ok (.istore_n 1, 1) := by decide +kernel
theorem dX9_square_76 : decode cX9_square 76 = .ok (.iload_n 1, 1) := by decide +kernel
theorem dX9_square_77 : decode cX9_square 77 = .ok (.aload_n 0, 1) := by decide +kernel
theorem dX9_square_78 : decode cX9_square 78 = .ok (.getfield 112, 3) := by decide +kernel
theorem dX9_square_81 : decode cX9_square 81 = .ok (.if_icmp .ge 70, 3) := by decide +kernel
theorem dX9_square_84 : decode cX9_square 84 = .ok (.aload_n 0, 1) := by decide +kernel
theorem dX9_square_85 : decode cX9_square 85 = .ok (.getfield 16, 3) := by decide +kernel
theorem dX9_square_88 : decode cX9_square 88 = .ok (.iload_n 1, 1) := by decide +kernel
theorem dX9_square_89 : decode cX9_square 89 = .ok (.aload_n 0, 1) := by decide +kernel
theorem dX9_square_90 : decode cX9_square 90 = .ok (.getfield 7, 3) := by decide +kernel
theorem dX9_square_93 : decode cX9_square 93 = .ok (.bipush 13, 2) := by decide +kernel
theorem dX9_square_95 : decode cX9_square 95 = .ok (.iconst 3, 1) := by decide +kernel
theorem dX9_square_96 : decode cX9_square 96 = .ok (.iload_n 1, 1) := by decide +kernel
theorem dX9_square_97 : decode cX9_square 97 = .ok (.imul, 1) := by decide +kernel
theorem dX9_square_98 : decode cX9_square 98 = .ok (.iadd, 1) := by decide +kernel
theorem dX9_square_99 : decode cX9_square 99 = .ok (.iaload, 1) := by decide +kernel
theorem dX9_square_100 : decode cX9_square 100 = .ok (.invokestatic 96, 3) := by decide +kernel
theorem dX9_square_103 : decode cX9_square 103 = .ok (.iastore, 1) := by decide +kernel
theorem dX9_square_104 : decode cX9_square 104 = .ok (.aload_n 0, 1) := by decide +kernel
theorem dX9_square_105 : decode cX9_square 105 = .ok (.getfield 19, 3) := by decide +kernel
theorem dX9_square_108 : decode cX9_square 108 = .ok (.iload_n 1, 1) := by decide +kernel
theorem dX9_square_109 : decode cX9_square 109 = .ok (.aload_n 0, 1) := by decide +kernel
theorem dX9_square_110 : decode cX9_square 110 = .ok (.getfield 7, 3) := by decide +kernel
theorem dX9_square_113 : decode cX9_square 113 = .ok (.bipush 14, 2) := by decide +kernel
theorem dX9_square_115 : decode cX9_square 115 = .ok (.iconst 3, 1) := by decide +kernel
theorem dX9_square_116 : decode cX9_square 116 = .ok (.iload_n 1, 1) := by decide +kernel
theorem dX9_square_117 : decode cX9_square 117 = .ok (.imul, 1) := by decide +kernel
theorem dX9_square_118 : decode cX9_square 118 = .ok (.iadd, 1) := by decide +kernel
theorem dX9_square_119 : decode cX9_square 119 = .ok (.iaload, 1) := by decide +kernel
theorem dX9_square_120 : decode cX9_square 120 = .ok (.bipush 97, 2) := by decide +kernel
theorem dX9_square_122 : decode cX9_square 122 = .ok (.isub, 1) := by decide +kernel
theorem dX9_square_123 : decode cX9_square 123 = .ok (.iastore, 1) := by decide +kernel
theorem dX9_square_124 : decode cX9_square 124 = .ok (.aload_n 0, 1) := by decide +kernel
theorem dX9_square_125 : decode cX9_square 125 = .ok (.getfield 22, 3) := by decide +kernel
theorem dX9_square_128 : decode cX9_square 128 = .ok (.iload_n 1, 1) := by decide +kernel
theorem dX9_square_129 : decode cX9_square 129 = .ok (.iconst 0, 1) := by decide +kernel
theorem dX9_square_130 : decode cX9_square 130 = .ok (.iastore, 1) := by decide +kernel
theorem dX9_square_131 : decode cX9_square 131 = .ok (.aload_n 0, 1) := by decide +kernel
theorem dX9_square_132 : decode cX9_square 132 = .ok (.getfield 25, 3) := by decide +kernel
theorem dX9_square_135 : decode cX9_square 135 = .ok (.iload_n 1, 1) := by decide +kernel
theorem dX9_square_136 : decode cX9_square 136 = .ok (.iload_n 1, 1) := by decide +kernel
theorem dX9_square_137 : decode cX9_square 137 = .ok (.iastore, 1) := by decide +kernel
theorem dX9_square_138 : decode cX9_square 138 = .ok (.aload_n 0, 1) := by decide +kernel
theorem dX9_square_139 : decode cX9_square 139 = .ok (.getfield 28, 3) := by decide +kernel
theorem dX9_square_142 : decode cX9_square 142 = .ok (.iload_n 1, 1) := by decide +kernel
theorem dX9_square_143 : decode cX9_square 143 = .ok (.iload_n 1, 1) := by decide +kernel
theorem dX9_square_144 : decode cX9_square 144 = .ok (.iastore, 1) := by decide +kernel
theorem dX9_square_145 : decode cX9_square 145 = .ok (.iinc 1 1, 3) := by decide +kernel
theorem dX9_square_148 : decode cX9_square 148 = .ok (.goto (-72), 3) := by decide +kernel
theorem dX9_square_151 : decode cX9_square 151 = .ok (.aload_n 0, 1) := by decide +kernel
theorem dX9_square_152 : decode cX9_square 152 = .ok (.aload_n 0, 1) := by decide +kernel
theorem dX9_square_153 : decode cX9_square 153 = .ok (.getfield 112, 3) := by decide +kernel
theorem dX9_square_156 : decode cX9_square 156 = .ok (.iconst 1, 1) := by decide +kernel
theorem dX9_square_157 : decode cX9_square 157 = .ok (.isub, 1) := by decide +kernel
theorem dX9_square_158 : decode cX9_square 158 = .ok (.putfield 115, 3) := by decide +kernel
theorem dX9_square_161 : decode cX9_square 161 = .ok (.aload_n 0, 1) := by decide +kernel
theorem dX9_square_162 : decode cX9_square 162 = .ok (.iconst 0, 1) := by decide +kernel
theorem dX9_square_163 : decode cX9_square 163 = .ok (.putfield 118, 3) := by decide +kernel
theorem dX9_square_166 : decode cX9_square 166 = .ok (.aload_n 0, 1) := by decide +kernel
theorem dX9_square_167 : decode cX9_square 167 = .ok (.iconst 0, 1) := by decide +kernel
theorem dX9_square_168 : decode cX9_square 168 = .ok (.putfield 121, 3) := by decide +kernel
theorem dX9_square_171 : decode cX9_square 171 = .ok (.aload_n 0, 1) := by decide +kernel
theorem dX9_square_172 : decode cX9_square 172 = .ok (.iconst 0, 1) := by decide +kernel
theorem dX9_square_173 : decode cX9_square 173 = .ok (.putfield 124, 3) := by decide +kernel
theorem dX9_square_176 : decode cX9_square 176 = .ok (.aload_n 0, 1) := by decide +kernel
theorem dX9_square_177 : decode cX9_square 177 = .ok (.iconst 0, 1) := by decide +kernel
theorem dX9_square_178 : decode cX9_square 178 = .ok (.putfield 127, 3) := by decide +kernel
theorem dX9_square_181 : decode cX9_square 181 = .ok (.aload_n 0, 1) := by decide +kernel
theorem dX9_square_182 : decode cX9_square 182 = .ok (.dup, 1) := by decide +kernel
theorem dX9_square_183 : decode cX9_square 183 = .ok (.getfield 130, 3) := by decide +kernel
theorem dX9_square_186 : decode cX9_square 186 = .ok (.iconst 1, 1) := by decide +kernel
theorem dX9_square_187 : decode cX9_square 187 = .ok (.iadd, 1) := by decide +kernel
theorem dX9_square_188 : decode cX9_square 188 = .ok (.putfield 130, 3) := by decide +kernel
theorem dX9_square_191 : decode cX9_square 191 = .ok (.aload_n 0, 1) := by decide +kernel
theorem dX9_square_192 : decode cX9_square 192 = .ok (.iconst 0, 1) := by decide +kernel
theorem dX9_square_193 : decode cX9_square 193 = .ok (.putfield 89, 3) := by decide +kernel
theorem dX9_square_196 : decode cX9_square 196 = .ok (.aload_n 0, 1) := by decide +kernel
theorem dX9_square_197 : decode cX9_square 197 = .ok (.getfield 112, 3) := by decide +kernel
theorem dX9_square_200 : decode cX9_square 200 = .ok (.ireturn, 1) := by decide +kernel
abbrev kwX9_square (cI cZ cG : ClassId) (q q_page q_worths q_kinds q_likes q_had q_plots q_row q_plotsThen q_rowThen q_traded q_points q_ringLong q_wishes q_order q_bestOrder q_sights q_ways q_keptKinds q_keptPlots q_keptRow q_keptHad q_keptWishes q_keptSights : Nat) (v_pageMany : Int32) (v_houses : Int32) (v_nights : Int32) (v_squaresRead : Int32) (v_front : Int32) (v_down : Int32) (v_frontThen : Int32) (v_downThen : Int32) (v_ringsMany : Int32) (v_wishesMany : Int32) (v_ordersDone : Int32) (v_seenMany : Int32) (v_seedNow : Int32) (v_keptSquare : Int32) (v_keptFront : Int32) (v_keptDown : Int32) (v_keptNights : Int32) (v_keptWishesMany : Int32) (v_keptSeen : Int32) (v_hash : Int64) (v_page : (Nat → Int32)) (v_worths : (Nat → Int32)) (v_kinds : (Nat → Int32)) (v_likes : (Nat → Int32)) (v_had : (Nat → Int32)) (v_plots : (Nat → Int32)) (v_row : (Nat → Int32)) : va_W := [(q, .inr (9, [.ref q_page, .int v_pageMany, .int v_houses, .int v_nights, .int v_squaresRead, .ref q_worths, .ref q_kinds, .ref q_likes, .ref q_had, .ref q_plots, .ref q_row, .int v_front, .int v_down, .ref q_plotsThen, .ref q_rowThen, .int v_frontThen, .int v_downThen, .ref q_traded, .ref q_points, .int v_ringsMany, .ref q_ringLong, .int v_wishesMany, .ref q_wishes, .int v_ordersDone, .ref q_order, .ref q_bestOrder, .int v_seenMany, .ref q_sights, .ref q_ways, .int v_seedNow, .int v_keptSquare, .int v_keptFront, .int v_keptDown, .int v_keptNights, .int v_keptWishesMany, .int v_keptSeen, .ref q_keptKinds, .ref q_keptPlots, .ref q_keptRow, .ref q_keptHad, .ref q_keptWishes, .ref q_keptSights, .long v_hash])), (q_page, .inl (cI, 32, .inl v_page)), (q_worths, .inl (cI, 12, .inl v_worths)), (q_kinds, .inl (cI, 6, .inl v_kinds)), (q_likes, .inl (cI, 6, .inl v_likes)), (q_had, .inl (cI, 6, .inl v_had)), (q_plots, .inl (cI, 6, .inl v_plots)), (q_row, .inl (cI, 6, .inl v_row))]
noncomputable def fX9_square_76 (N : Nat) (v_page : (Nat → Int32))  (K_76 : Int32 → Int32 → Int32 → Int32 → Int32 → Int32 → Int32 → Int32 → Int32 → (Nat → Int32) → (Nat → Int32) → (Nat → Int32) → (Nat → Int32) → (Nat → Int32) → (Nat → Int32) → Option (Int32 × Int32 × Int32 × Int32 × Int32 × Int32 × Int32 × Int32 × Int32 × (Nat → Int32) × (Nat → Int32) × (Nat → Int32) × (Nat → Int32) × (Nat → Int32) × (Nat → Int32))) (l1 : Int32) (v_pageMany : Int32) (v_houses : Int32) (v_nights : Int32) (v_squaresRead : Int32) (v_front : Int32) (v_down : Int32) (v_wishesMany : Int32) (v_seenMany : Int32) (v_worths : (Nat → Int32)) (v_kinds : (Nat → Int32)) (v_likes : (Nat → Int32)) (v_had : (Nat → Int32)) (v_plots : (Nat → Int32)) (v_row : (Nat → Int32)) : Option (Int32 × Int32 × Int32 × Int32 × Int32 × Int32 × Int32 × Int32 × Int32 × (Nat → Int32) × (Nat → Int32) × (Nat → Int32) × (Nat → Int32) × (Nat → Int32) × (Nat → Int32)) := if v_houses ≤ l1 then (some (v_houses, (0 : Int32), v_houses, (0 : Int32), (v_squaresRead + (1 : Int32)), (v_houses - (1 : Int32)), (0 : Int32), (0 : Int32), (0 : Int32), v_worths, v_kinds, v_likes, v_had, v_plots, v_row)) else (if ((13 : Int32) + ((3 : Int32) * l1)) < 0 ∨ 32 ≤ (((13 : Int32) + ((3 : Int32) * l1))).toNatClampNeg then none else ((fX9_kindBy N (v_page (((13 : Int32) + ((3 : Int32) * l1))).toNatClampNeg)).bind (fun x_100 => if l1 < 0 ∨ 6 ≤ (l1).toNatClampNeg then none else (if ((14 : Int32) + ((3 : Int32) * l1)) < 0 ∨ 32 ≤ (((14 : Int32) + ((3 : Int32) * l1))).toNatClampNeg then none else (if l1 < 0 ∨ 6 ≤ (l1).toNatClampNeg then none else (if l1 < 0 ∨ 6 ≤ (l1).toNatClampNeg then none else (if l1 < 0 ∨ 6 ≤ (l1).toNatClampNeg then none else (if l1 < 0 ∨ 6 ≤ (l1).toNatClampNeg then none else (K_76 (l1 + (1 : Int32)) v_pageMany v_houses v_nights v_squaresRead v_front v_down v_wishesMany v_seenMany v_worths (upd v_kinds (l1).toNatClampNeg x_100) (upd v_likes (l1).toNatClampNeg ((v_page (((14 : Int32) + ((3 : Int32) * l1))).toNatClampNeg) - (97 : Int32))) (upd v_had (l1).toNatClampNeg (0 : Int32)) (upd v_plots (l1).toNatClampNeg l1) (upd v_row (l1).toNatClampNeg l1))))))))))
noncomputable def fX9_square_47 (N : Nat) (v_page : (Nat → Int32))  (K_47 : Int32 → Int32 → Int32 → Int32 → Int32 → Int32 → Int32 → Int32 → Int32 → (Nat → Int32) → (Nat → Int32) → (Nat → Int32) → (Nat → Int32) → (Nat → Int32) → (Nat → Int32) → Option (Int32 × Int32 × Int32 × Int32 × Int32 × Int32 × Int32 × Int32 × Int32 × (Nat → Int32) × (Nat → Int32) × (Nat → Int32) × (Nat → Int32) × (Nat → Int32) × (Nat → Int32))) (l1 : Int32) (v_pageMany : Int32) (v_houses : Int32) (v_nights : Int32) (v_squaresRead : Int32) (v_front : Int32) (v_down : Int32) (v_wishesMany : Int32) (v_seenMany : Int32) (v_worths : (Nat → Int32)) (v_kinds : (Nat → Int32)) (v_likes : (Nat → Int32)) (v_had : (Nat → Int32)) (v_plots : (Nat → Int32)) (v_row : (Nat → Int32)) : Option (Int32 × Int32 × Int32 × Int32 × Int32 × Int32 × Int32 × Int32 × Int32 × (Nat → Int32) × (Nat → Int32) × (Nat → Int32) × (Nat → Int32) × (Nat → Int32) × (Nat → Int32)) := if (12 : Int32) ≤ l1 then (lfix (fun (K : Int32 × Int32 × Int32 × Int32 × Int32 × Int32 × Int32 × Int32 × Int32 × (Nat → Int32) × (Nat → Int32) × (Nat → Int32) × (Nat → Int32) × (Nat → Int32) × (Nat → Int32) → Option (Int32 × Int32 × Int32 × Int32 × Int32 × Int32 × Int32 × Int32 × Int32 × (Nat → Int32) × (Nat → Int32) × (Nat → Int32) × (Nat → Int32) × (Nat → Int32) × (Nat → Int32))) (a : Int32 × Int32 × Int32 × Int32 × Int32 × Int32 × Int32 × Int32 × Int32 × (Nat → Int32) × (Nat → Int32) × (Nat → Int32) × (Nat → Int32) × (Nat → Int32) × (Nat → Int32)) => fX9_square_76 N v_page (fun (l1 : Int32) (v_pageMany : Int32) (v_houses : Int32) (v_nights : Int32) (v_squaresRead : Int32) (v_front : Int32) (v_down : Int32) (v_wishesMany : Int32) (v_seenMany : Int32) (v_worths : (Nat → Int32)) (v_kinds : (Nat → Int32)) (v_likes : (Nat → Int32)) (v_had : (Nat → Int32)) (v_plots : (Nat → Int32)) (v_row : (Nat → Int32)) => K (l1, v_pageMany, v_houses, v_nights, v_squaresRead, v_front, v_down, v_wishesMany, v_seenMany, v_worths, v_kinds, v_likes, v_had, v_plots, v_row)) a.1 a.2.1 a.2.2.1 a.2.2.2.1 a.2.2.2.2.1 a.2.2.2.2.2.1 a.2.2.2.2.2.2.1 a.2.2.2.2.2.2.2.1 a.2.2.2.2.2.2.2.2.1 a.2.2.2.2.2.2.2.2.2.1 a.2.2.2.2.2.2.2.2.2.2.1 a.2.2.2.2.2.2.2.2.2.2.2.1 a.2.2.2.2.2.2.2.2.2.2.2.2.1 a.2.2.2.2.2.2.2.2.2.2.2.2.2.1 a.2.2.2.2.2.2.2.2.2.2.2.2.2.2) N ((0 : Int32), v_pageMany, v_houses, v_nights, v_squaresRead, v_front, v_down, v_wishesMany, v_seenMany, v_worths, v_kinds, v_likes, v_had, v_plots, v_row)) else (if l1 < 0 ∨ 32 ≤ (l1).toNatClampNeg then none else (if l1 < 0 ∨ 12 ≤ (l1).toNatClampNeg then none else (K_47 (l1 + (1 : Int32)) v_pageMany v_houses v_nights v_squaresRead v_front v_down v_wishesMany v_seenMany (upd v_worths (l1).toNatClampNeg ((v_page (l1).toNatClampNeg) - (48 : Int32))) v_kinds v_likes v_had v_plots v_row)))
noncomputable def fX9_square (N : Nat) (v_page : (Nat → Int32)) (v_pageMany : Int32) (v_houses : Int32) (v_nights : Int32) (v_squaresRead : Int32) (v_front : Int32) (v_down : Int32) (v_wishesMany : Int32) (v_seenMany : Int32) (v_worths : (Nat → Int32)) (v_kinds : (Nat → Int32)) (v_likes : (Nat → Int32)) (v_had : (Nat → Int32)) (v_plots : (Nat → Int32)) (v_row : (Nat → Int32))  : Option (Int32 × Int32 × Int32 × Int32 × Int32 × Int32 × Int32 × Int32 × Int32 × (Nat → Int32) × (Nat → Int32) × (Nat → Int32) × (Nat → Int32) × (Nat → Int32) × (Nat → Int32)) := if v_pageMany < (18 : Int32) then (some ((-103 : Int32), v_pageMany, v_houses, v_nights, v_squaresRead, v_front, v_down, v_wishesMany, v_seenMany, v_worths, v_kinds, v_likes, v_had, v_plots, v_row)) else (if (v_pageMany - v_pageMany / (3 : Int32) * (3 : Int32)) = 0 then ((fX9_faultOf N v_pageMany v_page).bind (fun x_19 => if v_pageMany ≤ x_19 then (lfix (fun (K : Int32 × Int32 × Int32 × Int32 × Int32 × Int32 × Int32 × Int32 × Int32 × (Nat → Int32) × (Nat → Int32) × (Nat → Int32) × (Nat → Int32) × (Nat → Int32) × (Nat → Int32) → Option (Int32 × Int32 × Int32 × Int32 × Int32 × Int32 × Int32 × Int32 × Int32 × (Nat → Int32) × (Nat → Int32) × (Nat → Int32) × (Nat → Int32) × (Nat → Int32) × (Nat → Int32))) (a : Int32 × Int32 × Int32 × Int32 × Int32 × Int32 × Int32 × Int32 × Int32 × (Nat → Int32) × (Nat → Int32) × (Nat → Int32) × (Nat → Int32) × (Nat → Int32) × (Nat → Int32)) => fX9_square_47 N v_page (fun (l1 : Int32) (v_pageMany : Int32) (v_houses : Int32) (v_nights : Int32) (v_squaresRead : Int32) (v_front : Int32) (v_down : Int32) (v_wishesMany : Int32) (v_seenMany : Int32) (v_worths : (Nat → Int32)) (v_kinds : (Nat → Int32)) (v_likes : (Nat → Int32)) (v_had : (Nat → Int32)) (v_plots : (Nat → Int32)) (v_row : (Nat → Int32)) => K (l1, v_pageMany, v_houses, v_nights, v_squaresRead, v_front, v_down, v_wishesMany, v_seenMany, v_worths, v_kinds, v_likes, v_had, v_plots, v_row)) a.1 a.2.1 a.2.2.1 a.2.2.2.1 a.2.2.2.2.1 a.2.2.2.2.2.1 a.2.2.2.2.2.2.1 a.2.2.2.2.2.2.2.1 a.2.2.2.2.2.2.2.2.1 a.2.2.2.2.2.2.2.2.2.1 a.2.2.2.2.2.2.2.2.2.2.1 a.2.2.2.2.2.2.2.2.2.2.2.1 a.2.2.2.2.2.2.2.2.2.2.2.2.1 a.2.2.2.2.2.2.2.2.2.2.2.2.2.1 a.2.2.2.2.2.2.2.2.2.2.2.2.2.2) N ((0 : Int32), v_pageMany, ((v_pageMany - (12 : Int32)) / (3 : Int32)), v_nights, v_squaresRead, v_front, v_down, v_wishesMany, v_seenMany, v_worths, v_kinds, v_likes, v_had, v_plots, v_row)) else (some ((-103 : Int32), v_pageMany, v_houses, v_nights, v_squaresRead, v_front, v_down, v_wishesMany, v_seenMany, v_worths, v_kinds, v_likes, v_had, v_plots, v_row)))) else (some ((-103 : Int32), v_pageMany, v_houses, v_nights, v_squaresRead, v_front, v_down, v_wishesMany, v_seenMany, v_worths, v_kinds, v_likes, v_had, v_plots, v_row)))
set_option maxHeartbeats 4000000 in
set_option maxRecDepth 100000 in
theorem wX9_square_76 {p : Program} {l : Launch} {e : Env} {R : Room} {s : State} {m : MethodId} {args : Array Value} {below : List Frame} {meth : Method} {c : Code} {cells slots : Nat} {Q : State → Prop} {D : va_G} {A : Nat → Prop} {cI cZ cG : ClassId} {q q_page q_worths q_kinds q_likes q_had q_plots q_row q_plotsThen q_rowThen q_traded q_points q_ringLong q_wishes q_order q_bestOrder q_sights q_ways q_keptKinds q_keptPlots q_keptRow q_keptHad q_keptWishes q_keptSights : Nat} {v_frontThen : Int32} {v_downThen : Int32} {v_ringsMany : Int32} {v_ordersDone : Int32} {v_seedNow : Int32} {v_keptSquare : Int32} {v_keptFront : Int32} {v_keptDown : Int32} {v_keptNights : Int32} {v_keptWishesMany : Int32} {v_keptSeen : Int32} {v_hash : Int64} {v_page : (Nat → Int32)} {N : Nat} {ρ : Int32 × Int32 × Int32 × Int32 × Int32 × Int32 × Int32 × Int32 × Int32 × (Nat → Int32) × (Nat → Int32) × (Nat → Int32) × (Nat → Int32) × (Nat → Int32) × (Nat → Int32)} (X : CX p s m args c cX9_square 2 RX9 D (TY cI cZ cG) A) (hrm : RM R 3 67 cells slots) (ret : ∀ (pc : Nat) (H : Heap) (locs : List Loc) (ls : Array Slot), decode cX9_square pc = .ok (.ireturn, 1) → WD D A (kwX9_square cI cZ cG q q_page q_worths q_kinds q_likes q_had q_plots q_row q_plotsThen q_rowThen q_traded q_points q_ringLong q_wishes q_order q_bestOrder q_sights q_ways q_keptKinds q_keptPlots q_keptRow q_keptHad q_keptWishes q_keptSights (ρ.2.1) (ρ.2.2.1) (ρ.2.2.2.1) (ρ.2.2.2.2.1) (ρ.2.2.2.2.2.1) (ρ.2.2.2.2.2.2.1) v_frontThen v_downThen v_ringsMany (ρ.2.2.2.2.2.2.2.1) v_ordersDone (ρ.2.2.2.2.2.2.2.2.1) v_seedNow v_keptSquare v_keptFront v_keptDown v_keptNights v_keptWishesMany v_keptSeen v_hash v_page (ρ.2.2.2.2.2.2.2.2.2.1) (ρ.2.2.2.2.2.2.2.2.2.2.1) (ρ.2.2.2.2.2.2.2.2.2.2.2.1) (ρ.2.2.2.2.2.2.2.2.2.2.2.2.1) (ρ.2.2.2.2.2.2.2.2.2.2.2.2.2.1) (ρ.2.2.2.2.2.2.2.2.2.2.2.2.2.2)) s.heap H locs → W p l e R s m args below meth c H locs cells slots Q (F0 m pc ls [.int ρ.1]))  : ∀ (n : Nat) (a : Int32 × Int32 × Int32 × Int32 × Int32 × Int32 × Int32 × Int32 × Int32 × (Nat → Int32) × (Nat → Int32) × (Nat → Int32) × (Nat → Int32) × (Nat → Int32) × (Nat → Int32)), lfix (fun (K : Int32 × Int32 × Int32 × Int32 × Int32 × Int32 × Int32 × Int32 × Int32 × (Nat → Int32) × (Nat → Int32) × (Nat → Int32) × (Nat → Int32) × (Nat → Int32) × (Nat → Int32) → Option (Int32 × Int32 × Int32 × Int32 × Int32 × Int32 × Int32 × Int32 × Int32 × (Nat → Int32) × (Nat → Int32) × (Nat → Int32) × (Nat → Int32) × (Nat → Int32) × (Nat → Int32))) (a : Int32 × Int32 × Int32 × Int32 × Int32 × Int32 × Int32 × Int32 × Int32 × (Nat → Int32) × (Nat → Int32) × (Nat → Int32) × (Nat → Int32) × (Nat → Int32) × (Nat → Int32)) => fX9_square_76 N v_page (fun (l1 : Int32) (v_pageMany : Int32) (v_houses : Int32) (v_nights : Int32) (v_squaresRead : Int32) (v_front : Int32) (v_down : Int32) (v_wishesMany : Int32) (v_seenMany : Int32) (v_worths : (Nat → Int32)) (v_kinds : (Nat → Int32)) (v_likes : (Nat → Int32)) (v_had : (Nat → Int32)) (v_plots : (Nat → Int32)) (v_row : (Nat → Int32)) => K (l1, v_pageMany, v_houses, v_nights, v_squaresRead, v_front, v_down, v_wishesMany, v_seenMany, v_worths, v_kinds, v_likes, v_had, v_plots, v_row)) a.1 a.2.1 a.2.2.1 a.2.2.2.1 a.2.2.2.2.1 a.2.2.2.2.2.1 a.2.2.2.2.2.2.1 a.2.2.2.2.2.2.2.1 a.2.2.2.2.2.2.2.2.1 a.2.2.2.2.2.2.2.2.2.1 a.2.2.2.2.2.2.2.2.2.2.1 a.2.2.2.2.2.2.2.2.2.2.2.1 a.2.2.2.2.2.2.2.2.2.2.2.2.1 a.2.2.2.2.2.2.2.2.2.2.2.2.2.1 a.2.2.2.2.2.2.2.2.2.2.2.2.2.2) n a = some ρ → (fun (l1 : Int32) (v_pageMany : Int32) (v_houses : Int32) (v_nights : Int32) (v_squaresRead : Int32) (v_front : Int32) (v_down : Int32) (v_wishesMany : Int32) (v_seenMany : Int32) (v_worths : (Nat → Int32)) (v_kinds : (Nat → Int32)) (v_likes : (Nat → Int32)) (v_had : (Nat → Int32)) (v_plots : (Nat → Int32)) (v_row : (Nat → Int32)) => ∀ (H : Heap) (locs : List Loc) (ls : Array Slot), WD D A (kwX9_square cI cZ cG q q_page q_worths q_kinds q_likes q_had q_plots q_row q_plotsThen q_rowThen q_traded q_points q_ringLong q_wishes q_order q_bestOrder q_sights q_ways q_keptKinds q_keptPlots q_keptRow q_keptHad q_keptWishes q_keptSights v_pageMany v_houses v_nights v_squaresRead v_front v_down v_frontThen v_downThen v_ringsMany v_wishesMany v_ordersDone v_seenMany v_seedNow v_keptSquare v_keptFront v_keptDown v_keptNights v_keptWishesMany v_keptSeen v_hash v_page v_worths v_kinds v_likes v_had v_plots v_row) s.heap H locs → lv_has ls 2 [(0, .ref q), (1, .int l1)] → W p l e R s m args below meth c H locs cells slots Q (F0 m 76 ls [])) (a.1) (a.2.1) (a.2.2.1) (a.2.2.2.1) (a.2.2.2.2.1) (a.2.2.2.2.2.1) (a.2.2.2.2.2.2.1) (a.2.2.2.2.2.2.2.1) (a.2.2.2.2.2.2.2.2.1) (a.2.2.2.2.2.2.2.2.2.1) (a.2.2.2.2.2.2.2.2.2.2.1) (a.2.2.2.2.2.2.2.2.2.2.2.1) (a.2.2.2.2.2.2.2.2.2.2.2.2.1) (a.2.2.2.2.2.2.2.2.2.2.2.2.2.1) (a.2.2.2.2.2.2.2.2.2.2.2.2.2.2) := by
  have hx := X.1.1
  have hb := X.1.2.1
  refine lfix_W (fun K hK a h => ?_)
  obtain ⟨l1, v_pageMany, v_houses, v_nights, v_squaresRead, v_front, v_down, v_wishesMany, v_seenMany, v_worths, v_kinds, v_likes, v_had, v_plots, v_row⟩ := a
  intro H locs ls hw hl
  have h : fX9_square_76 N v_page (fun (l1 : Int32) (v_pageMany : Int32) (v_houses : Int32) (v_nights : Int32) (v_squaresRead : Int32) (v_front : Int32) (v_down : Int32) (v_wishesMany : Int32) (v_seenMany : Int32) (v_worths : (Nat → Int32)) (v_kinds : (Nat → Int32)) (v_likes : (Nat → Int32)) (v_had : (Nat → Int32)) (v_plots : (Nat → Int32)) (v_row : (Nat → Int32)) => K (l1, v_pageMany, v_houses, v_nights, v_squaresRead, v_front, v_down, v_wishesMany, v_seenMany, v_worths, v_kinds, v_likes, v_had, v_plots, v_row)) l1 v_pageMany v_houses v_nights v_squaresRead v_front v_down v_wishesMany v_seenMany v_worths v_kinds v_likes v_had v_plots v_row = some ρ := h
  have hK_76 : ∀ (l1 : Int32) (v_pageMany : Int32) (v_houses : Int32) (v_nights : Int32) (v_squaresRead : Int32) (v_front : Int32) (v_down : Int32) (v_wishesMany : Int32) (v_seenMany : Int32) (v_worths : (Nat → Int32)) (v_kinds : (Nat → Int32)) (v_likes : (Nat → Int32)) (v_had : (Nat → Int32)) (v_plots : (Nat → Int32)) (v_row : (Nat → Int32)), (fun (l1 : Int32) (v_pageMany : Int32) (v_houses : Int32) (v_nights : Int32) (v_squaresRead : Int32) (v_front : Int32) (v_down : Int32) (v_wishesMany : Int32) (v_seenMany : Int32) (v_worths : (Nat → Int32)) (v_kinds : (Nat → Int32)) (v_likes : (Nat → Int32)) (v_had : (Nat → Int32)) (v_plots : (Nat → Int32)) (v_row : (Nat → Int32)) => K (l1, v_pageMany, v_houses, v_nights, v_squaresRead, v_front, v_down, v_wishesMany, v_seenMany, v_worths, v_kinds, v_likes, v_had, v_plots, v_row)) l1 v_pageMany v_houses v_nights v_squaresRead v_front v_down v_wishesMany v_seenMany v_worths v_kinds v_likes v_had v_plots v_row = some ρ → ∀ (H : Heap) (locs : List Loc) (ls : Array Slot), WD D A (kwX9_square cI cZ cG q q_page q_worths q_kinds q_likes q_had q_plots q_row q_plotsThen q_rowThen q_traded q_points q_ringLong q_wishes q_order q_bestOrder q_sights q_ways q_keptKinds q_keptPlots q_keptRow q_keptHad q_keptWishes q_keptSights v_pageMany v_houses v_nights v_squaresRead v_front v_down v_frontThen v_downThen v_ringsMany v_wishesMany v_ordersDone v_seenMany v_seedNow v_keptSquare v_keptFront v_keptDown v_keptNights v_keptWishesMany v_keptSeen v_hash v_page v_worths v_kinds v_likes v_had v_plots v_row) s.heap H locs → lv_has ls 2 [(0, .ref q), (1, .int l1)] → W p l e R s m args below meth c H locs cells slots Q (F0 m 76 ls []) := fun l1 v_pageMany v_houses v_nights v_squaresRead v_front v_down v_wishesMany v_seenMany v_worths v_kinds v_likes v_had v_plots v_row h => hK (l1, v_pageMany, v_houses, v_nights, v_squaresRead, v_front, v_down, v_wishesMany, v_seenMany, v_worths, v_kinds, v_likes, v_had, v_plots, v_row) h
  generalize (fun (l1 : Int32) (v_pageMany : Int32) (v_houses : Int32) (v_nights : Int32) (v_squaresRead : Int32) (v_front : Int32) (v_down : Int32) (v_wishesMany : Int32) (v_seenMany : Int32) (v_worths : (Nat → Int32)) (v_kinds : (Nat → Int32)) (v_likes : (Nat → Int32)) (v_had : (Nat → Int32)) (v_plots : (Nat → Int32)) (v_row : (Nat → Int32)) => K (l1, v_pageMany, v_houses, v_nights, v_squaresRead, v_front, v_down, v_wishesMany, v_seenMany, v_worths, v_kinds, v_likes, v_had, v_plots, v_row)) = K_76 at h hK_76
  have hw : WD D A (kwX9_square cI cZ cG q q_page q_worths q_kinds q_likes q_had q_plots q_row q_plotsThen q_rowThen q_traded q_points q_ringLong q_wishes q_order q_bestOrder q_sights q_ways q_keptKinds q_keptPlots q_keptRow q_keptHad q_keptWishes q_keptSights v_pageMany v_houses v_nights v_squaresRead v_front v_down v_frontThen v_downThen v_ringsMany v_wishesMany v_ordersDone v_seenMany v_seedNow v_keptSquare v_keptFront v_keptDown v_keptNights v_keptWishesMany v_keptSeen v_hash v_page v_worths v_kinds v_likes v_had v_plots v_row) s.heap H locs := hw
  have hl : lv_has ls 2 [(0, .ref q), (1, .int l1)] := hl
  unfold fX9_square_76 at h
  refine lv_iload_n hx hb dX9_square_76 rfl (lv_at hl 1 rfl) ?_
  refine lv_aload_n hx hb dX9_square_77 rfl (lv_at hl 0 rfl) ?_
  refine kget (ci := 9) (v := .int v_houses) X hw iX9 0 rfl rfl 2 (by decide) tw_625 rfl dX9_square_78 ?_
  refine lv_icmp_ge (tgt := 151) hx hb dX9_square_81 (by decide) (fun c_81 => ?_) (fun c_81 => ?_)
  · have h := ift c_81 h
    refine lv_aload_n hx hb dX9_square_151 rfl (lv_at hl 0 rfl) ?_
    refine lv_aload_n hx hb dX9_square_152 rfl (lv_at hl 0 rfl) ?_
    refine kget (ci := 9) (v := .int v_houses) X hw iX9 0 rfl rfl 2 (by decide) tw_625 rfl dX9_square_153 ?_
    refine lv_iconst (v := (1 : Int32)) hx hb dX9_square_156 (by decide) ?_
    refine lv_isub hx hb dX9_square_157 ?_
    refine kput (ci := 9) (v := .int (v_houses - (1 : Int32))) (ty := .int) X hw iX9 tyX9_ok nmX9 0 rfl rfl 11 (by decide) tw_626 rfl rfl rfl rfl (Nat.le_of_ble_eq_true rfl) dX9_square_158 (fun H locs hw => ?_)
    have hw : WD D A (kwX9_square cI cZ cG q q_page q_worths q_kinds q_likes q_had q_plots q_row q_plotsThen q_rowThen q_traded q_points q_ringLong q_wishes q_order q_bestOrder q_sights q_ways q_keptKinds q_keptPlots q_keptRow q_keptHad q_keptWishes q_keptSights v_pageMany v_houses v_nights v_squaresRead (v_houses - (1 : Int32)) v_down v_frontThen v_downThen v_ringsMany v_wishesMany v_ordersDone v_seenMany v_seedNow v_keptSquare v_keptFront v_keptDown v_keptNights v_keptWishesMany v_keptSeen v_hash v_page v_worths v_kinds v_likes v_had v_plots v_row) s.heap H locs := hw
    refine lv_aload_n hx hb dX9_square_161 rfl (lv_at hl 0 rfl) ?_
    refine lv_iconst (v := (0 : Int32)) hx hb dX9_square_162 (by decide) ?_
    refine kput (ci := 9) (v := .int (0 : Int32)) (ty := .int) X hw iX9 tyX9_ok nmX9 0 rfl rfl 12 (by decide) tw_627 rfl rfl rfl rfl (Nat.le_of_ble_eq_true rfl) dX9_square_163 (fun H locs hw => ?_)
    have hw : WD D A (kwX9_square cI cZ cG q q_page q_worths q_kinds q_likes q_had q_plots q_row q_plotsThen q_rowThen q_traded q_points q_ringLong q_wishes q_order q_bestOrder q_sights q_ways q_keptKinds q_keptPlots q_keptRow q_keptHad q_keptWishes q_keptSights v_pageMany v_houses v_nights v_squaresRead (v_houses - (1 : Int32)) (0 : Int32) v_frontThen v_downThen v_ringsMany v_wishesMany v_ordersDone v_seenMany v_seedNow v_keptSquare v_keptFront v_keptDown v_keptNights v_keptWishesMany v_keptSeen v_hash v_page v_worths v_kinds v_likes v_had v_plots v_row) s.heap H locs := hw
    refine lv_aload_n hx hb dX9_square_166 rfl (lv_at hl 0 rfl) ?_
    refine lv_iconst (v := (0 : Int32)) hx hb dX9_square_167 (by decide) ?_
    refine kput (ci := 9) (v := .int (0 : Int32)) (ty := .int) X hw iX9 tyX9_ok nmX9 0 rfl rfl 3 (by decide) tw_628 rfl rfl rfl rfl (Nat.le_of_ble_eq_true rfl) dX9_square_168 (fun H locs hw => ?_)
    have hw : WD D A (kwX9_square cI cZ cG q q_page q_worths q_kinds q_likes q_had q_plots q_row q_plotsThen q_rowThen q_traded q_points q_ringLong q_wishes q_order q_bestOrder q_sights q_ways q_keptKinds q_keptPlots q_keptRow q_keptHad q_keptWishes q_keptSights v_pageMany v_houses (0 : Int32) v_squaresRead (v_houses - (1 : Int32)) (0 : Int32) v_frontThen v_downThen v_ringsMany v_wishesMany v_ordersDone v_seenMany v_seedNow v_keptSquare v_keptFront v_keptDown v_keptNights v_keptWishesMany v_keptSeen v_hash v_page v_worths v_kinds v_likes v_had v_plots v_row) s.heap H locs := hw
    refine lv_aload_n hx hb dX9_square_171 rfl (lv_at hl 0 rfl) ?_
    refine lv_iconst (v := (0 : Int32)) hx hb dX9_square_172 (by decide) ?_
    refine kput (ci := 9) (v := .int (0 : Int32)) (ty := .int) X hw iX9 tyX9_ok nmX9 0 rfl rfl 21 (by decide) tw_629 rfl rfl rfl rfl (Nat.le_of_ble_eq_true rfl) dX9_square_173 (fun H locs hw => ?_)
    have hw : WD D A (kwX9_square cI cZ cG q q_page q_worths q_kinds q_likes q_had q_plots q_row q_plotsThen q_rowThen q_traded q_points q_ringLong q_wishes q_order q_bestOrder q_sights q_ways q_keptKinds q_keptPlots q_keptRow q_keptHad q_keptWishes q_keptSights v_pageMany v_houses (0 : Int32) v_squaresRead (v_houses - (1 : Int32)) (0 : Int32) v_frontThen v_downThen v_ringsMany (0 : Int32) v_ordersDone v_seenMany v_seedNow v_keptSquare v_keptFront v_keptDown v_keptNights v_keptWishesMany v_keptSeen v_hash v_page v_worths v_kinds v_likes v_had v_plots v_row) s.heap H locs := hw
    refine lv_aload_n hx hb dX9_square_176 rfl (lv_at hl 0 rfl) ?_
    refine lv_iconst (v := (0 : Int32)) hx hb dX9_square_177 (by decide) ?_
    refine kput (ci := 9) (v := .int (0 : Int32)) (ty := .int) X hw iX9 tyX9_ok nmX9 0 rfl rfl 26 (by decide) tw_630 rfl rfl rfl rfl (Nat.le_of_ble_eq_true rfl) dX9_square_178 (fun H locs hw => ?_)
    have hw : WD D A (kwX9_square cI cZ cG q q_page q_worths q_kinds q_likes q_had q_plots q_row q_plotsThen q_rowThen q_traded q_points q_ringLong q_wishes q_order q_bestOrder q_sights q_ways q_keptKinds q_keptPlots q_keptRow q_keptHad q_keptWishes q_keptSights v_pageMany v_houses (0 : Int32) v_squaresRead (v_houses - (1 : Int32)) (0 : Int32) v_frontThen v_downThen v_ringsMany (0 : Int32) v_ordersDone (0 : Int32) v_seedNow v_keptSquare v_keptFront v_keptDown v_keptNights v_keptWishesMany v_keptSeen v_hash v_page v_worths v_kinds v_likes v_had v_plots v_row) s.heap H locs := hw
    refine lv_aload_n hx hb dX9_square_181 rfl (lv_at hl 0 rfl) ?_
    refine lv_dup hx hb dX9_square_182 rfl ?_
    refine kget (ci := 9) (v := .int v_squaresRead) X hw iX9 0 rfl rfl 4 (by decide) tw_631 rfl dX9_square_183 ?_
    refine lv_iconst (v := (1 : Int32)) hx hb dX9_square_186 (by decide) ?_
    refine lv_iadd hx hb dX9_square_187 ?_
    refine kput (ci := 9) (v := .int (v_squaresRead + (1 : Int32))) (ty := .int) X hw iX9 tyX9_ok nmX9 0 rfl rfl 4 (by decide) tw_631 rfl rfl rfl rfl (Nat.le_of_ble_eq_true rfl) dX9_square_188 (fun H locs hw => ?_)
    have hw : WD D A (kwX9_square cI cZ cG q q_page q_worths q_kinds q_likes q_had q_plots q_row q_plotsThen q_rowThen q_traded q_points q_ringLong q_wishes q_order q_bestOrder q_sights q_ways q_keptKinds q_keptPlots q_keptRow q_keptHad q_keptWishes q_keptSights v_pageMany v_houses (0 : Int32) (v_squaresRead + (1 : Int32)) (v_houses - (1 : Int32)) (0 : Int32) v_frontThen v_downThen v_ringsMany (0 : Int32) v_ordersDone (0 : Int32) v_seedNow v_keptSquare v_keptFront v_keptDown v_keptNights v_keptWishesMany v_keptSeen v_hash v_page v_worths v_kinds v_likes v_had v_plots v_row) s.heap H locs := hw
    refine lv_aload_n hx hb dX9_square_191 rfl (lv_at hl 0 rfl) ?_
    refine lv_iconst (v := (0 : Int32)) hx hb dX9_square_192 (by decide) ?_
    refine kput (ci := 9) (v := .int (0 : Int32)) (ty := .int) X hw iX9 tyX9_ok nmX9 0 rfl rfl 1 (by decide) tw_600 rfl rfl rfl rfl (Nat.le_of_ble_eq_true rfl) dX9_square_193 (fun H locs hw => ?_)
    have hw : WD D A (kwX9_square cI cZ cG q q_page q_worths q_kinds q_likes q_had q_plots q_row q_plotsThen q_rowThen q_traded q_points q_ringLong q_wishes q_order q_bestOrder q_sights q_ways q_keptKinds q_keptPlots q_keptRow q_keptHad q_keptWishes q_keptSights (0 : Int32) v_houses (0 : Int32) (v_squaresRead + (1 : Int32)) (v_houses - (1 : Int32)) (0 : Int32) v_frontThen v_downThen v_ringsMany (0 : Int32) v_ordersDone (0 : Int32) v_seedNow v_keptSquare v_keptFront v_keptDown v_keptNights v_keptWishesMany v_keptSeen v_hash v_page v_worths v_kinds v_likes v_had v_plots v_row) s.heap H locs := hw
    refine lv_aload_n hx hb dX9_square_196 rfl (lv_at hl 0 rfl) ?_
    refine kget (ci := 9) (v := .int v_houses) X hw iX9 0 rfl rfl 2 (by decide) tw_625 rfl dX9_square_197 ?_
    obtain rfl := Option.some.inj h
    exact ret _ _ _ _ dX9_square_200 hw
  · have h := iff_ c_81 h
    refine lv_aload_n hx hb dX9_square_84 rfl (lv_at hl 0 rfl) ?_
    refine kget (ci := 9) (v := .ref q_kinds) X hw iX9 0 rfl rfl 6 (by decide) tw_632 rfl dX9_square_85 ?_
    refine lv_iload_n hx hb dX9_square_88 rfl (lv_at hl 1 rfl) ?_
    refine lv_aload_n hx hb dX9_square_89 rfl (lv_at hl 0 rfl) ?_
    refine kget (ci := 9) (v := .ref q_page) X hw iX9 0 rfl rfl 0 (by decide) tw_601 rfl dX9_square_90 ?_
    refine lv_bipush (v := (13 : Int32)) hx hb dX9_square_93 (by decide) ?_
    refine lv_iconst (v := (3 : Int32)) hx hb dX9_square_95 (by decide) ?_
    refine lv_iload_n hx hb dX9_square_96 rfl (lv_at hl 1 rfl) ?_
    refine lv_imul hx hb dX9_square_97 ?_
    refine lv_iadd hx hb dX9_square_98 ?_
    obtain ⟨g_99, h⟩ := gd h
    refine kiald X hw 1 rfl rfl g_99 dX9_square_99 ?_
    obtain ⟨x_100, hc_100, h⟩ := obd h
    refine ksS_i (ws2 := (kwX9_square cI cZ cG q q_page q_worths q_kinds q_likes q_had q_plots q_row q_plotsThen q_rowThen q_traded q_points q_ringLong q_wishes q_order q_bestOrder q_sights q_ways q_keptKinds q_keptPlots q_keptRow q_keptHad q_keptWishes q_keptSights v_pageMany v_houses v_nights v_squaresRead v_front v_down v_frontThen v_downThen v_ringsMany v_wishesMany v_ordersDone v_seenMany v_seedNow v_keptSquare v_keptFront v_keptDown v_keptNights v_keptWishesMany v_keptSeen v_hash v_page v_worths v_kinds v_likes v_had v_plots v_row)) (nW := 8) (As := [.int (v_page (((13 : Int32) + ((3 : Int32) * l1))).toNatClampNeg)]) (rest := [.int l1, .ref q_kinds]) X hw (cX9_kindBy_ct l D cI cZ cG (v_page (((13 : Int32) + ((3 : Int32) * l1))).toNatClampNeg) N x_100 hc_100 H.size) mX9_kindBy tw_610 (hrm.call (by decide) (by decide)) [] rfl (by decide) rfl (by decide) rfl ⟨rfl, ⟨rfl, ⟨rfl, ⟨rfl, ⟨rfl, ⟨rfl, ⟨rfl, ⟨rfl, trivial⟩⟩⟩⟩⟩⟩⟩⟩ rfl hl.1 rfl (Nat.le_of_ble_eq_true rfl) dX9_square_100 ⟨hrm.2.2.1, hrm.2.2.2⟩ (fun H locs hw => ?_)
    obtain ⟨g_103, h⟩ := gd h
    refine kiast X hw 3 rfl rfl g_103 dX9_square_103 (fun H locs hw => ?_)
    have hw : WD D A (kwX9_square cI cZ cG q q_page q_worths q_kinds q_likes q_had q_plots q_row q_plotsThen q_rowThen q_traded q_points q_ringLong q_wishes q_order q_bestOrder q_sights q_ways q_keptKinds q_keptPlots q_keptRow q_keptHad q_keptWishes q_keptSights v_pageMany v_houses v_nights v_squaresRead v_front v_down v_frontThen v_downThen v_ringsMany v_wishesMany v_ordersDone v_seenMany v_seedNow v_keptSquare v_keptFront v_keptDown v_keptNights v_keptWishesMany v_keptSeen v_hash v_page v_worths (upd v_kinds (l1).toNatClampNeg x_100) v_likes v_had v_plots v_row) s.heap H locs := hw
    refine lv_aload_n hx hb dX9_square_104 rfl (lv_at hl 0 rfl) ?_
    refine kget (ci := 9) (v := .ref q_likes) X hw iX9 0 rfl rfl 7 (by decide) tw_633 rfl dX9_square_105 ?_
    refine lv_iload_n hx hb dX9_square_108 rfl (lv_at hl 1 rfl) ?_
    refine lv_aload_n hx hb dX9_square_109 rfl (lv_at hl 0 rfl) ?_
    refine kget (ci := 9) (v := .ref q_page) X hw iX9 0 rfl rfl 0 (by decide) tw_601 rfl dX9_square_110 ?_
    refine lv_bipush (v := (14 : Int32)) hx hb dX9_square_113 (by decide) ?_
    refine lv_iconst (v := (3 : Int32)) hx hb dX9_square_115 (by decide) ?_
    refine lv_iload_n hx hb dX9_square_116 rfl (lv_at hl 1 rfl) ?_
    refine lv_imul hx hb dX9_square_117 ?_
    refine lv_iadd hx hb dX9_square_118 ?_
    obtain ⟨g_119, h⟩ := gd h
    refine kiald X hw 1 rfl rfl g_119 dX9_square_119 ?_
    refine lv_bipush (v := (97 : Int32)) hx hb dX9_square_120 (by decide) ?_
    refine lv_isub hx hb dX9_square_122 ?_
    obtain ⟨g_123, h⟩ := gd h
    refine kiast X hw 4 rfl rfl g_123 dX9_square_123 (fun H locs hw => ?_)
    have hw : WD D A (kwX9_square cI cZ cG q q_page q_worths q_kinds q_likes q_had q_plots q_row q_plotsThen q_rowThen q_traded q_points q_ringLong q_wishes q_order q_bestOrder q_sights q_ways q_keptKinds q_keptPlots q_keptRow q_keptHad q_keptWishes q_keptSights v_pageMany v_houses v_nights v_squaresRead v_front v_down v_frontThen v_downThen v_ringsMany v_wishesMany v_ordersDone v_seenMany v_seedNow v_keptSquare v_keptFront v_keptDown v_keptNights v_keptWishesMany v_keptSeen v_hash v_page v_worths (upd v_kinds (l1).toNatClampNeg x_100) (upd v_likes (l1).toNatClampNeg ((v_page (((14 : Int32) + ((3 : Int32) * l1))).toNatClampNeg) - (97 : Int32))) v_had v_plots v_row) s.heap H locs := hw
    refine lv_aload_n hx hb dX9_square_124 rfl (lv_at hl 0 rfl) ?_
    refine kget (ci := 9) (v := .ref q_had) X hw iX9 0 rfl rfl 8 (by decide) tw_634 rfl dX9_square_125 ?_
    refine lv_iload_n hx hb dX9_square_128 rfl (lv_at hl 1 rfl) ?_
    refine lv_iconst (v := (0 : Int32)) hx hb dX9_square_129 (by decide) ?_
    obtain ⟨g_130, h⟩ := gd h
    refine kiast X hw 5 rfl rfl g_130 dX9_square_130 (fun H locs hw => ?_)
    have hw : WD D A (kwX9_square cI cZ cG q q_page q_worths q_kinds q_likes q_had q_plots q_row q_plotsThen q_rowThen q_traded q_points q_ringLong q_wishes q_order q_bestOrder q_sights q_ways q_keptKinds q_keptPlots q_keptRow q_keptHad q_keptWishes q_keptSights v_pageMany v_houses v_nights v_squaresRead v_front v_down v_frontThen v_downThen v_ringsMany v_wishesMany v_ordersDone v_seenMany v_seedNow v_keptSquare v_keptFront v_keptDown v_keptNights v_keptWishesMany v_keptSeen v_hash v_page v_worths (upd v_kinds (l1).toNatClampNeg x_100) (upd v_likes (l1).toNatClampNeg ((v_page (((14 : Int32) + ((3 : Int32) * l1))).toNatClampNeg) - (97 : Int32))) (upd v_had (l1).toNatClampNeg (0 : Int32)) v_plots v_row) s.heap H locs := hw
    refine lv_aload_n hx hb dX9_square_131 rfl (lv_at hl 0 rfl) ?_
    refine kget (ci := 9) (v := .ref q_plots) X hw iX9 0 rfl rfl 9 (by decide) tw_635 rfl dX9_square_132 ?_
    refine lv_iload_n hx hb dX9_square_135 rfl (lv_at hl 1 rfl) ?_
    refine lv_iload_n hx hb dX9_square_136 rfl (lv_at hl 1 rfl) ?_
    obtain ⟨g_137, h⟩ := gd h
    refine kiast X hw 6 rfl rfl g_137 dX9_square_137 (fun H locs hw => ?_)
    have hw : WD D A (kwX9_square cI cZ cG q q_page q_worths q_kinds q_likes q_had q_plots q_row q_plotsThen q_rowThen q_traded q_points q_ringLong q_wishes q_order q_bestOrder q_sights q_ways q_keptKinds q_keptPlots q_keptRow q_keptHad q_keptWishes q_keptSights v_pageMany v_houses v_nights v_squaresRead v_front v_down v_frontThen v_downThen v_ringsMany v_wishesMany v_ordersDone v_seenMany v_seedNow v_keptSquare v_keptFront v_keptDown v_keptNights v_keptWishesMany v_keptSeen v_hash v_page v_worths (upd v_kinds (l1).toNatClampNeg x_100) (upd v_likes (l1).toNatClampNeg ((v_page (((14 : Int32) + ((3 : Int32) * l1))).toNatClampNeg) - (97 : Int32))) (upd v_had (l1).toNatClampNeg (0 : Int32)) (upd v_plots (l1).toNatClampNeg l1) v_row) s.heap H locs := hw
    refine lv_aload_n hx hb dX9_square_138 rfl (lv_at hl 0 rfl) ?_
    refine kget (ci := 9) (v := .ref q_row) X hw iX9 0 rfl rfl 10 (by decide) tw_636 rfl dX9_square_139 ?_
    refine lv_iload_n hx hb dX9_square_142 rfl (lv_at hl 1 rfl) ?_
    refine lv_iload_n hx hb dX9_square_143 rfl (lv_at hl 1 rfl) ?_
    obtain ⟨g_144, h⟩ := gd h
    refine kiast X hw 7 rfl rfl g_144 dX9_square_144 (fun H locs hw => ?_)
    have hw : WD D A (kwX9_square cI cZ cG q q_page q_worths q_kinds q_likes q_had q_plots q_row q_plotsThen q_rowThen q_traded q_points q_ringLong q_wishes q_order q_bestOrder q_sights q_ways q_keptKinds q_keptPlots q_keptRow q_keptHad q_keptWishes q_keptSights v_pageMany v_houses v_nights v_squaresRead v_front v_down v_frontThen v_downThen v_ringsMany v_wishesMany v_ordersDone v_seenMany v_seedNow v_keptSquare v_keptFront v_keptDown v_keptNights v_keptWishesMany v_keptSeen v_hash v_page v_worths (upd v_kinds (l1).toNatClampNeg x_100) (upd v_likes (l1).toNatClampNeg ((v_page (((14 : Int32) + ((3 : Int32) * l1))).toNatClampNeg) - (97 : Int32))) (upd v_had (l1).toNatClampNeg (0 : Int32)) (upd v_plots (l1).toNatClampNeg l1) (upd v_row (l1).toNatClampNeg l1)) s.heap H locs := hw
    refine lv_iinc (v := (l1 + (1 : Int32))) (lv' := [(1, .int (l1 + (1 : Int32))), (0, .ref q)]) hx hb dX9_square_145 hl (k := 1) rfl (congrArg (l1 + ·) (by decide)) (by decide) rfl (fun ls hl => ?_)
    refine lv_goto (tgt := 76) hx hb dX9_square_148 (by decide) ?_
    exact hK_76 _ _ _ _ _ _ _ _ _ _ _ _ _ _ _ h _ _ _ hw (lv_sub hl [1, 0] rfl)
set_option maxHeartbeats 4000000 in
set_option maxRecDepth 100000 in
theorem wX9_square_47 {p : Program} {l : Launch} {e : Env} {R : Room} {s : State} {m : MethodId} {args : Array Value} {below : List Frame} {meth : Method} {c : Code} {cells slots : Nat} {Q : State → Prop} {D : va_G} {A : Nat → Prop} {cI cZ cG : ClassId} {q q_page q_worths q_kinds q_likes q_had q_plots q_row q_plotsThen q_rowThen q_traded q_points q_ringLong q_wishes q_order q_bestOrder q_sights q_ways q_keptKinds q_keptPlots q_keptRow q_keptHad q_keptWishes q_keptSights : Nat} {v_frontThen : Int32} {v_downThen : Int32} {v_ringsMany : Int32} {v_ordersDone : Int32} {v_seedNow : Int32} {v_keptSquare : Int32} {v_keptFront : Int32} {v_keptDown : Int32} {v_keptNights : Int32} {v_keptWishesMany : Int32} {v_keptSeen : Int32} {v_hash : Int64} {v_page : (Nat → Int32)} {N : Nat} {ρ : Int32 × Int32 × Int32 × Int32 × Int32 × Int32 × Int32 × Int32 × Int32 × (Nat → Int32) × (Nat → Int32) × (Nat → Int32) × (Nat → Int32) × (Nat → Int32) × (Nat → Int32)} (X : CX p s m args c cX9_square 2 RX9 D (TY cI cZ cG) A) (hrm : RM R 3 67 cells slots) (ret : ∀ (pc : Nat) (H : Heap) (locs : List Loc) (ls : Array Slot), decode cX9_square pc = .ok (.ireturn, 1) → WD D A (kwX9_square cI cZ cG q q_page q_worths q_kinds q_likes q_had q_plots q_row q_plotsThen q_rowThen q_traded q_points q_ringLong q_wishes q_order q_bestOrder q_sights q_ways q_keptKinds q_keptPlots q_keptRow q_keptHad q_keptWishes q_keptSights (ρ.2.1) (ρ.2.2.1) (ρ.2.2.2.1) (ρ.2.2.2.2.1) (ρ.2.2.2.2.2.1) (ρ.2.2.2.2.2.2.1) v_frontThen v_downThen v_ringsMany (ρ.2.2.2.2.2.2.2.1) v_ordersDone (ρ.2.2.2.2.2.2.2.2.1) v_seedNow v_keptSquare v_keptFront v_keptDown v_keptNights v_keptWishesMany v_keptSeen v_hash v_page (ρ.2.2.2.2.2.2.2.2.2.1) (ρ.2.2.2.2.2.2.2.2.2.2.1) (ρ.2.2.2.2.2.2.2.2.2.2.2.1) (ρ.2.2.2.2.2.2.2.2.2.2.2.2.1) (ρ.2.2.2.2.2.2.2.2.2.2.2.2.2.1) (ρ.2.2.2.2.2.2.2.2.2.2.2.2.2.2)) s.heap H locs → W p l e R s m args below meth c H locs cells slots Q (F0 m pc ls [.int ρ.1]))  : ∀ (n : Nat) (a : Int32 × Int32 × Int32 × Int32 × Int32 × Int32 × Int32 × Int32 × Int32 × (Nat → Int32) × (Nat → Int32) × (Nat → Int32) × (Nat → Int32) × (Nat → Int32) × (Nat → Int32)), lfix (fun (K : Int32 × Int32 × Int32 × Int32 × Int32 × Int32 × Int32 × Int32 × Int32 × (Nat → Int32) × (Nat → Int32) × (Nat → Int32) × (Nat → Int32) × (Nat → Int32) × (Nat → Int32) → Option (Int32 × Int32 × Int32 × Int32 × Int32 × Int32 × Int32 × Int32 × Int32 × (Nat → Int32) × (Nat → Int32) × (Nat → Int32) × (Nat → Int32) × (Nat → Int32) × (Nat → Int32))) (a : Int32 × Int32 × Int32 × Int32 × Int32 × Int32 × Int32 × Int32 × Int32 × (Nat → Int32) × (Nat → Int32) × (Nat → Int32) × (Nat → Int32) × (Nat → Int32) × (Nat → Int32)) => fX9_square_47 N v_page (fun (l1 : Int32) (v_pageMany : Int32) (v_houses : Int32) (v_nights : Int32) (v_squaresRead : Int32) (v_front : Int32) (v_down : Int32) (v_wishesMany : Int32) (v_seenMany : Int32) (v_worths : (Nat → Int32)) (v_kinds : (Nat → Int32)) (v_likes : (Nat → Int32)) (v_had : (Nat → Int32)) (v_plots : (Nat → Int32)) (v_row : (Nat → Int32)) => K (l1, v_pageMany, v_houses, v_nights, v_squaresRead, v_front, v_down, v_wishesMany, v_seenMany, v_worths, v_kinds, v_likes, v_had, v_plots, v_row)) a.1 a.2.1 a.2.2.1 a.2.2.2.1 a.2.2.2.2.1 a.2.2.2.2.2.1 a.2.2.2.2.2.2.1 a.2.2.2.2.2.2.2.1 a.2.2.2.2.2.2.2.2.1 a.2.2.2.2.2.2.2.2.2.1 a.2.2.2.2.2.2.2.2.2.2.1 a.2.2.2.2.2.2.2.2.2.2.2.1 a.2.2.2.2.2.2.2.2.2.2.2.2.1 a.2.2.2.2.2.2.2.2.2.2.2.2.2.1 a.2.2.2.2.2.2.2.2.2.2.2.2.2.2) n a = some ρ → (fun (l1 : Int32) (v_pageMany : Int32) (v_houses : Int32) (v_nights : Int32) (v_squaresRead : Int32) (v_front : Int32) (v_down : Int32) (v_wishesMany : Int32) (v_seenMany : Int32) (v_worths : (Nat → Int32)) (v_kinds : (Nat → Int32)) (v_likes : (Nat → Int32)) (v_had : (Nat → Int32)) (v_plots : (Nat → Int32)) (v_row : (Nat → Int32)) => ∀ (H : Heap) (locs : List Loc) (ls : Array Slot), WD D A (kwX9_square cI cZ cG q q_page q_worths q_kinds q_likes q_had q_plots q_row q_plotsThen q_rowThen q_traded q_points q_ringLong q_wishes q_order q_bestOrder q_sights q_ways q_keptKinds q_keptPlots q_keptRow q_keptHad q_keptWishes q_keptSights v_pageMany v_houses v_nights v_squaresRead v_front v_down v_frontThen v_downThen v_ringsMany v_wishesMany v_ordersDone v_seenMany v_seedNow v_keptSquare v_keptFront v_keptDown v_keptNights v_keptWishesMany v_keptSeen v_hash v_page v_worths v_kinds v_likes v_had v_plots v_row) s.heap H locs → lv_has ls 2 [(0, .ref q), (1, .int l1)] → W p l e R s m args below meth c H locs cells slots Q (F0 m 47 ls [])) (a.1) (a.2.1) (a.2.2.1) (a.2.2.2.1) (a.2.2.2.2.1) (a.2.2.2.2.2.1) (a.2.2.2.2.2.2.1) (a.2.2.2.2.2.2.2.1) (a.2.2.2.2.2.2.2.2.1) (a.2.2.2.2.2.2.2.2.2.1) (a.2.2.2.2.2.2.2.2.2.2.1) (a.2.2.2.2.2.2.2.2.2.2.2.1) (a.2.2.2.2.2.2.2.2.2.2.2.2.1) (a.2.2.2.2.2.2.2.2.2.2.2.2.2.1) (a.2.2.2.2.2.2.2.2.2.2.2.2.2.2) := by
  have hx := X.1.1
  have hb := X.1.2.1
  refine lfix_W (fun K hK a h => ?_)
  obtain ⟨l1, v_pageMany, v_houses, v_nights, v_squaresRead, v_front, v_down, v_wishesMany, v_seenMany, v_worths, v_kinds, v_likes, v_had, v_plots, v_row⟩ := a
  intro H locs ls hw hl
  have h : fX9_square_47 N v_page (fun (l1 : Int32) (v_pageMany : Int32) (v_houses : Int32) (v_nights : Int32) (v_squaresRead : Int32) (v_front : Int32) (v_down : Int32) (v_wishesMany : Int32) (v_seenMany : Int32) (v_worths : (Nat → Int32)) (v_kinds : (Nat → Int32)) (v_likes : (Nat → Int32)) (v_had : (Nat → Int32)) (v_plots : (Nat → Int32)) (v_row : (Nat → Int32)) => K (l1, v_pageMany, v_houses, v_nights, v_squaresRead, v_front, v_down, v_wishesMany, v_seenMany, v_worths, v_kinds, v_likes, v_had, v_plots, v_row)) l1 v_pageMany v_houses v_nights v_squaresRead v_front v_down v_wishesMany v_seenMany v_worths v_kinds v_likes v_had v_plots v_row = some ρ := h
  have hK_47 : ∀ (l1 : Int32) (v_pageMany : Int32) (v_houses : Int32) (v_nights : Int32) (v_squaresRead : Int32) (v_front : Int32) (v_down : Int32) (v_wishesMany : Int32) (v_seenMany : Int32) (v_worths : (Nat → Int32)) (v_kinds : (Nat → Int32)) (v_likes : (Nat → Int32)) (v_had : (Nat → Int32)) (v_plots : (Nat → Int32)) (v_row : (Nat → Int32)), (fun (l1 : Int32) (v_pageMany : Int32) (v_houses : Int32) (v_nights : Int32) (v_squaresRead : Int32) (v_front : Int32) (v_down : Int32) (v_wishesMany : Int32) (v_seenMany : Int32) (v_worths : (Nat → Int32)) (v_kinds : (Nat → Int32)) (v_likes : (Nat → Int32)) (v_had : (Nat → Int32)) (v_plots : (Nat → Int32)) (v_row : (Nat → Int32)) => K (l1, v_pageMany, v_houses, v_nights, v_squaresRead, v_front, v_down, v_wishesMany, v_seenMany, v_worths, v_kinds, v_likes, v_had, v_plots, v_row)) l1 v_pageMany v_houses v_nights v_squaresRead v_front v_down v_wishesMany v_seenMany v_worths v_kinds v_likes v_had v_plots v_row = some ρ → ∀ (H : Heap) (locs : List Loc) (ls : Array Slot), WD D A (kwX9_square cI cZ cG q q_page q_worths q_kinds q_likes q_had q_plots q_row q_plotsThen q_rowThen q_traded q_points q_ringLong q_wishes q_order q_bestOrder q_sights q_ways q_keptKinds q_keptPlots q_keptRow q_keptHad q_keptWishes q_keptSights v_pageMany v_houses v_nights v_squaresRead v_front v_down v_frontThen v_downThen v_ringsMany v_wishesMany v_ordersDone v_seenMany v_seedNow v_keptSquare v_keptFront v_keptDown v_keptNights v_keptWishesMany v_keptSeen v_hash v_page v_worths v_kinds v_likes v_had v_plots v_row) s.heap H locs → lv_has ls 2 [(0, .ref q), (1, .int l1)] → W p l e R s m args below meth c H locs cells slots Q (F0 m 47 ls []) := fun l1 v_pageMany v_houses v_nights v_squaresRead v_front v_down v_wishesMany v_seenMany v_worths v_kinds v_likes v_had v_plots v_row h => hK (l1, v_pageMany, v_houses, v_nights, v_squaresRead, v_front, v_down, v_wishesMany, v_seenMany, v_worths, v_kinds, v_likes, v_had, v_plots, v_row) h
  generalize (fun (l1 : Int32) (v_pageMany : Int32) (v_houses : Int32) (v_nights : Int32) (v_squaresRead : Int32) (v_front : Int32) (v_down : Int32) (v_wishesMany : Int32) (v_seenMany : Int32) (v_worths : (Nat → Int32)) (v_kinds : (Nat → Int32)) (v_likes : (Nat → Int32)) (v_had : (Nat → Int32)) (v_plots : (Nat → Int32)) (v_row : (Nat → Int32)) => K (l1, v_pageMany, v_houses, v_nights, v_squaresRead, v_front, v_down, v_wishesMany, v_seenMany, v_worths, v_kinds, v_likes, v_had, v_plots, v_row)) = K_47 at h hK_47
  have hw : WD D A (kwX9_square cI cZ cG q q_page q_worths q_kinds q_likes q_had q_plots q_row q_plotsThen q_rowThen q_traded q_points q_ringLong q_wishes q_order q_bestOrder q_sights q_ways q_keptKinds q_keptPlots q_keptRow q_keptHad q_keptWishes q_keptSights v_pageMany v_houses v_nights v_squaresRead v_front v_down v_frontThen v_downThen v_ringsMany v_wishesMany v_ordersDone v_seenMany v_seedNow v_keptSquare v_keptFront v_keptDown v_keptNights v_keptWishesMany v_keptSeen v_hash v_page v_worths v_kinds v_likes v_had v_plots v_row) s.heap H locs := hw
  have hl : lv_has ls 2 [(0, .ref q), (1, .int l1)] := hl
  unfold fX9_square_47 at h
  refine lv_iload_n hx hb dX9_square_47 rfl (lv_at hl 1 rfl) ?_
  refine lv_bipush (v := (12 : Int32)) hx hb dX9_square_48 (by decide) ?_
  refine lv_icmp_ge (tgt := 74) hx hb dX9_square_50 (by decide) (fun c_50 => ?_) (fun c_50 => ?_)
  · have h := ift c_50 h
    refine lv_iconst (v := (0 : Int32)) hx hb dX9_square_74 (by decide) ?_
    refine lv_istore_n (lv' := [(1, .int (0 : Int32)), (0, .ref q)]) hx hb dX9_square_75 rfl hl (by decide) rfl (fun ls hl => ?_)
    exact wX9_square_76 X hrm ret  _ _ h _ _ _ hw (lv_sub hl [1, 0] rfl)
  · have h := iff_ c_50 h
    refine lv_aload_n hx hb dX9_square_53 rfl (lv_at hl 0 rfl) ?_
    refine kget (ci := 9) (v := .ref q_worths) X hw iX9 0 rfl rfl 5 (by decide) tw_637 rfl dX9_square_54 ?_
    refine lv_iload_n hx hb dX9_square_57 rfl (lv_at hl 1 rfl) ?_
    refine lv_aload_n hx hb dX9_square_58 rfl (lv_at hl 0 rfl) ?_
    refine kget (ci := 9) (v := .ref q_page) X hw iX9 0 rfl rfl 0 (by decide) tw_601 rfl dX9_square_59 ?_
    refine lv_iload_n hx hb dX9_square_62 rfl (lv_at hl 1 rfl) ?_
    obtain ⟨g_63, h⟩ := gd h
    refine kiald X hw 1 rfl rfl g_63 dX9_square_63 ?_
    refine lv_bipush (v := (48 : Int32)) hx hb dX9_square_64 (by decide) ?_
    refine lv_isub hx hb dX9_square_66 ?_
    obtain ⟨g_67, h⟩ := gd h
    refine kiast X hw 2 rfl rfl g_67 dX9_square_67 (fun H locs hw => ?_)
    have hw : WD D A (kwX9_square cI cZ cG q q_page q_worths q_kinds q_likes q_had q_plots q_row q_plotsThen q_rowThen q_traded q_points q_ringLong q_wishes q_order q_bestOrder q_sights q_ways q_keptKinds q_keptPlots q_keptRow q_keptHad q_keptWishes q_keptSights v_pageMany v_houses v_nights v_squaresRead v_front v_down v_frontThen v_downThen v_ringsMany v_wishesMany v_ordersDone v_seenMany v_seedNow v_keptSquare v_keptFront v_keptDown v_keptNights v_keptWishesMany v_keptSeen v_hash v_page (upd v_worths (l1).toNatClampNeg ((v_page (l1).toNatClampNeg) - (48 : Int32))) v_kinds v_likes v_had v_plots v_row) s.heap H locs := hw
    refine lv_iinc (v := (l1 + (1 : Int32))) (lv' := [(1, .int (l1 + (1 : Int32))), (0, .ref q)]) hx hb dX9_square_68 hl (k := 1) rfl (congrArg (l1 + ·) (by decide)) (by decide) rfl (fun ls hl => ?_)
    refine lv_goto (tgt := 47) hx hb dX9_square_71 (by decide) ?_
    exact hK_47 _ _ _ _ _ _ _ _ _ _ _ _ _ _ _ h _ _ _ hw (lv_sub hl [1, 0] rfl)
set_option maxHeartbeats 4000000 in
set_option maxRecDepth 100000 in
theorem wX9_square {p : Program} {l : Launch} {e : Env} {R : Room} {s : State} {m : MethodId} {args : Array Value} {below : List Frame} {meth : Method} {c : Code} {cells slots : Nat} {Q : State → Prop} {D : va_G} {A : Nat → Prop} {cI cZ cG : ClassId} {q q_page q_worths q_kinds q_likes q_had q_plots q_row q_plotsThen q_rowThen q_traded q_points q_ringLong q_wishes q_order q_bestOrder q_sights q_ways q_keptKinds q_keptPlots q_keptRow q_keptHad q_keptWishes q_keptSights : Nat} {v_pageMany : Int32} {v_houses : Int32} {v_nights : Int32} {v_squaresRead : Int32} {v_front : Int32} {v_down : Int32} {v_frontThen : Int32} {v_downThen : Int32} {v_ringsMany : Int32} {v_wishesMany : Int32} {v_ordersDone : Int32} {v_seenMany : Int32} {v_seedNow : Int32} {v_keptSquare : Int32} {v_keptFront : Int32} {v_keptDown : Int32} {v_keptNights : Int32} {v_keptWishesMany : Int32} {v_keptSeen : Int32} {v_hash : Int64} {v_page : (Nat → Int32)} {v_worths : (Nat → Int32)} {v_kinds : (Nat → Int32)} {v_likes : (Nat → Int32)} {v_had : (Nat → Int32)} {v_plots : (Nat → Int32)} {v_row : (Nat → Int32)} {N : Nat} {ρ : Int32 × Int32 × Int32 × Int32 × Int32 × Int32 × Int32 × Int32 × Int32 × (Nat → Int32) × (Nat → Int32) × (Nat → Int32) × (Nat → Int32) × (Nat → Int32) × (Nat → Int32)} (X : CX p s m args c cX9_square 2 RX9 D (TY cI cZ cG) A) (hrm : RM R 3 67 cells slots) (ret : ∀ (pc : Nat) (H : Heap) (locs : List Loc) (ls : Array Slot), decode cX9_square pc = .ok (.ireturn, 1) → WD D A (kwX9_square cI cZ cG q q_page q_worths q_kinds q_likes q_had q_plots q_row q_plotsThen q_rowThen q_traded q_points q_ringLong q_wishes q_order q_bestOrder q_sights q_ways q_keptKinds q_keptPlots q_keptRow q_keptHad q_keptWishes q_keptSights (ρ.2.1) (ρ.2.2.1) (ρ.2.2.2.1) (ρ.2.2.2.2.1) (ρ.2.2.2.2.2.1) (ρ.2.2.2.2.2.2.1) v_frontThen v_downThen v_ringsMany (ρ.2.2.2.2.2.2.2.1) v_ordersDone (ρ.2.2.2.2.2.2.2.2.1) v_seedNow v_keptSquare v_keptFront v_keptDown v_keptNights v_keptWishesMany v_keptSeen v_hash v_page (ρ.2.2.2.2.2.2.2.2.2.1) (ρ.2.2.2.2.2.2.2.2.2.2.1) (ρ.2.2.2.2.2.2.2.2.2.2.2.1) (ρ.2.2.2.2.2.2.2.2.2.2.2.2.1) (ρ.2.2.2.2.2.2.2.2.2.2.2.2.2.1) (ρ.2.2.2.2.2.2.2.2.2.2.2.2.2.2)) s.heap H locs → W p l e R s m args below meth c H locs cells slots Q (F0 m pc ls [.int ρ.1])) (h : fX9_square N v_page v_pageMany v_houses v_nights v_squaresRead v_front v_down v_wishesMany v_seenMany v_worths v_kinds v_likes v_had v_plots v_row  = some ρ) (H : Heap) (locs : List Loc) (ls : Array Slot) (hw : WD D A (kwX9_square cI cZ cG q q_page q_worths q_kinds q_likes q_had q_plots q_row q_plotsThen q_rowThen q_traded q_points q_ringLong q_wishes q_order q_bestOrder q_sights q_ways q_keptKinds q_keptPlots q_keptRow q_keptHad q_keptWishes q_keptSights v_pageMany v_houses v_nights v_squaresRead v_front v_down v_frontThen v_downThen v_ringsMany v_wishesMany v_ordersDone v_seenMany v_seedNow v_keptSquare v_keptFront v_keptDown v_keptNights v_keptWishesMany v_keptSeen v_hash v_page v_worths v_kinds v_likes v_had v_plots v_row) s.heap H locs) (hl : lv_has ls 2 [(0, .ref q)]) : W p l e R s m args below meth c H locs cells slots Q (F0 m 0 ls []) := by
  have hx := X.1.1
  have hb := X.1.2.1
  unfold fX9_square at h
  refine lv_aload_n hx hb dX9_square_0 rfl (lv_at hl 0 rfl) ?_
  refine kget (ci := 9) (v := .int v_pageMany) X hw iX9 0 rfl rfl 1 (by decide) tw_600 rfl dX9_square_1 ?_
  refine lv_bipush (v := (18 : Int32)) hx hb dX9_square_4 (by decide) ?_
  refine lv_icmp_lt (tgt := 29) hx hb dX9_square_6 (by decide) (fun c_6 => ?_) (fun c_6 => ?_)
  · have h := ift c_6 h
    refine lv_bipush (v := (-103 : Int32)) hx hb dX9_square_29 (by decide) ?_
    obtain rfl := Option.some.inj h
    exact ret _ _ _ _ dX9_square_31 hw
  · have h := iff_ c_6 h
    refine lv_aload_n hx hb dX9_square_9 rfl (lv_at hl 0 rfl) ?_
    refine kget (ci := 9) (v := .int v_pageMany) X hw iX9 0 rfl rfl 1 (by decide) tw_600 rfl dX9_square_10 ?_
    refine lv_iconst (v := (3 : Int32)) hx hb dX9_square_13 (by decide) ?_
    refine lv_irem hx hb dX9_square_14 (by decide) ?_
    refine lv_if_ne (tgt := 29) hx hb dX9_square_15 (by decide) (fun c_15 => ?_) (fun c_15 => ?_)
    · have h := iff_ c_15 h
      refine lv_bipush (v := (-103 : Int32)) hx hb dX9_square_29 (by decide) ?_
      obtain rfl := Option.some.inj h
      exact ret _ _ _ _ dX9_square_31 hw
    · have h := ift c_15 h
      refine lv_aload_n hx hb dX9_square_18 rfl (lv_at hl 0 rfl) ?_
      obtain ⟨x_19, hc_19, h⟩ := obd h
      refine ksV_i (ws2 := (kwX9_square cI cZ cG q q_page q_worths q_kinds q_likes q_had q_plots q_row q_plotsThen q_rowThen q_traded q_points q_ringLong q_wishes q_order q_bestOrder q_sights q_ways q_keptKinds q_keptPlots q_keptRow q_keptHad q_keptWishes q_keptSights v_pageMany v_houses v_nights v_squaresRead v_front v_down v_frontThen v_downThen v_ringsMany v_wishesMany v_ordersDone v_seenMany v_seedNow v_keptSquare v_keptFront v_keptDown v_keptNights v_keptWishesMany v_keptSeen v_hash v_page v_worths v_kinds v_likes v_had v_plots v_row)) (nW := 8) (ci := 9) (As := []) (rest := []) X hw rfl rfl rfl (cX9_faultOf_ct l D cI cZ cG q q_page q_worths q_kinds q_likes q_had q_plots q_row q_plotsThen q_rowThen q_traded q_points q_ringLong q_wishes q_order q_bestOrder q_sights q_ways q_keptKinds q_keptPlots q_keptRow q_keptHad q_keptWishes q_keptSights v_pageMany v_houses v_nights v_squaresRead v_front v_down v_frontThen v_downThen v_ringsMany v_wishesMany v_ordersDone v_seenMany v_seedNow v_keptSquare v_keptFront v_keptDown v_keptNights v_keptWishesMany v_keptSeen v_hash v_page N x_19 hc_19 H.size) mX9_faultOf tw_621 (hrm.call (by decide) (by decide)) [0, 1] rfl (by decide) rfl (by decide) rfl ⟨rfl, ⟨rfl, ⟨rfl, ⟨rfl, ⟨rfl, ⟨rfl, trivial⟩⟩⟩⟩⟩⟩ rfl hl.1 rfl (Nat.le_of_ble_eq_true rfl) dX9_square_19 ⟨hrm.2.2.1, hrm.2.2.2⟩ (fun H locs hw => ?_)
      refine lv_aload_n hx hb dX9_square_22 rfl (lv_at hl 0 rfl) ?_
      refine kget (ci := 9) (v := .int v_pageMany) X hw iX9 0 rfl rfl 1 (by decide) tw_600 rfl dX9_square_23 ?_
      refine lv_icmp_ge (tgt := 32) hx hb dX9_square_26 (by decide) (fun c_26 => ?_) (fun c_26 => ?_)
      · have h := ift c_26 h
        refine lv_aload_n hx hb dX9_square_32 rfl (lv_at hl 0 rfl) ?_
        refine lv_aload_n hx hb dX9_square_33 rfl (lv_at hl 0 rfl) ?_
        refine kget (ci := 9) (v := .int v_pageMany) X hw iX9 0 rfl rfl 1 (by decide) tw_600 rfl dX9_square_34 ?_
        refine lv_bipush (v := (12 : Int32)) hx hb dX9_square_37 (by decide) ?_
        refine lv_isub hx hb dX9_square_39 ?_
        refine lv_iconst (v := (3 : Int32)) hx hb dX9_square_40 (by decide) ?_
        refine lv_idiv hx hb dX9_square_41 (by decide) ?_
        refine kput (ci := 9) (v := .int ((v_pageMany - (12 : Int32)) / (3 : Int32))) (ty := .int) X hw iX9 tyX9_ok nmX9 0 rfl rfl 2 (by decide) tw_625 rfl rfl rfl rfl (Nat.le_of_ble_eq_true rfl) dX9_square_42 (fun H locs hw => ?_)
        have hw : WD D A (kwX9_square cI cZ cG q q_page q_worths q_kinds q_likes q_had q_plots q_row q_plotsThen q_rowThen q_traded q_points q_ringLong q_wishes q_order q_bestOrder q_sights q_ways q_keptKinds q_keptPlots q_keptRow q_keptHad q_keptWishes q_keptSights v_pageMany ((v_pageMany - (12 : Int32)) / (3 : Int32)) v_nights v_squaresRead v_front v_down v_frontThen v_downThen v_ringsMany v_wishesMany v_ordersDone v_seenMany v_seedNow v_keptSquare v_keptFront v_keptDown v_keptNights v_keptWishesMany v_keptSeen v_hash v_page v_worths v_kinds v_likes v_had v_plots v_row) s.heap H locs := hw
        refine lv_iconst (v := (0 : Int32)) hx hb dX9_square_45 (by decide) ?_
        refine lv_istore_n (lv' := [(1, .int (0 : Int32)), (0, .ref q)]) hx hb dX9_square_46 rfl hl (by decide) rfl (fun ls hl => ?_)
        exact wX9_square_47 X hrm ret  _ _ h _ _ _ hw (lv_sub hl [1, 0] rfl)
      · have h := iff_ c_26 h
        refine lv_bipush (v := (-103 : Int32)) hx hb dX9_square_29 (by decide) ?_
        obtain rfl := Option.some.inj h
        exact ret _ _ _ _ dX9_square_31 hw
set_option maxHeartbeats 4000000 in
set_option maxRecDepth 100000 in
theorem cX9_square_ct (l : Launch) (D : va_G) (cI cZ cG : ClassId) (q q_page q_worths q_kinds q_likes q_had q_plots q_row q_plotsThen q_rowThen q_traded q_points q_ringLong q_wishes q_order q_bestOrder q_sights q_ways q_keptKinds q_keptPlots q_keptRow q_keptHad q_keptWishes q_keptSights : Nat)  (v_pageMany : Int32) (v_houses : Int32) (v_nights : Int32) (v_squaresRead : Int32) (v_front : Int32) (v_down : Int32) (v_frontThen : Int32) (v_downThen : Int32) (v_ringsMany : Int32) (v_wishesMany : Int32) (v_ordersDone : Int32) (v_seenMany : Int32) (v_seedNow : Int32) (v_keptSquare : Int32) (v_keptFront : Int32) (v_keptDown : Int32) (v_keptNights : Int32) (v_keptWishesMany : Int32) (v_keptSeen : Int32) (v_hash : Int64) (v_page : (Nat → Int32)) (v_worths : (Nat → Int32)) (v_kinds : (Nat → Int32)) (v_likes : (Nat → Int32)) (v_had : (Nat → Int32)) (v_plots : (Nat → Int32)) (v_row : (Nat → Int32))  (N : Nat) (ρ : Int32 × Int32 × Int32 × Int32 × Int32 × Int32 × Int32 × Int32 × Int32 × (Nat → Int32) × (Nat → Int32) × (Nat → Int32) × (Nat → Int32) × (Nat → Int32) × (Nat → Int32)) (h : fX9_square N v_page v_pageMany v_houses v_nights v_squaresRead v_front v_down v_wishesMany v_seenMany v_worths v_kinds v_likes v_had v_plots v_row  = some ρ) (sz : Nat) : Met l yX9_square (wz yX9_square cX9_square 2 (some .int)) (cRm 3 67) (cPre D (TY cI cZ cG) [.ref q] (kwX9_square cI cZ cG q q_page q_worths q_kinds q_likes q_had q_plots q_row q_plotsThen q_rowThen q_traded q_points q_ringLong q_wishes q_order q_bestOrder q_sights q_ways q_keptKinds q_keptPlots q_keptRow q_keptHad q_keptWishes q_keptSights v_pageMany v_houses v_nights v_squaresRead v_front v_down v_frontThen v_downThen v_ringsMany v_wishesMany v_ordersDone v_seenMany v_seedNow v_keptSquare v_keptFront v_keptDown v_keptNights v_keptWishesMany v_keptSeen v_hash v_page v_worths v_kinds v_likes v_had v_plots v_row) sz) (cQi D (ρ.1) (kwX9_square cI cZ cG q q_page q_worths q_kinds q_likes q_had q_plots q_row q_plotsThen q_rowThen q_traded q_points q_ringLong q_wishes q_order q_bestOrder q_sights q_ways q_keptKinds q_keptPlots q_keptRow q_keptHad q_keptWishes q_keptSights v_pageMany v_houses v_nights v_squaresRead v_front v_down v_frontThen v_downThen v_ringsMany v_wishesMany v_ordersDone v_seenMany v_seedNow v_keptSquare v_keptFront v_keptDown v_keptNights v_keptWishesMany v_keptSeen v_hash v_page v_worths v_kinds v_likes v_had v_plots v_row) (kwX9_square cI cZ cG q q_page q_worths q_kinds q_likes q_had q_plots q_row q_plotsThen q_rowThen q_traded q_points q_ringLong q_wishes q_order q_bestOrder q_sights q_ways q_keptKinds q_keptPlots q_keptRow q_keptHad q_keptWishes q_keptSights (ρ.2.1) (ρ.2.2.1) (ρ.2.2.2.1) (ρ.2.2.2.2.1) (ρ.2.2.2.2.2.1) (ρ.2.2.2.2.2.2.1) v_frontThen v_downThen v_ringsMany (ρ.2.2.2.2.2.2.2.1) v_ordersDone (ρ.2.2.2.2.2.2.2.2.1) v_seedNow v_keptSquare v_keptFront v_keptDown v_keptNights v_keptWishesMany v_keptSeen v_hash v_page (ρ.2.2.2.2.2.2.2.2.2.1) (ρ.2.2.2.2.2.2.2.2.2.2.1) (ρ.2.2.2.2.2.2.2.2.2.2.2.1) (ρ.2.2.2.2.2.2.2.2.2.2.2.2.1) (ρ.2.2.2.2.2.2.2.2.2.2.2.2.2.1) (ρ.2.2.2.2.2.2.2.2.2.2.2.2.2.2)) sz) 0 0 (va_A (kwX9_square cI cZ cG q q_page q_worths q_kinds q_likes q_had q_plots q_row q_plotsThen q_rowThen q_traded q_points q_ringLong q_wishes q_order q_bestOrder q_sights q_ways q_keptKinds q_keptPlots q_keptRow q_keptHad q_keptWishes q_keptSights v_pageMany v_houses v_nights v_squaresRead v_front v_down v_frontThen v_downThen v_ringsMany v_wishesMany v_ordersDone v_seenMany v_seedNow v_keptSquare v_keptFront v_keptDown v_keptNights v_keptWishesMany v_keptSeen v_hash v_page v_worths v_kinds v_likes v_had v_plots v_row) sz) :=
  mk_i (by decide) (Nat.le_of_ble_eq_true rfl) (fun X hrm ret hw hl => wX9_square X hrm ret h _ _ _ hw hl)
theorem dX9_lacks_0 : decode cX9_lacks 0 = .ok (.aload_n 0, 1) := by decide +kernel
theorem dX9_lacks_1 : decode cX9_lacks 1 = .ok (.getfield 112, 3) := by decide +kernel
theorem dX9_lacks_4 : decode cX9_lacks 4 = .ok (.ifCond .ne 7, 3) := by decide +kernel
theorem dX9_lacks_7 : decode cX9_lacks 7 = .ok (.iconst 1, 1) := by decide +kernel
theorem dX9_lacks_8 : decode cX9_lacks 8 = .ok (.goto 4, 3) := by decide +kernel
theorem dX9_lacks_11 : decode cX9_lacks 11 = .ok (.iconst 0, 1) := by decide +kernel
theorem dX9_lacks_12 : decode cX9_lacks 12 = .ok (.ireturn, 1) := by decide +kernel
abbrev kwX9_lacks (cI cZ cG : ClassId) (q q_page q_worths q_kinds q_likes q_had q_plots q_row q_plotsThen q_rowThen q_traded q_points q_ringLong q_wishes q_order q_bestOrder q_sights q_ways q_keptKinds q_keptPlots q_keptRow q_keptHad q_keptWishes q_keptSights : Nat) (v_pageMany : Int32) (v_houses : Int32) (v_nights : Int32) (v_squaresRead : Int32) (v_front : Int32) (v_down : Int32) (v_frontThen : Int32) (v_downThen : Int32) (v_ringsMany : Int32) (v_wishesMany : Int32) (v_ordersDone : Int32) (v_seenMany : Int32) (v_seedNow : Int32) (v_keptSquare : Int32) (v_keptFront : Int32) (v_keptDown : Int32) (v_keptNights : Int32) (v_keptWishesMany : Int32) (v_keptSeen : Int32) (v_hash : Int64) : va_W := [(q, .inr (9, [.ref q_page, .int v_pageMany, .int v_houses, .int v_nights, .int v_squaresRead, .ref q_worths, .ref q_kinds, .ref q_likes, .ref q_had, .ref q_plots, .ref q_row, .int v_front, .int v_down, .ref q_plotsThen, .ref q_rowThen, .int v_frontThen, .int v_downThen, .ref q_traded, .ref q_points, .int v_ringsMany, .ref q_ringLong, .int v_wishesMany, .ref q_wishes, .int v_ordersDone, .ref q_order, .ref q_bestOrder, .int v_seenMany, .ref q_sights, .ref q_ways, .int v_seedNow, .int v_keptSquare, .int v_keptFront, .int v_keptDown, .int v_keptNights, .int v_keptWishesMany, .int v_keptSeen, .ref q_keptKinds, .ref q_keptPlots, .ref q_keptRow, .ref q_keptHad, .ref q_keptWishes, .ref q_keptSights, .long v_hash]))]
noncomputable def fX9_lacks (N : Nat) (v_houses : Int32)   : Option (Int32) := if v_houses = 0 then (some (1 : Int32)) else (some (0 : Int32))
set_option maxHeartbeats 4000000 in
set_option maxRecDepth 100000 in
theorem wX9_lacks {p : Program} {l : Launch} {e : Env} {R : Room} {s : State} {m : MethodId} {args : Array Value} {below : List Frame} {meth : Method} {c : Code} {cells slots : Nat} {Q : State → Prop} {D : va_G} {A : Nat → Prop} {cI cZ cG : ClassId} {q q_page q_worths q_kinds q_likes q_had q_plots q_row q_plotsThen q_rowThen q_traded q_points q_ringLong q_wishes q_order q_bestOrder q_sights q_ways q_keptKinds q_keptPlots q_keptRow q_keptHad q_keptWishes q_keptSights : Nat} {v_pageMany : Int32} {v_houses : Int32} {v_nights : Int32} {v_squaresRead : Int32} {v_front : Int32} {v_down : Int32} {v_frontThen : Int32} {v_downThen : Int32} {v_ringsMany : Int32} {v_wishesMany : Int32} {v_ordersDone : Int32} {v_seenMany : Int32} {v_seedNow : Int32} {v_keptSquare : Int32} {v_keptFront : Int32} {v_keptDown : Int32} {v_keptNights : Int32} {v_keptWishesMany : Int32} {v_keptSeen : Int32} {v_hash : Int64} {N : Nat} {ρ : Int32} (X : CX p s m args c cX9_lacks 1 RX9 D (TY cI cZ cG) A) (hrm : RM R 0 0 cells slots) (ret : ∀ (pc : Nat) (H : Heap) (locs : List Loc) (ls : Array Slot), narrow .boolean (.int ρ) = .int ρ → decode cX9_lacks pc = .ok (.ireturn, 1) → WD D A (kwX9_lacks cI cZ cG q q_page q_worths q_kinds q_likes q_had q_plots q_row q_plotsThen q_rowThen q_traded q_points q_ringLong q_wishes q_order q_bestOrder q_sights q_ways q_keptKinds q_keptPlots q_keptRow q_keptHad q_keptWishes q_keptSights v_pageMany v_houses v_nights v_squaresRead v_front v_down v_frontThen v_downThen v_ringsMany v_wishesMany v_ordersDone v_seenMany v_seedNow v_keptSquare v_keptFront v_keptDown v_keptNights v_keptWishesMany v_keptSeen v_hash) s.heap H locs → W p l e R s m args below meth c H locs cells slots Q (F0 m pc ls [.int ρ])) (h : fX9_lacks N v_houses   = some ρ) (H : Heap) (locs : List Loc) (ls : Array Slot) (hw : WD D A (kwX9_lacks cI cZ cG q q_page q_worths q_kinds q_likes q_had q_plots q_row q_plotsThen q_rowThen q_traded q_points q_ringLong q_wishes q_order q_bestOrder q_sights q_ways q_keptKinds q_keptPlots q_keptRow q_keptHad q_keptWishes q_keptSights v_pageMany v_houses v_nights v_squaresRead v_front v_down v_frontThen v_downThen v_ringsMany v_wishesMany v_ordersDone v_seenMany v_seedNow v_keptSquare v_keptFront v_keptDown v_keptNights v_keptWishesMany v_keptSeen v_hash) s.heap H locs) (hl : lv_has ls 1 [(0, .ref q)]) : W p l e R s m args below meth c H locs cells slots Q (F0 m 0 ls []) := by
  have hx := X.1.1
  have hb := X.1.2.1
  unfold fX9_lacks at h
  refine lv_aload_n hx hb dX9_lacks_0 rfl (lv_at hl 0 rfl) ?_
  refine kget (ci := 9) (v := .int v_houses) X hw iX9 0 rfl rfl 2 (by decide) tw_625 rfl dX9_lacks_1 ?_
  refine lv_if_ne (tgt := 11) hx hb dX9_lacks_4 (by decide) (fun c_4 => ?_) (fun c_4 => ?_)
  · have h := iff_ c_4 h
    refine lv_iconst (v := (0 : Int32)) hx hb dX9_lacks_11 (by decide) ?_
    obtain rfl := Option.some.inj h
    exact ret _ _ _ _ (show narrow .boolean (.int (0 : Int32)) = .int (0 : Int32) from rfl) dX9_lacks_12 hw
  · have h := ift c_4 h
    refine lv_iconst (v := (1 : Int32)) hx hb dX9_lacks_7 (by decide) ?_
    refine lv_goto (tgt := 12) hx hb dX9_lacks_8 (by decide) ?_
    obtain rfl := Option.some.inj h
    exact ret _ _ _ _ (show narrow .boolean (.int (1 : Int32)) = .int (1 : Int32) from rfl) dX9_lacks_12 hw
set_option maxHeartbeats 4000000 in
set_option maxRecDepth 100000 in
theorem cX9_lacks_ct (l : Launch) (D : va_G) (cI cZ cG : ClassId) (q q_page q_worths q_kinds q_likes q_had q_plots q_row q_plotsThen q_rowThen q_traded q_points q_ringLong q_wishes q_order q_bestOrder q_sights q_ways q_keptKinds q_keptPlots q_keptRow q_keptHad q_keptWishes q_keptSights : Nat)  (v_pageMany : Int32) (v_houses : Int32) (v_nights : Int32) (v_squaresRead : Int32) (v_front : Int32) (v_down : Int32) (v_frontThen : Int32) (v_downThen : Int32) (v_ringsMany : Int32) (v_wishesMany : Int32) (v_ordersDone : Int32) (v_seenMany : Int32) (v_seedNow : Int32) (v_keptSquare : Int32) (v_keptFront : Int32) (v_keptDown : Int32) (v_keptNights : Int32) (v_keptWishesMany : Int32) (v_keptSeen : Int32) (v_hash : Int64)  (N : Nat) (ρ : Int32) (h : fX9_lacks N v_houses   = some ρ) (sz : Nat) : Met l yX9_lacks (wz yX9_lacks cX9_lacks 1 (some .boolean)) (cRm 0 0) (cPre D (TY cI cZ cG) [.ref q] (kwX9_lacks cI cZ cG q q_page q_worths q_kinds q_likes q_had q_plots q_row q_plotsThen q_rowThen q_traded q_points q_ringLong q_wishes q_order q_bestOrder q_sights q_ways q_keptKinds q_keptPlots q_keptRow q_keptHad q_keptWishes q_keptSights v_pageMany v_houses v_nights v_squaresRead v_front v_down v_frontThen v_downThen v_ringsMany v_wishesMany v_ordersDone v_seenMany v_seedNow v_keptSquare v_keptFront v_keptDown v_keptNights v_keptWishesMany v_keptSeen v_hash) sz) (cQi D (ρ) (kwX9_lacks cI cZ cG q q_page q_worths q_kinds q_likes q_had q_plots q_row q_plotsThen q_rowThen q_traded q_points q_ringLong q_wishes q_order q_bestOrder q_sights q_ways q_keptKinds q_keptPlots q_keptRow q_keptHad q_keptWishes q_keptSights v_pageMany v_houses v_nights v_squaresRead v_front v_down v_frontThen v_downThen v_ringsMany v_wishesMany v_ordersDone v_seenMany v_seedNow v_keptSquare v_keptFront v_keptDown v_keptNights v_keptWishesMany v_keptSeen v_hash) (kwX9_lacks cI cZ cG q q_page q_worths q_kinds q_likes q_had q_plots q_row q_plotsThen q_rowThen q_traded q_points q_ringLong q_wishes q_order q_bestOrder q_sights q_ways q_keptKinds q_keptPlots q_keptRow q_keptHad q_keptWishes q_keptSights v_pageMany v_houses v_nights v_squaresRead v_front v_down v_frontThen v_downThen v_ringsMany v_wishesMany v_ordersDone v_seenMany v_seedNow v_keptSquare v_keptFront v_keptDown v_keptNights v_keptWishesMany v_keptSeen v_hash) sz) 0 0 (va_A (kwX9_lacks cI cZ cG q q_page q_worths q_kinds q_likes q_had q_plots q_row q_plotsThen q_rowThen q_traded q_points q_ringLong q_wishes q_order q_bestOrder q_sights q_ways q_keptKinds q_keptPlots q_keptRow q_keptHad q_keptWishes q_keptSights v_pageMany v_houses v_nights v_squaresRead v_front v_down v_frontThen v_downThen v_ringsMany v_wishesMany v_ordersDone v_seenMany v_seedNow v_keptSquare v_keptFront v_keptDown v_keptNights v_keptWishesMany v_keptSeen v_hash) sz) :=
  mk_z (by decide) (Nat.le_of_ble_eq_true rfl) (fun X hrm ret hw hl => wX9_lacks X hrm ret h _ _ _ hw hl)
theorem dX9_isHouse_0 : decode cX9_isHouse 0 = .ok (.iload_n 1, 1) := by decide +kernel
theorem dX9_isHouse_1 : decode cX9_isHouse 1 = .ok (.i2l, 1) := by decide +kernel
theorem dX9_isHouse_2 : decode cX9_isHouse 2 = .ok (.lconst 0, 1) := by decide +kernel
theorem dX9_isHouse_3 : decode cX9_isHouse 3 = .ok (.aload_n 0, 1) := by decide +kernel
theorem dX9_isHouse_4 : decode cX9_isHouse 4 = .ok (.getfield 112, 3) := by decide +kernel
theorem dX9_isHouse_7 : decode cX9_isHouse 7 = .ok (.iconst 1, 1) := by decide +kernel
theorem dX9_isHouse_8 : decode cX9_isHouse 8 = .ok (.isub, 1) := by decide +kernel
theorem dX9_isHouse_9 : decode cX9_isHouse 9 = .ok (.i2l, 1) := by decide +kernel
theorem dX9_isHouse_10 : decode cX9_isHouse 10 = .ok (.invokestatic 85, 3) := by decide +kernel
theorem dX9_isHouse_13 : decode cX9_isHouse 13 = .ok (.ireturn, 1) := by decide +kernel
abbrev kwX9_isHouse (cI cZ cG : ClassId) (q q_page q_worths q_kinds q_likes q_had q_plots q_row q_plotsThen q_rowThen q_traded q_points q_ringLong q_wishes q_order q_bestOrder q_sights q_ways q_keptKinds q_keptPlots q_keptRow q_keptHad q_keptWishes q_keptSights : Nat) (v_pageMany : Int32) (v_houses : Int32) (v_nights : Int32) (v_squaresRead : Int32) (v_front : Int32) (v_down : Int32) (v_frontThen : Int32) (v_downThen : Int32) (v_ringsMany : Int32) (v_wishesMany : Int32) (v_ordersDone : Int32) (v_seenMany : Int32) (v_seedNow : Int32) (v_keptSquare : Int32) (v_keptFront : Int32) (v_keptDown : Int32) (v_keptNights : Int32) (v_keptWishesMany : Int32) (v_keptSeen : Int32) (v_hash : Int64) : va_W := [(q, .inr (9, [.ref q_page, .int v_pageMany, .int v_houses, .int v_nights, .int v_squaresRead, .ref q_worths, .ref q_kinds, .ref q_likes, .ref q_had, .ref q_plots, .ref q_row, .int v_front, .int v_down, .ref q_plotsThen, .ref q_rowThen, .int v_frontThen, .int v_downThen, .ref q_traded, .ref q_points, .int v_ringsMany, .ref q_ringLong, .int v_wishesMany, .ref q_wishes, .int v_ordersDone, .ref q_order, .ref q_bestOrder, .int v_seenMany, .ref q_sights, .ref q_ways, .int v_seedNow, .int v_keptSquare, .int v_keptFront, .int v_keptDown, .int v_keptNights, .int v_keptWishesMany, .int v_keptSeen, .ref q_keptKinds, .ref q_keptPlots, .ref q_keptRow, .ref q_keptHad, .ref q_keptWishes, .ref q_keptSights, .long v_hash]))]
noncomputable def fX9_isHouse (N : Nat) (v_houses : Int32) (a1 : Int32)   : Option (Int32) := (fX9_in N ((a1).toInt64) (0 : Int64) (((v_houses - (1 : Int32))).toInt64)).bind (fun x_10 => if ¬ (x_10 = 0 ∨ x_10 = 1) then none else (some x_10))
set_option maxHeartbeats 4000000 in
set_option maxRecDepth 100000 in
theorem wX9_isHouse {p : Program} {l : Launch} {e : Env} {R : Room} {s : State} {m : MethodId} {args : Array Value} {below : List Frame} {meth : Method} {c : Code} {cells slots : Nat} {Q : State → Prop} {D : va_G} {A : Nat → Prop} {cI cZ cG : ClassId} {q q_page q_worths q_kinds q_likes q_had q_plots q_row q_plotsThen q_rowThen q_traded q_points q_ringLong q_wishes q_order q_bestOrder q_sights q_ways q_keptKinds q_keptPlots q_keptRow q_keptHad q_keptWishes q_keptSights : Nat} {v_pageMany : Int32} {v_houses : Int32} {v_nights : Int32} {v_squaresRead : Int32} {v_front : Int32} {v_down : Int32} {v_frontThen : Int32} {v_downThen : Int32} {v_ringsMany : Int32} {v_wishesMany : Int32} {v_ordersDone : Int32} {v_seenMany : Int32} {v_seedNow : Int32} {v_keptSquare : Int32} {v_keptFront : Int32} {v_keptDown : Int32} {v_keptNights : Int32} {v_keptWishesMany : Int32} {v_keptSeen : Int32} {v_hash : Int64} {a1 : Int32} {N : Nat} {ρ : Int32} (X : CX p s m args c cX9_isHouse 2 RX9 D (TY cI cZ cG) A) (hrm : RM R 1 25 cells slots) (ret : ∀ (pc : Nat) (H : Heap) (locs : List Loc) (ls : Array Slot), narrow .boolean (.int ρ) = .int ρ → decode cX9_isHouse pc = .ok (.ireturn, 1) → WD D A (kwX9_isHouse cI cZ cG q q_page q_worths q_kinds q_likes q_had q_plots q_row q_plotsThen q_rowThen q_traded q_points q_ringLong q_wishes q_order q_bestOrder q_sights q_ways q_keptKinds q_keptPlots q_keptRow q_keptHad q_keptWishes q_keptSights v_pageMany v_houses v_nights v_squaresRead v_front v_down v_frontThen v_downThen v_ringsMany v_wishesMany v_ordersDone v_seenMany v_seedNow v_keptSquare v_keptFront v_keptDown v_keptNights v_keptWishesMany v_keptSeen v_hash) s.heap H locs → W p l e R s m args below meth c H locs cells slots Q (F0 m pc ls [.int ρ])) (h : fX9_isHouse N v_houses a1   = some ρ) (H : Heap) (locs : List Loc) (ls : Array Slot) (hw : WD D A (kwX9_isHouse cI cZ cG q q_page q_worths q_kinds q_likes q_had q_plots q_row q_plotsThen q_rowThen q_traded q_points q_ringLong q_wishes q_order q_bestOrder q_sights q_ways q_keptKinds q_keptPlots q_keptRow q_keptHad q_keptWishes q_keptSights v_pageMany v_houses v_nights v_squaresRead v_front v_down v_frontThen v_downThen v_ringsMany v_wishesMany v_ordersDone v_seenMany v_seedNow v_keptSquare v_keptFront v_keptDown v_keptNights v_keptWishesMany v_keptSeen v_hash) s.heap H locs) (hl : lv_has ls 2 [(0, .ref q), (1, .int a1)]) : W p l e R s m args below meth c H locs cells slots Q (F0 m 0 ls []) := by
  have hx := X.1.1
  have hb := X.1.2.1
  unfold fX9_isHouse at h
  refine lv_iload_n hx hb dX9_isHouse_0 rfl (lv_at hl 1 rfl) ?_
  refine lv_i2l (v := ((a1).toInt64)) hx hb dX9_isHouse_1 rfl ?_
  refine lv_lconst (v := 0) hx hb dX9_isHouse_2 (by decide) ?_
  refine lv_aload_n hx hb dX9_isHouse_3 rfl (lv_at hl 0 rfl) ?_
  refine kget (ci := 9) (v := .int v_houses) X hw iX9 0 rfl rfl 2 (by decide) tw_625 rfl dX9_isHouse_4 ?_
  refine lv_iconst (v := (1 : Int32)) hx hb dX9_isHouse_7 (by decide) ?_
  refine lv_isub hx hb dX9_isHouse_8 ?_
  refine lv_i2l (v := (((v_houses - (1 : Int32))).toInt64)) hx hb dX9_isHouse_9 rfl ?_
  obtain ⟨x_10, hc_10, h⟩ := obd h
  refine ksS_i (ws2 := (kwX9_isHouse cI cZ cG q q_page q_worths q_kinds q_likes q_had q_plots q_row q_plotsThen q_rowThen q_traded q_points q_ringLong q_wishes q_order q_bestOrder q_sights q_ways q_keptKinds q_keptPlots q_keptRow q_keptHad q_keptWishes q_keptSights v_pageMany v_houses v_nights v_squaresRead v_front v_down v_frontThen v_downThen v_ringsMany v_wishesMany v_ordersDone v_seenMany v_seedNow v_keptSquare v_keptFront v_keptDown v_keptNights v_keptWishesMany v_keptSeen v_hash)) (nW := 1) (As := [.long ((a1).toInt64), .long (0 : Int64), .long (((v_houses - (1 : Int32))).toInt64)]) (rest := []) X hw (cX9_in_ct l D cI cZ cG ((a1).toInt64) (0 : Int64) (((v_houses - (1 : Int32))).toInt64) N x_10 hc_10 H.size) mX9_in tw_599 (hrm.call (by decide) (by decide)) [] rfl (by decide) rfl (by decide) rfl ⟨rfl, trivial⟩ rfl hl.1 rfl (Nat.le_of_ble_eq_true rfl) dX9_isHouse_10 ⟨hrm.2.2.1, hrm.2.2.2⟩ (fun H locs hw => ?_)
  obtain ⟨g_13, h⟩ := gd h
  obtain rfl := Option.some.inj h
  exact ret _ _ _ _ (nz01 g_13) dX9_isHouse_13 hw
set_option maxHeartbeats 4000000 in
set_option maxRecDepth 100000 in
theorem cX9_isHouse_ct (l : Launch) (D : va_G) (cI cZ cG : ClassId) (q q_page q_worths q_kinds q_likes q_had q_plots q_row q_plotsThen q_rowThen q_traded q_points q_ringLong q_wishes q_order q_bestOrder q_sights q_ways q_keptKinds q_keptPlots q_keptRow q_keptHad q_keptWishes q_keptSights : Nat)  (v_pageMany : Int32) (v_houses : Int32) (v_nights : Int32) (v_squaresRead : Int32) (v_front : Int32) (v_down : Int32) (v_frontThen : Int32) (v_downThen : Int32) (v_ringsMany : Int32) (v_wishesMany : Int32) (v_ordersDone : Int32) (v_seenMany : Int32) (v_seedNow : Int32) (v_keptSquare : Int32) (v_keptFront : Int32) (v_keptDown : Int32) (v_keptNights : Int32) (v_keptWishesMany : Int32) (v_keptSeen : Int32) (v_hash : Int64) (a1 : Int32) (N : Nat) (ρ : Int32) (h : fX9_isHouse N v_houses a1   = some ρ) (sz : Nat) : Met l yX9_isHouse (wz yX9_isHouse cX9_isHouse 2 (some .boolean)) (cRm 1 25) (cPre D (TY cI cZ cG) [.ref q, .int a1] (kwX9_isHouse cI cZ cG q q_page q_worths q_kinds q_likes q_had q_plots q_row q_plotsThen q_rowThen q_traded q_points q_ringLong q_wishes q_order q_bestOrder q_sights q_ways q_keptKinds q_keptPlots q_keptRow q_keptHad q_keptWishes q_keptSights v_pageMany v_houses v_nights v_squaresRead v_front v_down v_frontThen v_downThen v_ringsMany v_wishesMany v_ordersDone v_seenMany v_seedNow v_keptSquare v_keptFront v_keptDown v_keptNights v_keptWishesMany v_keptSeen v_hash) sz) (cQi D (ρ) (kwX9_isHouse cI cZ cG q q_page q_worths q_kinds q_likes q_had q_plots q_row q_plotsThen q_rowThen q_traded q_points q_ringLong q_wishes q_order q_bestOrder q_sights q_ways q_keptKinds q_keptPlots q_keptRow q_keptHad q_keptWishes q_keptSights v_pageMany v_houses v_nights v_squaresRead v_front v_down v_frontThen v_downThen v_ringsMany v_wishesMany v_ordersDone v_seenMany v_seedNow v_keptSquare v_keptFront v_keptDown v_keptNights v_keptWishesMany v_keptSeen v_hash) (kwX9_isHouse cI cZ cG q q_page q_worths q_kinds q_likes q_had q_plots q_row q_plotsThen q_rowThen q_traded q_points q_ringLong q_wishes q_order q_bestOrder q_sights q_ways q_keptKinds q_keptPlots q_keptRow q_keptHad q_keptWishes q_keptSights v_pageMany v_houses v_nights v_squaresRead v_front v_down v_frontThen v_downThen v_ringsMany v_wishesMany v_ordersDone v_seenMany v_seedNow v_keptSquare v_keptFront v_keptDown v_keptNights v_keptWishesMany v_keptSeen v_hash) sz) 0 0 (va_A (kwX9_isHouse cI cZ cG q q_page q_worths q_kinds q_likes q_had q_plots q_row q_plotsThen q_rowThen q_traded q_points q_ringLong q_wishes q_order q_bestOrder q_sights q_ways q_keptKinds q_keptPlots q_keptRow q_keptHad q_keptWishes q_keptSights v_pageMany v_houses v_nights v_squaresRead v_front v_down v_frontThen v_downThen v_ringsMany v_wishesMany v_ordersDone v_seenMany v_seedNow v_keptSquare v_keptFront v_keptDown v_keptNights v_keptWishesMany v_keptSeen v_hash) sz) :=
  mk_z (by decide) (Nat.le_of_ble_eq_true rfl) (fun X hrm ret hw hl => wX9_isHouse X hrm ret h _ _ _ hw hl)
