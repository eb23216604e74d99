theorem dX1_seenAlike_0 : decode cX1_seenAlike 0 = .ok (.iconst 0, 1) := by decide +kernel
theorem dX1_seenAlike_1 : decode cX1_seenAlike 1 = .ok (.istore 4, 2) := by decide +kernel
theorem dX1_seenAlike_3 : decode cX1_seenAlike 3 = .ok (.iconst 0, 1) := by decide +kernel
theorem dX1_seenAlike_4 : decode cX1_seenAlike 4 = .ok (.istore 5, 2) := by decide +kernel
theorem dX1_seenAlike_6 : decode cX1_seenAlike 6 = .ok (.iload 5, 2) := by decide +kernel
theorem dX1_seenAlike_8 : decode cX1_seenAlike 8 = .ok (.iconst 5, 1) := by decide +kernel
theorem dX1_seenAlike_9 : decode cX1_seenAlike 9 = .ok (.if_icmp .ge 41, 3) := by decide +kernel
theorem dX1_seenAlike_12 : decode cX1_seenAlike 12 = .ok (.iload_n 1, 1) := by decide +kernel
theorem dX1_seenAlike_13 : decode cX1_seenAlike 13 = .ok (.iload 5, 2) := by decide +kernel
theorem dX1_seenAlike_15 : decode cX1_seenAlike 15 = .ok (.invokestatic 84, 3) := by decide +kernel
theorem dX1_seenAlike_18 : decode cX1_seenAlike 18 = .ok (.ifCond .eq 26, 3) := by decide +kernel
theorem dX1_seenAlike_21 : decode cX1_seenAlike 21 = .ok (.aload_n 0, 1) := by decide +kernel
theorem dX1_seenAlike_22 : decode cX1_seenAlike 22 = .ok (.getfield 11, 3) := by decide +kernel
theorem dX1_seenAlike_25 : decode cX1_seenAlike 25 = .ok (.iload 5, 2) := by decide +kernel
theorem dX1_seenAlike_27 : decode cX1_seenAlike 27 = .ok (.aaload, 1) := by decide +kernel
theorem dX1_seenAlike_28 : decode cX1_seenAlike 28 = .ok (.iload_n 3, 1) := by decide +kernel
theorem dX1_seenAlike_29 : decode cX1_seenAlike 29 = .ok (.iaload, 1) := by decide +kernel
theorem dX1_seenAlike_30 : decode cX1_seenAlike 30 = .ok (.aload_n 0, 1) := by decide +kernel
theorem dX1_seenAlike_31 : decode cX1_seenAlike 31 = .ok (.getfield 11, 3) := by decide +kernel
theorem dX1_seenAlike_34 : decode cX1_seenAlike 34 = .ok (.iload_n 2, 1) := by decide +kernel
theorem dX1_seenAlike_35 : decode cX1_seenAlike 35 = .ok (.aaload, 1) := by decide +kernel
theorem dX1_seenAlike_36 : decode cX1_seenAlike 36 = .ok (.iload_n 3, 1) := by decide +kernel
theorem dX1_seenAlike_37 : decode cX1_seenAlike 37 = .ok (.iaload, 1) := by decide +kernel
theorem dX1_seenAlike_38 : decode cX1_seenAlike 38 = .ok (.if_icmp .ne 6, 3) := by decide +kernel
theorem dX1_seenAlike_41 : decode cX1_seenAlike 41 = .ok (.iinc 4 1, 3) := by decide +kernel
theorem dX1_seenAlike_44 : decode cX1_seenAlike 44 = .ok (.iinc 5 1, 3) := by decide +kernel
theorem dX1_seenAlike_47 : decode cX1_seenAlike 47 = .ok (.goto (-41), 3) := by decide +kernel
theorem dX1_seenAlike_50 : decode cX1_seenAlike 50 = .ok (.iload 4, 2) := by decide +kernel
theorem dX1_seenAlike_52 : decode cX1_seenAlike 52 = .ok (.ireturn, 1) := by decide +kernel
abbrev kwX1_seenAlike (cI cZ cG : ClassId) (q q_track q_town q_track_0 q_track_1 q_track_2 q_track_3 q_track_4 : Nat) (v_track_0 : (Nat → Int32)) (v_track_1 : (Nat → Int32)) (v_track_2 : (Nat → Int32)) (v_track_3 : (Nat → Int32)) (v_track_4 : (Nat → Int32)) : va_W := [(q, .inr (1, [.ref q_track, .ref q_town])), (q_track, .inl (cG, 5, .inr (.inr (.inr (.inr (fun i => if i = 0 then some q_track_0 else if i = 1 then some q_track_1 else if i = 2 then some q_track_2 else if i = 3 then some q_track_3 else if i = 4 then some q_track_4 else none)))))), (q_track_0, .inl (cI, 41, .inl v_track_0)), (q_track_1, .inl (cI, 41, .inl v_track_1)), (q_track_2, .inl (cI, 41, .inl v_track_2)), (q_track_3, .inl (cI, 41, .inl v_track_3)), (q_track_4, .inl (cI, 41, .inl v_track_4))]
noncomputable def fX1_seenAlike_6 (N : Nat) (v_track_0 : (Nat → Int32)) (v_track_1 : (Nat → Int32)) (v_track_2 : (Nat → Int32)) (v_track_3 : (Nat → Int32)) (v_track_4 : (Nat → Int32)) (a1 : Int32) (a2 : Int32) (a3 : Int32)  (K_6 : Int32 → Int32 → Option (Int32)) (l4 : Int32) (l5 : Int32) : Option (Int32) := if (5 : Int32) ≤ l5 then (some l4) else ((fX1_has N a1 l5).bind (fun x_15 => if x_15 = 0 then (K_6 l4 (l5 + (1 : Int32))) else (if l5 < 0 ∨ 5 ≤ (l5).toNatClampNeg then none else (if l5 = (0 : Int32) then (if a3 < 0 ∨ 41 ≤ (a3).toNatClampNeg then none else (if a2 < 0 ∨ 5 ≤ (a2).toNatClampNeg then none else (if a2 = (0 : Int32) then (if a3 < 0 ∨ 41 ≤ (a3).toNatClampNeg then none else (if (v_track_0 (a3).toNatClampNeg) = (v_track_0 (a3).toNatClampNeg) then (K_6 (l4 + (1 : Int32)) (l5 + (1 : Int32))) else (K_6 l4 (l5 + (1 : Int32))))) else (if a2 = (1 : Int32) then (if a3 < 0 ∨ 41 ≤ (a3).toNatClampNeg then none else (if (v_track_0 (a3).toNatClampNeg) = (v_track_1 (a3).toNatClampNeg) then (K_6 (l4 + (1 : Int32)) (l5 + (1 : Int32))) else (K_6 l4 (l5 + (1 : Int32))))) else (if a2 = (2 : Int32) then (if a3 < 0 ∨ 41 ≤ (a3).toNatClampNeg then none else (if (v_track_0 (a3).toNatClampNeg) = (v_track_2 (a3).toNatClampNeg) then (K_6 (l4 + (1 : Int32)) (l5 + (1 : Int32))) else (K_6 l4 (l5 + (1 : Int32))))) else (if a2 = (3 : Int32) then (if a3 < 0 ∨ 41 ≤ (a3).toNatClampNeg then none else (if (v_track_0 (a3).toNatClampNeg) = (v_track_3 (a3).toNatClampNeg) then (K_6 (l4 + (1 : Int32)) (l5 + (1 : Int32))) else (K_6 l4 (l5 + (1 : Int32))))) else (if a2 = (4 : Int32) then (if a3 < 0 ∨ 41 ≤ (a3).toNatClampNeg then none else (if (v_track_0 (a3).toNatClampNeg) = (v_track_4 (a3).toNatClampNeg) then (K_6 (l4 + (1 : Int32)) (l5 + (1 : Int32))) else (K_6 l4 (l5 + (1 : Int32))))) else (none)))))))) else (if l5 = (1 : Int32) then (if a3 < 0 ∨ 41 ≤ (a3).toNatClampNeg then none else (if a2 < 0 ∨ 5 ≤ (a2).toNatClampNeg then none else (if a2 = (0 : Int32) then (if a3 < 0 ∨ 41 ≤ (a3).toNatClampNeg then none else (if (v_track_1 (a3).toNatClampNeg) = (v_track_0 (a3).toNatClampNeg) then (K_6 (l4 + (1 : Int32)) (l5 + (1 : Int32))) else (K_6 l4 (l5 + (1 : Int32))))) else (if a2 = (1 : Int32) then (if a3 < 0 ∨ 41 ≤ (a3).toNatClampNeg then none else (if (v_track_1 (a3).toNatClampNeg) = (v_track_1 (a3).toNatClampNeg) then (K_6 (l4 + (1 : Int32)) (l5 + (1 : Int32))) else (K_6 l4 (l5 + (1 : Int32))))) else (if a2 = (2 : Int32) then (if a3 < 0 ∨ 41 ≤ (a3).toNatClampNeg then none else (if (v_track_1 (a3).toNatClampNeg) = (v_track_2 (a3).toNatClampNeg) then (K_6 (l4 + (1 : Int32)) (l5 + (1 : Int32))) else (K_6 l4 (l5 + (1 : Int32))))) else (if a2 = (3 : Int32) then (if a3 < 0 ∨ 41 ≤ (a3).toNatClampNeg then none else (if (v_track_1 (a3).toNatClampNeg) = (v_track_3 (a3).toNatClampNeg) then (K_6 (l4 + (1 : Int32)) (l5 + (1 : Int32))) else (K_6 l4 (l5 + (1 : Int32))))) else (if a2 = (4 : Int32) then (if a3 < 0 ∨ 41 ≤ (a3).toNatClampNeg then none else (if (v_track_1 (a3).toNatClampNeg) = (v_track_4 (a3).toNatClampNeg) then (K_6 (l4 + (1 : Int32)) (l5 + (1 : Int32))) else (K_6 l4 (l5 + (1 : Int32))))) else (none)))))))) else (if l5 = (2 : Int32) then (if a3 < 0 ∨ 41 ≤ (a3).toNatClampNeg then none else (if a2 < 0 ∨ 5 ≤ (a2).toNatClampNeg then none else (if a2 = (0 : Int32) then (if a3 < 0 ∨ 41 ≤ (a3).toNatClampNeg then none else (if (v_track_2 (a3).toNatClampNeg) = (v_track_0 (a3).toNatClampNeg) then (K_6 (l4 + (1 : Int32)) (l5 + (1 : Int32))) else (K_6 l4 (l5 + (1 : Int32))))) else (if a2 = (1 : Int32) then (if a3 < 0 ∨ 41 ≤ (a3).toNatClampNeg then none else (if (v_track_2 (a3).toNatClampNeg) = (v_track_1 (a3).toNatClampNeg) then (K_6 (l4 + (1 : Int32)) (l5 + (1 : Int32))) else (K_6 l4 (l5 + (1 : Int32))))) else (if a2 = (2 : Int32) then (if a3 < 0 ∨ 41 ≤ (a3).toNatClampNeg then none else (if (v_track_2 (a3).toNatClampNeg) = (v_track_2 (a3).toNatClampNeg) then (K_6 (l4 + (1 : Int32)) (l5 + (1 : Int32))) else (K_6 l4 (l5 + (1 : Int32))))) else (if a2 = (3 : Int32) then (if a3 < 0 ∨ 41 ≤ (a3).toNatClampNeg then none else (if (v_track_2 (a3).toNatClampNeg) = (v_track_3 (a3).toNatClampNeg) then (K_6 (l4 + (1 : Int32)) (l5 + (1 : Int32))) else (K_6 l4 (l5 + (1 : Int32))))) else (if a2 = (4 : Int32) then (if a3 < 0 ∨ 41 ≤ (a3).toNatClampNeg then none else (if (v_track_2 (a3).toNatClampNeg) = (v_track_4 (a3).toNatClampNeg) then (K_6 (l4 + (1 : Int32)) (l5 + (1 : Int32))) else (K_6 l4 (l5 + (1 : Int32))))) else (none)))))))) else (if l5 = (3 : Int32) then (if a3 < 0 ∨ 41 ≤ (a3).toNatClampNeg then none else (if a2 < 0 ∨ 5 ≤ (a2).toNatClampNeg then none else (if a2 = (0 : Int32) then (if a3 < 0 ∨ 41 ≤ (a3).toNatClampNeg then none else (if (v_track_3 (a3).toNatClampNeg) = (v_track_0 (a3).toNatClampNeg) then (K_6 (l4 + (1 : Int32)) (l5 + (1 : Int32))) else (K_6 l4 (l5 + (1 : Int32))))) else (if a2 = (1 : Int32) then (if a3 < 0 ∨ 41 ≤ (a3).toNatClampNeg then none else (if (v_track_3 (a3).toNatClampNeg) = (v_track_1 (a3).toNatClampNeg) then (K_6 (l4 + (1 : Int32)) (l5 + (1 : Int32))) else (K_6 l4 (l5 + (1 : Int32))))) else (if a2 = (2 : Int32) then (if a3 < 0 ∨ 41 ≤ (a3).toNatClampNeg then none else (if (v_track_3 (a3).toNatClampNeg) = (v_track_2 (a3).toNatClampNeg) then (K_6 (l4 + (1 : Int32)) (l5 + (1 : Int32))) else (K_6 l4 (l5 + (1 : Int32))))) else (if a2 = (3 : Int32) then (if a3 < 0 ∨ 41 ≤ (a3).toNatClampNeg then none else (if (v_track_3 (a3).toNatClampNeg) = (v_track_3 (a3).toNatClampNeg) then (K_6 (l4 + (1 : Int32)) (l5 + (1 : Int32))) else (K_6 l4 (l5 + (1 : Int32))))) else (if a2 = (4 : Int32) then (if a3 < 0 ∨ 41 ≤ (a3).toNatClampNeg then none else (if (v_track_3 (a3).toNatClampNeg) = (v_track_4 (a3).toNatClampNeg) then (K_6 (l4 + (1 : Int32)) (l5 + (1 : Int32))) else (K_6 l4 (l5 + (1 : Int32))))) else (none)))))))) else (if l5 = (4 : Int32) then (if a3 < 0 ∨ 41 ≤ (a3).toNatClampNeg then none else (if a2 < 0 ∨ 5 ≤ (a2).toNatClampNeg then none else (if a2 = (0 : Int32) then (if a3 < 0 ∨ 41 ≤ (a3).toNatClampNeg then none else (if (v_track_4 (a3).toNatClampNeg) = (v_track_0 (a3).toNatClampNeg) then (K_6 (l4 + (1 : Int32)) (l5 + (1 : Int32))) else (K_6 l4 (l5 + (1 : Int32))))) else (if a2 = (1 : Int32) then (if a3 < 0 ∨ 41 ≤ (a3).toNatClampNeg then none else (if (v_track_4 (a3).toNatClampNeg) = (v_track_1 (a3).toNatClampNeg) then (K_6 (l4 + (1 : Int32)) (l5 + (1 : Int32))) else (K_6 l4 (l5 + (1 : Int32))))) else (if a2 = (2 : Int32) then (if a3 < 0 ∨ 41 ≤ (a3).toNatClampNeg then none else (if (v_track_4 (a3).toNatClampNeg) = (v_track_2 (a3).toNatClampNeg) then (K_6 (l4 + (1 : Int32)) (l5 + (1 : Int32))) else (K_6 l4 (l5 + (1 : Int32))))) else (if a2 = (3 : Int32) then (if a3 < 0 ∨ 41 ≤ (a3).toNatClampNeg then none else (if (v_track_4 (a3).toNatClampNeg) = (v_track_3 (a3).toNatClampNeg) then (K_6 (l4 + (1 : Int32)) (l5 + (1 : Int32))) else (K_6 l4 (l5 + (1 : Int32))))) else (if a2 = (4 : Int32) then (if a3 < 0 ∨ 41 ≤ (a3).toNatClampNeg then none else (if (v_track_4 (a3).toNatClampNeg) = (v_track_4 (a3).toNatClampNeg) then (K_6 (l4 + (1 : Int32)) (l5 + (1 : Int32))) else (K_6 l4 (l5 + (1 : Int32))))) else (none)))))))) else (none)))))))))
noncomputable def fX1_seenAlike (N : Nat) (v_track_0 : (Nat → Int32)) (v_track_1 : (Nat → Int32)) (v_track_2 : (Nat → Int32)) (v_track_3 : (Nat → Int32)) (v_track_4 : (Nat → Int32)) (a1 : Int32) (a2 : Int32) (a3 : Int32)   : Option (Int32) := lfix (fun (K : Int32 × Int32 → Option (Int32)) (a : Int32 × Int32) => fX1_seenAlike_6 N v_track_0 v_track_1 v_track_2 v_track_3 v_track_4 a1 a2 a3 (fun (l4 : Int32) (l5 : Int32) => K (l4, l5)) a.1 a.2) N ((0 : Int32), (0 : Int32))
set_option maxHeartbeats 4000000 in
set_option maxRecDepth 100000 in
theorem wX1_seenAlike_6 {p : Program} {l : Launch} {e : Env} {R : Room} {s : State} {m : MethodId} {args : Array Value} {below : List Frame} {meth : Method} {c : Code} {cells slots : Nat} {Q : State → Prop} {D : va_G} {A : Nat → Prop} {cI cZ cG : ClassId} {q q_track q_town q_track_0 q_track_1 q_track_2 q_track_3 q_track_4 : Nat} {v_track_0 : (Nat → Int32)} {v_track_1 : (Nat → Int32)} {v_track_2 : (Nat → Int32)} {v_track_3 : (Nat → Int32)} {v_track_4 : (Nat → Int32)} {a1 : Int32} {a2 : Int32} {a3 : Int32} {N : Nat} {ρ : Int32} (X : CX p s m args c cX1_seenAlike 6 RX1 D (TY cI cZ cG) A) (hrm : RM R 1 21 cells slots) (ret : ∀ (pc : Nat) (H : Heap) (locs : List Loc) (ls : Array Slot), decode cX1_seenAlike pc = .ok (.ireturn, 1) → WD D A (kwX1_seenAlike cI cZ cG q q_track q_town q_track_0 q_track_1 q_track_2 q_track_3 q_track_4 v_track_0 v_track_1 v_track_2 v_track_3 v_track_4) s.heap H locs → W p l e R s m args below meth c H locs cells slots Q (F0 m pc ls [.int ρ]))  : ∀ (n : Nat) (a : Int32 × Int32), lfix (fun (K : Int32 × Int32 → Option (Int32)) (a : Int32 × Int32) => fX1_seenAlike_6 N v_track_0 v_track_1 v_track_2 v_track_3 v_track_4 a1 a2 a3 (fun (l4 : Int32) (l5 : Int32) => K (l4, l5)) a.1 a.2) n a = some ρ → (fun (l4 : Int32) (l5 : Int32) => ∀ (H : Heap) (locs : List Loc) (ls : Array Slot), WD D A (kwX1_seenAlike cI cZ cG q q_track q_town q_track_0 q_track_1 q_track_2 q_track_3 q_track_4 v_track_0 v_track_1 v_track_2 v_track_3 v_track_4) s.heap H locs → lv_has ls 6 [(0, .ref q), (1, .int a1), (2, .int a2), (3, .int a3), (4, .int l4), (5, .int l5)] → W p l e R s m args below meth c H locs cells slots Q (F0 m 6 ls [])) (a.1) (a.2) := by
  have hx := X.1.1
  have hb := X.1.2.1
  refine lfix_W (fun K hK a h => ?_)
  obtain ⟨l4, l5⟩ := a
  intro H locs ls hw hl
  have h : fX1_seenAlike_6 N v_track_0 v_track_1 v_track_2 v_track_3 v_track_4 a1 a2 a3 (fun (l4 : Int32) (l5 : Int32) => K (l4, l5)) l4 l5 = some ρ := h
  have hK_6 : ∀ (l4 : Int32) (l5 : Int32), (fun (l4 : Int32) (l5 : Int32) => K (l4, l5)) l4 l5 = some ρ → ∀ (H : Heap) (locs : List Loc) (ls : Array Slot), WD D A (kwX1_seenAlike cI cZ cG q q_track q_town q_track_0 q_track_1 q_track_2 q_track_3 q_track_4 v_track_0 v_track_1 v_track_2 v_track_3 v_track_4) s.heap H locs → lv_has ls 6 [(0, .ref q), (1, .int a1), (2, .int a2), (3, .int a3), (4, .int l4), (5, .int l5)] → W p l e R s m args below meth c H locs cells slots Q (F0 m 6 ls []) := fun l4 l5 h => hK (l4, l5) h
  generalize (fun (l4 : Int32) (l5 : Int32) => K (l4, l5)) = K_6 at h hK_6
  have hw : WD D A (kwX1_seenAlike cI cZ cG q q_track q_town q_track_0 q_track_1 q_track_2 q_track_3 q_track_4 v_track_0 v_track_1 v_track_2 v_track_3 v_track_4) s.heap H locs := hw
  have hl : lv_has ls 6 [(0, .ref q), (1, .int a1), (2, .int a2), (3, .int a3), (4, .int l4), (5, .int l5)] := hl
  unfold fX1_seenAlike_6 at h
  refine lv_iload hx hb dX1_seenAlike_6 (lv_at hl 5 rfl) ?_
  refine lv_iconst (v := (5 : Int32)) hx hb dX1_seenAlike_8 (by decide) ?_
  refine lv_icmp_ge (tgt := 50) hx hb dX1_seenAlike_9 (by decide) (fun c_9 => ?_) (fun c_9 => ?_)
  · have h := ift c_9 h
    refine lv_iload hx hb dX1_seenAlike_50 (lv_at hl 4 rfl) ?_
    obtain rfl := Option.some.inj h
    exact ret _ _ _ _ dX1_seenAlike_52 hw
  · have h := iff_ c_9 h
    refine lv_iload_n hx hb dX1_seenAlike_12 rfl (lv_at hl 1 rfl) ?_
    refine lv_iload hx hb dX1_seenAlike_13 (lv_at hl 5 rfl) ?_
    obtain ⟨x_15, hc_15, h⟩ := obd h
    refine ksS_i (ws2 := (kwX1_seenAlike cI cZ cG q q_track q_town q_track_0 q_track_1 q_track_2 q_track_3 q_track_4 v_track_0 v_track_1 v_track_2 v_track_3 v_track_4)) (nW := 7) (As := [.int a1, .int l5]) (rest := []) X hw (cX1_has_ct l D cI cZ cG a1 l5 N x_15 hc_15 H.size) mX1_has tw_204 (hrm.call (by decide) (by decide)) [] rfl (by decide) rfl (by decide) rfl ⟨rfl, ⟨rfl, ⟨rfl, ⟨rfl, ⟨rfl, ⟨rfl, ⟨rfl, trivial⟩⟩⟩⟩⟩⟩⟩ rfl hl.1 rfl (Nat.le_of_ble_eq_true rfl) dX1_seenAlike_15 ⟨hrm.2.2.1, hrm.2.2.2⟩ (fun H locs hw => ?_)
    refine lv_if_eq (tgt := 44) hx hb dX1_seenAlike_18 (by decide) (fun c_18 => ?_) (fun c_18 => ?_)
    · have h := ift c_18 h
      refine lv_iinc (v := (l5 + (1 : Int32))) (lv' := [(5, .int (l5 + (1 : Int32))), (0, .ref q), (1, .int a1), (2, .int a2), (3, .int a3), (4, .int l4)]) hx hb dX1_seenAlike_44 hl (k := 5) rfl (congrArg (l5 + ·) (by decide)) (by decide) rfl (fun ls hl => ?_)
      refine lv_goto (tgt := 6) hx hb dX1_seenAlike_47 (by decide) ?_
      exact hK_6 _ _ h _ _ _ hw (lv_sub hl [1, 2, 3, 4, 5, 0] rfl)
    · have h := iff_ c_18 h
      refine lv_aload_n hx hb dX1_seenAlike_21 rfl (lv_at hl 0 rfl) ?_
      refine kget (ci := 1) (v := .ref q_track) X hw iX1 0 rfl rfl 0 (by decide) tw_176 rfl dX1_seenAlike_22 ?_
      refine lv_iload hx hb dX1_seenAlike_25 (lv_at hl 5 rfl) ?_
      obtain ⟨g_27, h⟩ := gd h
      by_cases c_27_0 : l5 = (0 : Int32)
      · have h := ift c_27_0 h
        refine kaald (v := .ref q_track_0) X hw 1 rfl g_27 (by rw [c_27_0]; rfl) dX1_seenAlike_27 ?_
        refine lv_iload_n hx hb dX1_seenAlike_28 rfl (lv_at hl 3 rfl) ?_
        obtain ⟨g_29, h⟩ := gd h
        refine kiald X hw 2 rfl rfl g_29 dX1_seenAlike_29 ?_
        refine lv_aload_n hx hb dX1_seenAlike_30 rfl (lv_at hl 0 rfl) ?_
        refine kget (ci := 1) (v := .ref q_track) X hw iX1 0 rfl rfl 0 (by decide) tw_176 rfl dX1_seenAlike_31 ?_
        refine lv_iload_n hx hb dX1_seenAlike_34 rfl (lv_at hl 2 rfl) ?_
        obtain ⟨g_35, h⟩ := gd h
        by_cases c_35_0 : a2 = (0 : Int32)
        · have h := ift c_35_0 h
          refine kaald (v := .ref q_track_0) X hw 1 rfl g_35 (by rw [c_35_0]; rfl) dX1_seenAlike_35 ?_
          refine lv_iload_n hx hb dX1_seenAlike_36 rfl (lv_at hl 3 rfl) ?_
          obtain ⟨g_37, h⟩ := gd h
          refine kiald X hw 2 rfl rfl g_37 dX1_seenAlike_37 ?_
          refine lv_icmp_ne (tgt := 44) hx hb dX1_seenAlike_38 (by decide) (fun c_38 => ?_) (fun c_38 => ?_)
          · have h := iff_ c_38 h
            refine lv_iinc (v := (l5 + (1 : Int32))) (lv' := [(5, .int (l5 + (1 : Int32))), (0, .ref q), (1, .int a1), (2, .int a2), (3, .int a3), (4, .int l4)]) hx hb dX1_seenAlike_44 hl (k := 5) rfl (congrArg (l5 + ·) (by decide)) (by decide) rfl (fun ls hl => ?_)
            refine lv_goto (tgt := 6) hx hb dX1_seenAlike_47 (by decide) ?_
            exact hK_6 _ _ h _ _ _ hw (lv_sub hl [1, 2, 3, 4, 5, 0] rfl)
          · have h := ift c_38 h
            refine lv_iinc (v := (l4 + (1 : Int32))) (lv' := [(4, .int (l4 + (1 : Int32))), (0, .ref q), (1, .int a1), (2, .int a2), (3, .int a3), (5, .int l5)]) hx hb dX1_seenAlike_41 hl (k := 4) rfl (congrArg (l4 + ·) (by decide)) (by decide) rfl (fun ls hl => ?_)
            refine lv_iinc (v := (l5 + (1 : Int32))) (lv' := [(5, .int (l5 + (1 : Int32))), (4, .int (l4 + (1 : Int32))), (0, .ref q), (1, .int a1), (2, .int a2), (3, .int a3)]) hx hb dX1_seenAlike_44 hl (k := 5) rfl (congrArg (l5 + ·) (by decide)) (by decide) rfl (fun ls hl => ?_)
            refine lv_goto (tgt := 6) hx hb dX1_seenAlike_47 (by decide) ?_
            exact hK_6 _ _ h _ _ _ hw (lv_sub hl [2, 3, 4, 5, 1, 0] rfl)
        have h := iff_ c_35_0 h
        by_cases c_35_1 : a2 = (1 : Int32)
        · have h := ift c_35_1 h
          refine kaald (v := .ref q_track_1) X hw 1 rfl g_35 (by rw [c_35_1]; rfl) dX1_seenAlike_35 ?_
          refine lv_iload_n hx hb dX1_seenAlike_36 rfl (lv_at hl 3 rfl) ?_
          obtain ⟨g_37, h⟩ := gd h
          refine kiald X hw 3 rfl rfl g_37 dX1_seenAlike_37 ?_
          refine lv_icmp_ne (tgt := 44) hx hb dX1_seenAlike_38 (by decide) (fun c_38 => ?_) (fun c_38 => ?_)
          · have h := iff_ c_38 h
            refine lv_iinc (v := (l5 + (1 : Int32))) (lv' := [(5, .int (l5 + (1 : Int32))), (0, .ref q), (1, .int a1), (2, .int a2), (3, .int a3), (4, .int l4)]) hx hb dX1_seenAlike_44 hl (k := 5) rfl (congrArg (l5 + ·) (by decide)) (by decide) rfl (fun ls hl => ?_)
            refine lv_goto (tgt := 6) hx hb dX1_seenAlike_47 (by decide) ?_
            exact hK_6 _ _ h _ _ _ hw (lv_sub hl [1, 2, 3, 4, 5, 0] rfl)
          · have h := ift c_38 h
            refine lv_iinc (v := (l4 + (1 : Int32))) (lv' := [(4, .int (l4 + (1 : Int32))), (0, .ref q), (1, .int a1), (2, .int a2), (3, .int a3), (5, .int l5)]) hx hb dX1_seenAlike_41 hl (k := 4) rfl (congrArg (l4 + ·) (by decide)) (by decide) rfl (fun ls hl => ?_)
            refine lv_iinc (v := (l5 + (1 : Int32))) (lv' := [(5, .int (l5 + (1 : Int32))), (4, .int (l4 + (1 : Int32))), (0, .ref q), (1, .int a1), (2, .int a2), (3, .int a3)]) hx hb dX1_seenAlike_44 hl (k := 5) rfl (congrArg (l5 + ·) (by decide)) (by decide) rfl (fun ls hl => ?_)
            refine lv_goto (tgt := 6) hx hb dX1_seenAlike_47 (by decide) ?_
            exact hK_6 _ _ h _ _ _ hw (lv_sub hl [2, 3, 4, 5, 1, 0] rfl)
        have h := iff_ c_35_1 h
        by_cases c_35_2 : a2 = (2 : Int32)
        · have h := ift c_35_2 h
          refine kaald (v := .ref q_track_2) X hw 1 rfl g_35 (by rw [c_35_2]; rfl) dX1_seenAlike_35 ?_
          refine lv_iload_n hx hb dX1_seenAlike_36 rfl (lv_at hl 3 rfl) ?_
          obtain ⟨g_37, h⟩ := gd h
          refine kiald X hw 4 rfl rfl g_37 dX1_seenAlike_37 ?_
          refine lv_icmp_ne (tgt := 44) hx hb dX1_seenAlike_38 (by decide) (fun c_38 => ?_) (fun c_38 => ?_)
          · have h := iff_ c_38 h
            refine lv_iinc (v := (l5 + (1 : Int32))) (lv' := [(5, .int (l5 + (1 : Int32))), (0, .ref q), (1, .int a1), (2, .int a2), (3, .int a3), (4, .int l4)]) hx hb dX1_seenAlike_44 hl (k := 5) rfl (congrArg (l5 + ·) (by decide)) (by decide) rfl (fun ls hl => ?_)
            refine lv_goto (tgt := 6) hx hb dX1_seenAlike_47 (by decide) ?_
            exact hK_6 _ _ h _ _ _ hw (lv_sub hl [1, 2, 3, 4, 5, 0] rfl)
          · have h := ift c_38 h
            refine lv_iinc (v := (l4 + (1 : Int32))) (lv' := [(4, .int (l4 + (1 : Int32))), (0, .ref q), (1, .int a1), (2, .int a2), (3, .int a3), (5, .int l5)]) hx hb dX1_seenAlike_41 hl (k := 4) rfl (congrArg (l4 + ·) (by decide)) (by decide) rfl (fun ls hl => ?_)
            refine lv_iinc (v := (l5 + (1 : Int32))) (lv' := [(5, .int (l5 + (1 : Int32))), (4, .int (l4 + (1 : Int32))), (0, .ref q), (1, .int a1), (2, .int a2), (3, .int a3)]) hx hb dX1_seenAlike_44 hl (k := 5) rfl (congrArg (l5 + ·) (by decide)) (by decide) rfl (fun ls hl => ?_)
            refine lv_goto (tgt := 6) hx hb dX1_seenAlike_47 (by decide) ?_
            exact hK_6 _ _ h _ _ _ hw (lv_sub hl [2, 3, 4, 5, 1, 0] rfl)
        have h := iff_ c_35_2 h
        by_cases c_35_3 : a2 = (3 : Int32)
        · have h := ift c_35_3 h
          refine kaald (v := .ref q_track_3) X hw 1 rfl g_35 (by rw [c_35_3]; rfl) dX1_seenAlike_35 ?_
          refine lv_iload_n hx hb dX1_seenAlike_36 rfl (lv_at hl 3 rfl) ?_
          obtain ⟨g_37, h⟩ := gd h
          refine kiald X hw 5 rfl rfl g_37 dX1_seenAlike_37 ?_
          refine lv_icmp_ne (tgt := 44) hx hb dX1_seenAlike_38 (by decide) (fun c_38 => ?_) (fun c_38 => ?_)
          · have h := iff_ c_38 h
            refine lv_iinc (v := (l5 + (1 : Int32))) (lv' := [(5, .int (l5 + (1 : Int32))), (0, .ref q), (1, .int a1), (2, .int a2), (3, .int a3), (4, .int l4)]) hx hb dX1_seenAlike_44 hl (k := 5) rfl (congrArg (l5 + ·) (by decide)) (by decide) rfl (fun ls hl => ?_)
            refine lv_goto (tgt := 6) hx hb dX1_seenAlike_47 (by decide) ?_
            exact hK_6 _ _ h _ _ _ hw (lv_sub hl [1, 2, 3, 4, 5, 0] rfl)
          · have h := ift c_38 h
            refine lv_iinc (v := (l4 + (1 : Int32))) (lv' := [(4, .int (l4 + (1 : Int32))), (0, .ref q), (1, .int a1), (2, .int a2), (3, .int a3), (5, .int l5)]) hx hb dX1_seenAlike_41 hl (k := 4) rfl (congrArg (l4 + ·) (by decide)) (by decide) rfl (fun ls hl => ?_)
            refine lv_iinc (v := (l5 + (1 : Int32))) (lv' := [(5, .int (l5 + (1 : Int32))), (4, .int (l4 + (1 : Int32))), (0, .ref q), (1, .int a1), (2, .int a2), (3, .int a3)]) hx hb dX1_seenAlike_44 hl (k := 5) rfl (congrArg (l5 + ·) (by decide)) (by decide) rfl (fun ls hl => ?_)
            refine lv_goto (tgt := 6) hx hb dX1_seenAlike_47 (by decide) ?_
            exact hK_6 _ _ h _ _ _ hw (lv_sub hl [2, 3, 4, 5, 1, 0] rfl)
        have h := iff_ c_35_3 h
        by_cases c_35_4 : a2 = (4 : Int32)
        · have h := ift c_35_4 h
          refine kaald (v := .ref q_track_4) X hw 1 rfl g_35 (by rw [c_35_4]; rfl) dX1_seenAlike_35 ?_
          refine lv_iload_n hx hb dX1_seenAlike_36 rfl (lv_at hl 3 rfl) ?_
          obtain ⟨g_37, h⟩ := gd h
          refine kiald X hw 6 rfl rfl g_37 dX1_seenAlike_37 ?_
          refine lv_icmp_ne (tgt := 44) hx hb dX1_seenAlike_38 (by decide) (fun c_38 => ?_) (fun c_38 => ?_)
          · have h := iff_ c_38 h
            refine lv_iinc (v := (l5 + (1 : Int32))) (lv' := [(5, .int (l5 + (1 : Int32))), (0, .ref q), (1, .int a1), (2, .int a2), (3, .int a3), (4, .int l4)]) hx hb dX1_seenAlike_44 hl (k := 5) rfl (congrArg (l5 + ·) (by decide)) (by decide) rfl (fun ls hl => ?_)
            refine lv_goto (tgt := 6) hx hb dX1_seenAlike_47 (by decide) ?_
            exact hK_6 _ _ h _ _ _ hw (lv_sub hl [1, 2, 3, 4, 5, 0] rfl)
          · have h := ift c_38 h
            refine lv_iinc (v := (l4 + (1 : Int32))) (lv' := [(4, .int (l4 + (1 : Int32))), (0, .ref q), (1, .int a1), (2, .int a2), (3, .int a3), (5, .int l5)]) hx hb dX1_seenAlike_41 hl (k := 4) rfl (congrArg (l4 + ·) (by decide)) (by decide) rfl (fun ls hl => ?_)
            refine lv_iinc (v := (l5 + (1 : Int32))) (lv' := [(5, .int (l5 + (1 : Int32))), (4, .int (l4 + (1 : Int32))), (0, .ref q), (1, .int a1), (2, .int a2), (3, .int a3)]) hx hb dX1_seenAlike_44 hl (k := 5) rfl (congrArg (l5 + ·) (by decide)) (by decide) rfl (fun ls hl => ?_)
            refine lv_goto (tgt := 6) hx hb dX1_seenAlike_47 (by decide) ?_
            exact hK_6 _ _ h _ _ _ hw (lv_sub hl [2, 3, 4, 5, 1, 0] rfl)
        have h := iff_ c_35_4 h
        exact nn h
      have h := iff_ c_27_0 h
      by_cases c_27_1 : l5 = (1 : Int32)
      · have h := ift c_27_1 h
        refine kaald (v := .ref q_track_1) X hw 1 rfl g_27 (by rw [c_27_1]; rfl) dX1_seenAlike_27 ?_
        refine lv_iload_n hx hb dX1_seenAlike_28 rfl (lv_at hl 3 rfl) ?_
        obtain ⟨g_29, h⟩ := gd h
        refine kiald X hw 3 rfl rfl g_29 dX1_seenAlike_29 ?_
        refine lv_aload_n hx hb dX1_seenAlike_30 rfl (lv_at hl 0 rfl) ?_
        refine kget (ci := 1) (v := .ref q_track) X hw iX1 0 rfl rfl 0 (by decide) tw_176 rfl dX1_seenAlike_31 ?_
        refine lv_iload_n hx hb dX1_seenAlike_34 rfl (lv_at hl 2 rfl) ?_
        obtain ⟨g_35, h⟩ := gd h
        by_cases c_35_0 : a2 = (0 : Int32)
        · have h := ift c_35_0 h
          refine kaald (v := .ref q_track_0) X hw 1 rfl g_35 (by rw [c_35_0]; rfl) dX1_seenAlike_35 ?_
          refine lv_iload_n hx hb dX1_seenAlike_36 rfl (lv_at hl 3 rfl) ?_
          obtain ⟨g_37, h⟩ := gd h
          refine kiald X hw 2 rfl rfl g_37 dX1_seenAlike_37 ?_
          refine lv_icmp_ne (tgt := 44) hx hb dX1_seenAlike_38 (by decide) (fun c_38 => ?_) (fun c_38 => ?_)
          · have h := iff_ c_38 h
            refine lv_iinc (v := (l5 + (1 : Int32))) (lv' := [(5, .int (l5 + (1 : Int32))), (0, .ref q), (1, .int a1), (2, .int a2), (3, .int a3), (4, .int l4)]) hx hb dX1_seenAlike_44 hl (k := 5) rfl (congrArg (l5 + ·) (by decide)) (by decide) rfl (fun ls hl => ?_)
            refine lv_goto (tgt := 6) hx hb dX1_seenAlike_47 (by decide) ?_
            exact hK_6 _ _ h _ _ _ hw (lv_sub hl [1, 2, 3, 4, 5, 0] rfl)
          · have h := ift c_38 h
            refine lv_iinc (v := (l4 + (1 : Int32))) (lv' := [(4, .int (l4 + (1 : Int32))), (0, .ref q), (1, .int a1), (2, .int a2), (3, .int a3), (5, .int l5)]) hx hb dX1_seenAlike_41 hl (k := 4) rfl (congrArg (l4 + ·) (by decide)) (by decide) rfl (fun ls hl => ?_)
            refine lv_iinc (v := (l5 + (1 : Int32))) (lv' := [(5, .int (l5 + (1 : Int32))), (4, .int (l4 + (1 : Int32))), (0, .ref q), (1, .int a1), (2, .int a2), (3, .int a3)]) hx hb dX1_seenAlike_44 hl (k := 5) rfl (congrArg (l5 + ·) (by decide)) (by decide) rfl (fun ls hl => ?_)
            refine lv_goto (tgt := 6) hx hb dX1_seenAlike_47 (by decide) ?_
            exact hK_6 _ _ h _ _ _ hw (lv_sub hl [2, 3, 4, 5, 1, 0] rfl)
        have h := iff_ c_35_0 h
        by_cases c_35_1 : a2 = (1 : Int32)
        · have h := ift c_35_1 h
          refine kaald (v := .ref q_track_1) X hw 1 rfl g_35 (by rw [c_35_1]; rfl) dX1_seenAlike_35 ?_
          refine lv_iload_n hx hb dX1_seenAlike_36 rfl (lv_at hl 3 rfl) ?_
          obtain ⟨g_37, h⟩ := gd h
          refine kiald X hw 3 rfl rfl g_37 dX1_seenAlike_37 ?_
          refine lv_icmp_ne (tgt := 44) hx hb dX1_seenAlike_38 (by decide) (fun c_38 => ?_) (fun c_38 => ?_)
          · have h := iff_ c_38 h
            refine lv_iinc (v := (l5 + (1 : Int32))) (lv' := [(5, .int (l5 + (1 : Int32))), (0, .ref q), (1, .int a1), (2, .int a2), (3, .int a3), (4, .int l4)]) hx hb dX1_seenAlike_44 hl (k := 5) rfl (congrArg (l5 + ·) (by decide)) (by decide) rfl (fun ls hl => ?_)
            refine lv_goto (tgt := 6) hx hb dX1_seenAlike_47 (by decide) ?_
            exact hK_6 _ _ h _ _ _ hw (lv_sub hl [1, 2, 3, 4, 5, 0] rfl)
          · have h := ift c_38 h
            refine lv_iinc (v := (l4 + (1 : Int32))) (lv' := [(4, .int (l4 + (1 : Int32))), (0, .ref q), (1, .int a1), (2, .int a2), (3, .int a3), (5, .int l5)]) hx hb dX1_seenAlike_41 hl (k := 4) rfl (congrArg (l4 + ·) (by decide)) (by decide) rfl (fun ls hl => ?_)
            refine lv_iinc (v := (l5 + (1 : Int32))) (lv' := [(5, .int (l5 + (1 : Int32))), (4, .int (l4 + (1 : Int32))), (0, .ref q), (1, .int a1), (2, .int a2), (3, .int a3)]) hx hb dX1_seenAlike_44 hl (k := 5) rfl (congrArg (l5 + ·) (by decide)) (by decide) rfl (fun ls hl => ?_)
            refine lv_goto (tgt := 6) hx hb dX1_seenAlike_47 (by decide) ?_
            exact hK_6 _ _ h _ _ _ hw (lv_sub hl [2, 3, 4, 5, 1, 0] rfl)
        have h := iff_ c_35_1 h
        by_cases c_35_2 : a2 = (2 : Int32)
        · have h := ift c_35_2 h
          refine kaald (v := .ref q_track_2) X hw 1 rfl g_35 (by rw [c_35_2]; rfl) dX1_seenAlike_35 ?_
          refine lv_iload_n hx hb dX1_seenAlike_36 rfl (lv_at hl 3 rfl) ?_
          obtain ⟨g_37, h⟩ := gd h
          refine kiald X hw 4 rfl rfl g_37 dX1_seenAlike_37 ?_
          refine lv_icmp_ne (tgt := 44) hx hb dX1_seenAlike_38 (by decide) (fun c_38 => ?_) (fun c_38 => ?_)
          · have h := iff_ c_38 h
            refine lv_iinc (v := (l5 + (1 : Int32))) (lv' := [(5, .int (l5 + (1 : Int32))), (0, .ref q), (1, .int a1), (2, .int a2), (3, .int a3), (4, .int l4)]) hx hb dX1_seenAlike_44 hl (k := 5) rfl (congrArg (l5 + ·) (by decide)) (by decide) rfl (fun ls hl => ?_)
            refine lv_goto (tgt := 6) hx hb dX1_seenAlike_47 (by decide) ?_
            exact hK_6 _ _ h _ _ _ hw (lv_sub hl [1, 2, 3, 4, 5, 0] rfl)
          · have h := ift c_38 h
            refine lv_iinc (v := (l4 + (1 : Int32))) (lv' := [(4, .int (l4 + (1 : Int32))), (0, .ref q), (1, .int a1), (2, .int a2), (3, .int a3), (5, .int l5)]) hx hb dX1_seenAlike_41 hl (k := 4) rfl (congrArg (l4 + ·) (by decide)) (by decide) rfl (fun ls hl => ?_)
            refine lv_iinc (v := (l5 + (1 : Int32))) (lv' := [(5, .int (l5 + (1 : Int32))), (4, .int (l4 + (1 : Int32))), (0, .ref q), (1, .int a1), (2, .int a2), (3, .int a3)]) hx hb dX1_seenAlike_44 hl (k := 5) rfl (congrArg (l5 + ·) (by decide)) (by decide) rfl (fun ls hl => ?_)
            refine lv_goto (tgt := 6) hx hb dX1_seenAlike_47 (by decide) ?_
            exact hK_6 _ _ h _ _ _ hw (lv_sub hl [2, 3, 4, 5, 1, 0] rfl)
        have h := iff_ c_35_2 h
        by_cases c_35_3 : a2 = (3 : Int32)
        · have h := ift c_35_3 h
          refine kaald (v := .ref q_track_3) X hw 1 rfl g_35 (by rw [c_35_3]; rfl) dX1_seenAlike_35 ?_
          refine lv_iload_n hx hb dX1_seenAlike_36 rfl (lv_at hl 3 rfl) ?_
          obtain ⟨g_37, h⟩ := gd h
          refine kiald X hw 5 rfl rfl g_37 dX1_seenAlike_37 ?_
          refine lv_icmp_ne (tgt := 44) hx hb dX1_seenAlike_38 (by decide) (fun c_38 => ?_) (fun c_38 => ?_)
          · have h := iff_ c_38 h
            refine lv_iinc (v := (l5 + (1 : Int32))) (lv' := [(5, .int (l5 + (1 : Int32))), (0, .ref q), (1, .int a1), (2, .int a2), (3, .int a3), (4, .int l4)]) hx hb dX1_seenAlike_44 hl (k := 5) rfl (congrArg (l5 + ·) (by decide)) (by decide) rfl (fun ls hl => ?_)
            refine lv_goto (tgt := 6) hx hb dX1_seenAlike_47 (by decide) ?_
            exact hK_6 _ _ h _ _ _ hw (lv_sub hl [1, 2, 3, 4, 5, 0] rfl)
          · have h := ift c_38 h
            refine lv_iinc (v := (l4 + (1 : Int32))) (lv' := [(4, .int (l4 + (1 : Int32))), (0, .ref q), (1, .int a1), (2, .int a2), (3, .int a3), (5, .int l5)]) hx hb dX1_seenAlike_41 hl (k := 4) rfl (congrArg (l4 + ·) (by decide)) (by decide) rfl (fun ls hl => ?_)
            refine lv_iinc (v := (l5 + (1 : Int32))) (lv' := [(5, .int (l5 + (1 : Int32))), (4, .int (l4 + (1 : Int32))), (0, .ref q), (1, .int a1), (2, .int a2), (3, .int a3)]) hx hb dX1_seenAlike_44 hl (k := 5) rfl (congrArg (l5 + ·) (by decide)) (by decide) rfl (fun ls hl => ?_)
            refine lv_goto (tgt := 6) hx hb dX1_seenAlike_47 (by decide) ?_
            exact hK_6 _ _ h _ _ _ hw (lv_sub hl [2, 3, 4, 5, 1, 0] rfl)
        have h := iff_ c_35_3 h
        by_cases c_35_4 : a2 = (4 : Int32)
        · have h := ift c_35_4 h
          refine kaald (v := .ref q_track_4) X hw 1 rfl g_35 (by rw [c_35_4]; rfl) dX1_seenAlike_35 ?_
          refine lv_iload_n hx hb dX1_seenAlike_36 rfl (lv_at hl 3 rfl) ?_
          obtain ⟨g_37, h⟩ := gd h
          refine kiald X hw 6 rfl rfl g_37 dX1_seenAlike_37 ?_
          refine lv_icmp_ne (tgt := 44) hx hb dX1_seenAlike_38 (by decide) (fun c_38 => ?_) (fun c_38 => ?_)
          · have h := iff_ c_38 h
            refine lv_iinc (v := (l5 + (1 : Int32))) (lv' := [(5, .int (l5 + (1 : Int32))), (0, .ref q), (1, .int a1), (2, .int a2), (3, .int a3), (4, .int l4)]) hx hb dX1_seenAlike_44 hl (k := 5) rfl (congrArg (l5 + ·) (by decide)) (by decide) rfl (fun ls hl => ?_)
            refine lv_goto (tgt := 6) hx hb dX1_seenAlike_47 (by decide) ?_
            exact hK_6 _ _ h _ _ _ hw (lv_sub hl [1, 2, 3, 4, 5, 0] rfl)
          · have h := ift c_38 h
            refine lv_iinc (v := (l4 + (1 : Int32))) (lv' := [(4, .int (l4 + (1 : Int32))), (0, .ref q), (1, .int a1), (2, .int a2), (3, .int a3), (5, .int l5)]) hx hb dX1_seenAlike_41 hl (k := 4) rfl (congrArg (l4 + ·) (by decide)) (by decide) rfl (fun ls hl => ?_)
            refine lv_iinc (v := (l5 + (1 : Int32))) (lv' := [(5, .int (l5 + (1 : Int32))), (4, .int (l4 + (1 : Int32))), (0, .ref q), (1, .int a1), (2, .int a2), (3, .int a3)]) hx hb dX1_seenAlike_44 hl (k := 5) rfl (congrArg (l5 + ·) (by decide)) (by decide) rfl (fun ls hl => ?_)
            refine lv_goto (tgt := 6) hx hb dX1_seenAlike_47 (by decide) ?_
            exact hK_6 _ _ h _ _ _ hw (lv_sub hl [2, 3, 4, 5, 1, 0] rfl)
        have h := iff_ c_35_4 h
        exact nn h
      have h := iff_ c_27_1 h
      by_cases c_27_2 : l5 = (2 : Int32)
      · have h := ift c_27_2 h
        refine kaald (v := .ref q_track_2) X hw 1 rfl g_27 (by rw [c_27_2]; rfl) dX1_seenAlike_27 ?_
        refine lv_iload_n hx hb dX1_seenAlike_28 rfl (lv_at hl 3 rfl) ?_
        obtain ⟨g_29, h⟩ := gd h
        refine kiald X hw 4 rfl rfl g_29 dX1_seenAlike_29 ?_
        refine lv_aload_n hx hb dX1_seenAlike_30 rfl (lv_at hl 0 rfl) ?_
        refine kget (ci := 1) (v := .ref q_track) X hw iX1 0 rfl rfl 0 (by decide) tw_176 rfl dX1_seenAlike_31 ?_
        refine lv_iload_n hx hb dX1_seenAlike_34 rfl (lv_at hl 2 rfl) ?_
        obtain ⟨g_35, h⟩ := gd h
        by_cases c_35_0 : a2 = (0 : Int32)
        · have h := ift c_35_0 h
          refine kaald (v := .ref q_track_0) X hw 1 rfl g_35 (by rw [c_35_0]; rfl) dX1_seenAlike_35 ?_
          refine lv_iload_n hx hb dX1_seenAlike_36 rfl (lv_at hl 3 rfl) ?_
          obtain ⟨g_37, h⟩ := gd h
          refine kiald X hw 2 rfl rfl g_37 dX1_seenAlike_37 ?_
          refine lv_icmp_ne (tgt := 44) hx hb dX1_seenAlike_38 (by decide) (fun c_38 => ?_) (fun c_38 => ?_)
          · have h := iff_ c_38 h
            refine lv_iinc (v := (l5 + (1 : Int32))) (lv' := [(5, .int (l5 + (1 : Int32))), (0, .ref q), (1, .int a1), (2, .int a2), (3, .int a3), (4, .int l4)]) hx hb dX1_seenAlike_44 hl (k := 5) rfl (congrArg (l5 + ·) (by decide)) (by decide) rfl (fun ls hl => ?_)
            refine lv_goto (tgt := 6) hx hb dX1_seenAlike_47 (by decide) ?_
            exact hK_6 _ _ h _ _ _ hw (lv_sub hl [1, 2, 3, 4, 5, 0] rfl)
          · have h := ift c_38 h
            refine lv_iinc (v := (l4 + (1 : Int32))) (lv' := [(4, .int (l4 + (1 : Int32))), (0, .ref q), (1, .int a1), (2, .int a2), (3, .int a3), (5, .int l5)]) hx hb dX1_seenAlike_41 hl (k := 4) rfl (congrArg (l4 + ·) (by decide)) (by decide) rfl (fun ls hl => ?_)
            refine lv_iinc (v := (l5 + (1 : Int32))) (lv' := [(5, .int (l5 + (1 : Int32))), (4, .int (l4 + (1 : Int32))), (0, .ref q), (1, .int a1), (2, .int a2), (3, .int a3)]) hx hb dX1_seenAlike_44 hl (k := 5) rfl (congrArg (l5 + ·) (by decide)) (by decide) rfl (fun ls hl => ?_)
            refine lv_goto (tgt := 6) hx hb dX1_seenAlike_47 (by decide) ?_
            exact hK_6 _ _ h _ _ _ hw (lv_sub hl [2, 3, 4, 5, 1, 0] rfl)
        have h := iff_ c_35_0 h
        by_cases c_35_1 : a2 = (1 : Int32)
        · have h := ift c_35_1 h
          refine kaald (v := .ref q_track_1) X hw 1 rfl g_35 (by rw [c_35_1]; rfl) dX1_seenAlike_35 ?_
          refine lv_iload_n hx hb dX1_seenAlike_36 rfl (lv_at hl 3 rfl) ?_
          obtain ⟨g_37, h⟩ := gd h
          refine kiald X hw 3 rfl rfl g_37 dX1_seenAlike_37 ?_
          refine lv_icmp_ne (tgt := 44) hx hb dX1_seenAlike_38 (by decide) (fun c_38 => ?_) (fun c_38 => ?_)
          · have h := iff_ c_38 h
            refine lv_iinc (v := (l5 + (1 : Int32))) (lv' := [(5, .int (l5 + (1 : Int32))), (0, .ref q), (1, .int a1), (2, .int a2), (3, .int a3), (4, .int l4)]) hx hb dX1_seenAlike_44 hl (k := 5) rfl (congrArg (l5 + ·) (by decide)) (by decide) rfl (fun ls hl => ?_)
            refine lv_goto (tgt := 6) hx hb dX1_seenAlike_47 (by decide) ?_
            exact hK_6 _ _ h _ _ _ hw (lv_sub hl [1, 2, 3, 4, 5, 0] rfl)
          · have h := ift c_38 h
            refine lv_iinc (v := (l4 + (1 : Int32))) (lv' := [(4, .int (l4 + (1 : Int32))), (0, .ref q), (1, .int a1), (2, .int a2), (3, .int a3), (5, .int l5)]) hx hb dX1_seenAlike_41 hl (k := 4) rfl (congrArg (l4 + ·) (by decide)) (by decide) rfl (fun ls hl => ?_)
            refine lv_iinc (v := (l5 + (1 : Int32))) (lv' := [(5, .int (l5 + (1 : Int32))), (4, .int (l4 + (1 : Int32))), (0, .ref q), (1, .int a1), (2, .int a2), (3, .int a3)]) hx hb dX1_seenAlike_44 hl (k := 5) rfl (congrArg (l5 + ·) (by decide)) (by decide) rfl (fun ls hl => ?_)
            refine lv_goto (tgt := 6) hx hb dX1_seenAlike_47 (by decide) ?_
            exact hK_6 _ _ h _ _ _ hw (lv_sub hl [2, 3, 4, 5, 1, 0] rfl)
        have h := iff_ c_35_1 h
        by_cases c_35_2 : a2 = (2 : Int32)
        · have h := ift c_35_2 h
          refine kaald (v := .ref q_track_2) X hw 1 rfl g_35 (by rw [c_35_2]; rfl) dX1_seenAlike_35 ?_
          refine lv_iload_n hx hb dX1_seenAlike_36 rfl (lv_at hl 3 rfl) ?_
          obtain ⟨g_37, h⟩ := gd h
          refine kiald X hw 4 rfl rfl g_37 dX1_seenAlike_37 ?_
          refine lv_icmp_ne (tgt := 44) hx hb dX1_seenAlike_38 (by decide) (fun c_38 => ?_) (fun c_38 => ?_)
          · have h := iff_ c_38 h
            refine lv_iinc (v := (l5 + (1 : Int32))) (lv' := [(5, .int (l5 + (1 : Int32))), (0, .ref q), (1, .int a1), (2, .int a2), (3, .int a3), (4, .int l4)]) hx hb dX1_seenAlike_44 hl (k := 5) rfl (congrArg (l5 + ·) (by decide)) (by decide) rfl (fun ls hl => ?_)
            refine lv_goto (tgt := 6) hx hb dX1_seenAlike_47 (by decide) ?_
            exact hK_6 _ _ h _ _ _ hw (lv_sub hl [1, 2, 3, 4, 5, 0] rfl)
          · have h := ift c_38 h
            refine lv_iinc (v := (l4 + (1 : Int32))) (lv' := [(4, .int (l4 + (1 : Int32))), (0, .ref q), (1, .int a1), (2, .int a2), (3, .int a3), (5, .int l5)]) hx hb dX1_seenAlike_41 hl (k := 4) rfl (congrArg (l4 + ·) (by decide)) (by decide) rfl (fun ls hl => ?_)
            refine lv_iinc (v := (l5 + (1 : Int32))) (lv' := [(5, .int (l5 + (1 : Int32))), (4, .int (l4 + (1 : Int32))), (0, .ref q), (1, .int a1), (2, .int a2), (3, .int a3)]) hx hb dX1_seenAlike_44 hl (k := 5) rfl (congrArg (l5 + ·) (by decide)) (by decide) rfl (fun ls hl => ?_)
            refine lv_goto (tgt := 6) hx hb dX1_seenAlike_47 (by decide) ?_
            exact hK_6 _ _ h _ _ _ hw (lv_sub hl [2, 3, 4, 5, 1, 0] rfl)
        have h := iff_ c_35_2 h
        by_cases c_35_3 : a2 = (3 : Int32)
        · have h := ift c_35_3 h
          refine kaald (v := .ref q_track_3) X hw 1 rfl g_35 (by rw [c_35_3]; rfl) dX1_seenAlike_35 ?_
          refine lv_iload_n hx hb dX1_seenAlike_36 rfl (lv_at hl 3 rfl) ?_
          obtain ⟨g_37, h⟩ := gd h
          refine kiald X hw 5 rfl rfl g_37 dX1_seenAlike_37 ?_
          refine lv_icmp_ne (tgt := 44) hx hb dX1_seenAlike_38 (by decide) (fun c_38 => ?_) (fun c_38 => ?_)
          · have h := iff_ c_38 h
            refine lv_iinc (v := (l5 + (1 : Int32))) (lv' := [(5, .int (l5 + (1 : Int32))), (0, .ref q), (1, .int a1), (2, .int a2), (3, .int a3), (4, .int l4)]) hx hb dX1_seenAlike_44 hl (k := 5) rfl (congrArg (l5 + ·) (by decide)) (by decide) rfl (fun ls hl => ?_)
            refine lv_goto (tgt := 6) hx hb dX1_seenAlike_47 (by decide) ?_
            exact hK_6 _ _ h _ _ _ hw (lv_sub hl [1, 2, 3, 4, 5, 0] rfl)
          · have h := ift c_38 h
            refine lv_iinc (v := (l4 + (1 : Int32))) (lv' := [(4, .int (l4 + (1 : Int32))), (0, .ref q), (1, .int a1), (2, .int a2), (3, .int a3), (5, .int l5)]) hx hb dX1_seenAlike_41 hl (k := 4) rfl (congrArg (l4 + ·) (by decide)) (by decide) rfl (fun ls hl => ?_)
            refine lv_iinc (v := (l5 + (1 : Int32))) (lv' := [(5, .int (l5 + (1 : Int32))), (4, .int (l4 + (1 : Int32))), (0, .ref q), (1, .int a1), (2, .int a2), (3, .int a3)]) hx hb dX1_seenAlike_44 hl (k := 5) rfl (congrArg (l5 + ·) (by decide)) (by decide) rfl (fun ls hl => ?_)
            refine lv_goto (tgt := 6) hx hb dX1_seenAlike_47 (by decide) ?_
            exact hK_6 _ _ h _ _ _ hw (lv_sub hl [2, 3, 4, 5, 1, 0] rfl)
        have h := iff_ c_35_3 h
        by_cases c_35_4 : a2 = (4 : Int32)
        · have h := ift c_35_4 h
          refine kaald (v := .ref q_track_4) X hw 1 rfl g_35 (by rw [c_35_4]; rfl) dX1_seenAlike_35 ?_
          refine lv_iload_n hx hb dX1_seenAlike_36 rfl (lv_at hl 3 rfl) ?_
          obtain ⟨g_37, h⟩ := gd h
          refine kiald X hw 6 rfl rfl g_37 dX1_seenAlike_37 ?_
          refine lv_icmp_ne (tgt := 44) hx hb dX1_seenAlike_38 (by decide) (fun c_38 => ?_) (fun c_38 => ?_)
          · have h := iff_ c_38 h
            refine lv_iinc (v := (l5 + (1 : Int32))) (lv' := [(5, .int (l5 + (1 : Int32))), (0, .ref q), (1, .int a1), (2, .int a2), (3, .int a3), (4, .int l4)]) hx hb dX1_seenAlike_44 hl (k := 5) rfl (congrArg (l5 + ·) (by decide)) (by decide) rfl (fun ls hl => ?_)
            refine lv_goto (tgt := 6) hx hb dX1_seenAlike_47 (by decide) ?_
            exact hK_6 _ _ h _ _ _ hw (lv_sub hl [1, 2, 3, 4, 5, 0] rfl)
          · have h := ift c_38 h
            refine lv_iinc (v := (l4 + (1 : Int32))) (lv' := [(4, .int (l4 + (1 : Int32))), (0, .ref q), (1, .int a1), (2, .int a2), (3, .int a3), (5, .int l5)]) hx hb dX1_seenAlike_41 hl (k := 4) rfl (congrArg (l4 + ·) (by decide)) (by decide) rfl (fun ls hl => ?_)
            refine lv_iinc (v := (l5 + (1 : Int32))) (lv' := [(5, .int (l5 + (1 : Int32))), (4, .int (l4 + (1 : Int32))), (0, .ref q), (1, .int a1), (2, .int a2), (3, .int a3)]) hx hb dX1_seenAlike_44 hl (k := 5) rfl (congrArg (l5 + ·) (by decide)) (by decide) rfl (fun ls hl => ?_)
            refine lv_goto (tgt := 6) hx hb dX1_seenAlike_47 (by decide) ?_
            exact hK_6 _ _ h _ _ _ hw (lv_sub hl [2, 3, 4, 5, 1, 0] rfl)
        have h := iff_ c_35_4 h
        exact nn h
      have h := iff_ c_27_2 h
      by_cases c_27_3 : l5 = (3 : Int32)
      · have h := ift c_27_3 h
        refine kaald (v := .ref q_track_3) X hw 1 rfl g_27 (by rw [c_27_3]; rfl) dX1_seenAlike_27 ?_
        refine lv_iload_n hx hb dX1_seenAlike_28 rfl (lv_at hl 3 rfl) ?_
        obtain ⟨g_29, h⟩ := gd h
        refine kiald X hw 5 rfl rfl g_29 dX1_seenAlike_29 ?_
        refine lv_aload_n hx hb dX1_seenAlike_30 rfl (lv_at hl 0 rfl) ?_
        refine kget (ci := 1) (v := .ref q_track) X hw iX1 0 rfl rfl 0 (by decide) tw_176 rfl dX1_seenAlike_31 ?_
        refine lv_iload_n hx hb dX1_seenAlike_34 rfl (lv_at hl 2 rfl) ?_
        obtain ⟨g_35, h⟩ := gd h
        by_cases c_35_0 : a2 = (0 : Int32)
        · have h := ift c_35_0 h
          refine kaald (v := .ref q_track_0) X hw 1 rfl g_35 (by rw [c_35_0]; rfl) dX1_seenAlike_35 ?_
          refine lv_iload_n hx hb dX1_seenAlike_36 rfl (lv_at hl 3 rfl) ?_
          obtain ⟨g_37, h⟩ := gd h
          refine kiald X hw 2 rfl rfl g_37 dX1_seenAlike_37 ?_
          refine lv_icmp_ne (tgt := 44) hx hb dX1_seenAlike_38 (by decide) (fun c_38 => ?_) (fun c_38 => ?_)
          · have h := iff_ c_38 h
            refine lv_iinc (v := (l5 + (1 : Int32))) (lv' := [(5, .int (l5 + (1 : Int32))), (0, .ref q), (1, .int a1), (2, .int a2), (3, .int a3), (4, .int l4)]) hx hb dX1_seenAlike_44 hl (k := 5) rfl (congrArg (l5 + ·) (by decide)) (by decide) rfl (fun ls hl => ?_)
            refine lv_goto (tgt := 6) hx hb dX1_seenAlike_47 (by decide) ?_
            exact hK_6 _ _ h _ _ _ hw (lv_sub hl [1, 2, 3, 4, 5, 0] rfl)
          · have h := ift c_38 h
            refine lv_iinc (v := (l4 + (1 : Int32))) (lv' := [(4, .int (l4 + (1 : Int32))), (0, .ref q), (1, .int a1), (2, .int a2), (3, .int a3), (5, .int l5)]) hx hb dX1_seenAlike_41 hl (k := 4) rfl (congrArg (l4 + ·) (by decide)) (by decide) rfl (fun ls hl => ?_)
            refine lv_iinc (v := (l5 + (1 : Int32))) (lv' := [(5, .int (l5 + (1 : Int32))), (4, .int (l4 + (1 : Int32))), (0, .ref q), (1, .int a1), (2, .int a2), (3, .int a3)]) hx hb dX1_seenAlike_44 hl (k := 5) rfl (congrArg (l5 + ·) (by decide)) (by decide) rfl (fun ls hl => ?_)
            refine lv_goto (tgt := 6) hx hb dX1_seenAlike_47 (by decide) ?_
            exact hK_6 _ _ h _ _ _ hw (lv_sub hl [2, 3, 4, 5, 1, 0] rfl)
        have h := iff_ c_35_0 h
        by_cases c_35_1 : a2 = (1 : Int32)
        · have h := ift c_35_1 h
          refine kaald (v := .ref q_track_1) X hw 1 rfl g_35 (by rw [c_35_1]; rfl) dX1_seenAlike_35 ?_
          refine lv_iload_n hx hb dX1_seenAlike_36 rfl (lv_at hl 3 rfl) ?_
          obtain ⟨g_37, h⟩ := gd h
          refine kiald X hw 3 rfl rfl g_37 dX1_seenAlike_37 ?_
          refine lv_icmp_ne (tgt := 44) hx hb dX1_seenAlike_38 (by decide) (fun c_38 => ?_) (fun c_38 => ?_)
          · have h := iff_ c_38 h
            refine lv_iinc (v := (l5 + (1 : Int32))) (lv' := [(5, .int (l5 + (1 : Int32))), (0, .ref q), (1, .int a1), (2, .int a2), (3, .int a3), (4, .int l4)]) hx hb dX1_seenAlike_44 hl (k := 5) rfl (congrArg (l5 + ·) (by decide)) (by decide) rfl (fun ls hl => ?_)
            refine lv_goto (tgt := 6) hx hb dX1_seenAlike_47 (by decide) ?_
            exact hK_6 _ _ h _ _ _ hw (lv_sub hl [1, 2, 3, 4, 5, 0] rfl)
          · have h := ift c_38 h
            refine lv_iinc (v := (l4 + (1 : Int32))) (lv' := [(4, .int (l4 + (1 : Int32))), (0, .ref q), (1, .int a1), (2, .int a2), (3, .int a3), (5, .int l5)]) hx hb dX1_seenAlike_41 hl (k := 4) rfl (congrArg (l4 + ·) (by decide)) (by decide) rfl (fun ls hl => ?_)
            refine lv_iinc (v := (l5 + (1 : Int32))) (lv' := [(5, .int (l5 + (1 : Int32))), (4, .int (l4 + (1 : Int32))), (0, .ref q), (1, .int a1), (2, .int a2), (3, .int a3)]) hx hb dX1_seenAlike_44 hl (k := 5) rfl (congrArg (l5 + ·) (by decide)) (by decide) rfl (fun ls hl => ?_)
            refine lv_goto (tgt := 6) hx hb dX1_seenAlike_47 (by decide) ?_
            exact hK_6 _ _ h _ _ _ hw (lv_sub hl [2, 3, 4, 5, 1, 0] rfl)
        have h := iff_ c_35_1 h
        by_cases c_35_2 : a2 = (2 : Int32)
        · have h := ift c_35_2 h
          refine kaald (v := .ref q_track_2) X hw 1 rfl g_35 (by rw [c_35_2]; rfl) dX1_seenAlike_35 ?_
          refine lv_iload_n hx hb dX1_seenAlike_36 rfl (lv_at hl 3 rfl) ?_
          obtain ⟨g_37, h⟩ := gd h
          refine kiald X hw 4 rfl rfl g_37 dX1_seenAlike_37 ?_
          refine lv_icmp_ne (tgt := 44) hx hb dX1_seenAlike_38 (by decide) (fun c_38 => ?_) (fun c_38 => ?_)
          · have h := iff_ c_38 h
            refine lv_iinc (v := (l5 + (1 : Int32))) (lv' := [(5, .int (l5 + (1 : Int32))), (0, .ref q), (1, .int a1), (2, .int a2), (3, .int a3), (4, .int l4)]) hx hb dX1_seenAlike_44 hl (k := 5) rfl (congrArg (l5 + ·) (by decide)) (by decide) rfl (fun ls hl => ?_)
            refine lv_goto (tgt := 6) hx hb dX1_seenAlike_47 (by decide) ?_
            exact hK_6 _ _ h _ _ _ hw (lv_sub hl [1, 2, 3, 4, 5, 0] rfl)
          · have h := ift c_38 h
            refine lv_iinc (v := (l4 + (1 : Int32))) (lv' := [(4, .int (l4 + (1 : Int32))), (0, .ref q), (1, .int a1), (2, .int a2), (3, .int a3), (5, .int l5)]) hx hb dX1_seenAlike_41 hl (k := 4) rfl (congrArg (l4 + ·) (by decide)) (by decide) rfl (fun ls hl => ?_)
            refine lv_iinc (v := (l5 + (1 : Int32))) (lv' := [(5, .int (l5 + (1 : Int32))), (4, .int (l4 + (1 : Int32))), (0, .ref q), (1, .int a1), (2, .int a2), (3, .int a3)]) hx hb dX1_seenAlike_44 hl (k := 5) rfl (congrArg (l5 + ·) (by decide)) (by decide) rfl (fun ls hl => ?_)
            refine lv_goto (tgt := 6) hx hb dX1_seenAlike_47 (by decide) ?_
            exact hK_6 _ _ h _ _ _ hw (lv_sub hl [2, 3, 4, 5, 1, 0] rfl)
        have h := iff_ c_35_2 h
        by_cases c_35_3 : a2 = (3 : Int32)
        · have h := ift c_35_3 h
          refine kaald (v := .ref q_track_3) X hw 1 rfl g_35 (by rw [c_35_3]; rfl) dX1_seenAlike_35 ?_
          refine lv_iload_n hx hb dX1_seenAlike_36 rfl (lv_at hl 3 rfl) ?_
          obtain ⟨g_37, h⟩ := gd h
          refine kiald X hw 5 rfl rfl g_37 dX1_seenAlike_37 ?_
          refine lv_icmp_ne (tgt := 44) hx hb dX1_seenAlike_38 (by decide) (fun c_38 => ?_) (fun c_38 => ?_)
          · have h := iff_ c_38 h
            refine lv_iinc (v := (l5 + (1 : Int32))) (lv' := [(5, .int (l5 + (1 : Int32))), (0, .ref q), (1, .int a1), (2, .int a2), (3, .int a3), (4, .int l4)]) hx hb dX1_seenAlike_44 hl (k := 5) rfl (congrArg (l5 + ·) (by decide)) (by decide) rfl (fun ls hl => ?_)
            refine lv_goto (tgt := 6) hx hb dX1_seenAlike_47 (by decide) ?_
            exact hK_6 _ _ h _ _ _ hw (lv_sub hl [1, 2, 3, 4, 5, 0] rfl)
          · have h := ift c_38 h
            refine lv_iinc (v := (l4 + (1 : Int32))) (lv' := [(4, .int (l4 + (1 : Int32))), (0, .ref q), (1, .int a1), (2, .int a2), (3, .int a3), (5, .int l5)]) hx hb dX1_seenAlike_41 hl (k := 4) rfl (congrArg (l4 + ·) (by decide)) (by decide) rfl (fun ls hl => ?_)
            refine lv_iinc (v := (l5 + (1 : Int32))) (lv' := [(5, .int (l5 + (1 : Int32))), (4, .int (l4 + (1 : Int32))), (0, .ref q), (1, .int a1), (2, .int a2), (3, .int a3)]) hx hb dX1_seenAlike_44 hl (k := 5) rfl (congrArg (l5 + ·) (by decide)) (by decide) rfl (fun ls hl => ?_)
            refine lv_goto (tgt := 6) hx hb dX1_seenAlike_47 (by decide) ?_
            exact hK_6 _ _ h _ _ _ hw (lv_sub hl [2, 3, 4, 5, 1, 0] rfl)
        have h := iff_ c_35_3 h
        by_cases c_35_4 : a2 = (4 : Int32)
        · have h := ift c_35_4 h
          refine kaald (v := .ref q_track_4) X hw 1 rfl g_35 (by rw [c_35_4]; rfl) dX1_seenAlike_35 ?_
          refine lv_iload_n hx hb dX1_seenAlike_36 rfl (lv_at hl 3 rfl) ?_
          obtain ⟨g_37, h⟩ := gd h
          refine kiald X hw 6 rfl rfl g_37 dX1_seenAlike_37 ?_
          refine lv_icmp_ne (tgt := 44) hx hb dX1_seenAlike_38 (by decide) (fun c_38 => ?_) (fun c_38 => ?_)
          · have h := iff_ c_38 h
            refine lv_iinc (v := (l5 + (1 : Int32))) (lv' := [(5, .int (l5 + (1 : Int32))), (0, .ref q), (1, .int a1), (2, .int a2), (3, .int a3), (4, .int l4)]) hx hb dX1_seenAlike_44 hl (k := 5) rfl (congrArg (l5 + ·) (by decide)) (by decide) rfl (fun ls hl => ?_)
            refine lv_goto (tgt := 6) hx hb dX1_seenAlike_47 (by decide) ?_
            exact hK_6 _ _ h _ _ _ hw (lv_sub hl [1, 2, 3, 4, 5, 0] rfl)
          · have h := ift c_38 h
            refine lv_iinc (v := (l4 + (1 : Int32))) (lv' := [(4, .int (l4 + (1 : Int32))), (0, .ref q), (1, .int a1), (2, .int a2), (3, .int a3), (5, .int l5)]) hx hb dX1_seenAlike_41 hl (k := 4) rfl (congrArg (l4 + ·) (by decide)) (by decide) rfl (fun ls hl => ?_)
            refine lv_iinc (v := (l5 + (1 : Int32))) (lv' := [(5, .int (l5 + (1 : Int32))), (4, .int (l4 + (1 : Int32))), (0, .ref q), (1, .int a1), (2, .int a2), (3, .int a3)]) hx hb dX1_seenAlike_44 hl (k := 5) rfl (congrArg (l5 + ·) (by decide)) (by decide) rfl (fun ls hl => ?_)
            refine lv_goto (tgt := 6) hx hb dX1_seenAlike_47 (by decide) ?_
            exact hK_6 _ _ h _ _ _ hw (lv_sub hl [2, 3, 4, 5, 1, 0] rfl)
        have h := iff_ c_35_4 h
        exact nn h
      have h := iff_ c_27_3 h
      by_cases c_27_4 : l5 = (4 : Int32)
      · have h := ift c_27_4 h
        refine kaald (v := .ref q_track_4) X hw 1 rfl g_27 (by rw [c_27_4]; rfl) dX1_seenAlike_27 ?_
        refine lv_iload_n hx hb dX1_seenAlike_28 rfl (lv_at hl 3 rfl) ?_
        obtain ⟨g_29, h⟩ := gd h
        refine kiald X hw 6 rfl rfl g_29 dX1_seenAlike_29 ?_
        refine lv_aload_n hx hb dX1_seenAlike_30 rfl (lv_at hl 0 rfl) ?_
        refine kget (ci := 1) (v := .ref q_track) X hw iX1 0 rfl rfl 0 (by decide) tw_176 rfl dX1_seenAlike_31 ?_
        refine lv_iload_n hx hb dX1_seenAlike_34 rfl (lv_at hl 2 rfl) ?_
        obtain ⟨g_35, h⟩ := gd h
        by_cases c_35_0 : a2 = (0 : Int32)
        · have h := ift c_35_0 h
          refine kaald (v := .ref q_track_0) X hw 1 rfl g_35 (by rw [c_35_0]; rfl) dX1_seenAlike_35 ?_
          refine lv_iload_n hx hb dX1_seenAlike_36 rfl (lv_at hl 3 rfl) ?_
          obtain ⟨g_37, h⟩ := gd h
          refine kiald X hw 2 rfl rfl g_37 dX1_seenAlike_37 ?_
          refine lv_icmp_ne (tgt := 44) hx hb dX1_seenAlike_38 (by decide) (fun c_38 => ?_) (fun c_38 => ?_)
          · have h := iff_ c_38 h
            refine lv_iinc (v := (l5 + (1 : Int32))) (lv' := [(5, .int (l5 + (1 : Int32))), (0, .ref q), (1, .int a1), (2, .int a2), (3, .int a3), (4, .int l4)]) hx hb dX1_seenAlike_44 hl (k := 5) rfl (congrArg (l5 + ·) (by decide)) (by decide) rfl (fun ls hl => ?_)
            refine lv_goto (tgt := 6) hx hb dX1_seenAlike_47 (by decide) ?_
            exact hK_6 _ _ h _ _ _ hw (lv_sub hl [1, 2, 3, 4, 5, 0] rfl)
          · have h := ift c_38 h
            refine lv_iinc (v := (l4 + (1 : Int32))) (lv' := [(4, .int (l4 + (1 : Int32))), (0, .ref q), (1, .int a1), (2, .int a2), (3, .int a3), (5, .int l5)]) hx hb dX1_seenAlike_41 hl (k := 4) rfl (congrArg (l4 + ·) (by decide)) (by decide) rfl (fun ls hl => ?_)
            refine lv_iinc (v := (l5 + (1 : Int32))) (lv' := [(5, .int (l5 + (1 : Int32))), (4, .int (l4 + (1 : Int32))), (0, .ref q), (1, .int a1), (2, .int a2), (3, .int a3)]) hx hb dX1_seenAlike_44 hl (k := 5) rfl (congrArg (l5 + ·) (by decide)) (by decide) rfl (fun ls hl => ?_)
            refine lv_goto (tgt := 6) hx hb dX1_seenAlike_47 (by decide) ?_
            exact hK_6 _ _ h _ _ _ hw (lv_sub hl [2, 3, 4, 5, 1, 0] rfl)
        have h := iff_ c_35_0 h
        by_cases c_35_1 : a2 = (1 : Int32)
        · have h := ift c_35_1 h
          refine kaald (v := .ref q_track_1) X hw 1 rfl g_35 (by rw [c_35_1]; rfl) dX1_seenAlike_35 ?_
          refine lv_iload_n hx hb dX1_seenAlike_36 rfl (lv_at hl 3 rfl) ?_
          obtain ⟨g_37, h⟩ := gd h
          refine kiald X hw 3 rfl rfl g_37 dX1_seenAlike_37 ?_
          refine lv_icmp_ne (tgt := 44) hx hb dX1_seenAlike_38 (by decide) (fun c_38 => ?_) (fun c_38 => ?_)
          · have h := iff_ c_38 h
            refine lv_iinc (v := (l5 + (1 : Int32))) (lv' := [(5, .int (l5 + (1 : Int32))), (0, .ref q), (1, .int a1), (2, .int a2), (3, .int a3), (4, .int l4)]) hx hb dX1_seenAlike_44 hl (k := 5) rfl (congrArg (l5 + ·) (by decide)) (by decide) rfl (fun ls hl => ?_)
            refine lv_goto (tgt := 6) hx hb dX1_seenAlike_47 (by decide) ?_
            exact hK_6 _ _ h _ _ _ hw (lv_sub hl [1, 2, 3, 4, 5, 0] rfl)
          · have h := ift c_38 h
            refine lv_iinc (v := (l4 + (1 : Int32))) (lv' := [(4, .int (l4 + (1 : Int32))), (0, .ref q), (1, .int a1), (2, .int a2), (3, .int a3), (5, .int l5)]) hx hb dX1_seenAlike_41 hl (k := 4) rfl (congrArg (l4 + ·) (by decide)) (by decide) rfl (fun ls hl => ?_)
            refine lv_iinc (v := (l5 + (1 : Int32))) (lv' := [(5, .int (l5 + (1 : Int32))), (4, .int (l4 + (1 : Int32))), (0, .ref q), (1, .int a1), (2, .int a2), (3, .int a3)]) hx hb dX1_seenAlike_44 hl (k := 5) rfl (congrArg (l5 + ·) (by decide)) (by decide) rfl (fun ls hl => ?_)
            refine lv_goto (tgt := 6) hx hb dX1_seenAlike_47 (by decide) ?_
            exact hK_6 _ _ h _ _ _ hw (lv_sub hl [2, 3, 4, 5, 1, 0] rfl)
        have h := iff_ c_35_1 h
        by_cases c_35_2 : a2 = (2 : Int32)
        · have h := ift c_35_2 h
          refine kaald (v := .ref q_track_2) X hw 1 rfl g_35 (by rw [c_35_2]; rfl) dX1_seenAlike_35 ?_
          refine lv_iload_n hx hb dX1_seenAlike_36 rfl (lv_at hl 3 rfl) ?_
          obtain ⟨g_37, h⟩ := gd h
          refine kiald X hw 4 rfl rfl g_37 dX1_seenAlike_37 ?_
          refine lv_icmp_ne (tgt := 44) hx hb dX1_seenAlike_38 (by decide) (fun c_38 => ?_) (fun c_38 => ?_)
          · have h := iff_ c_38 h
            refine lv_iinc (v := (l5 + (1 : Int32))) (lv' := [(5, .int (l5 + (1 : Int32))), (0, .ref q), (1, .int a1), (2, .int a2), (3, .int a3), (4, .int l4)]) hx hb dX1_seenAlike_44 hl (k := 5) rfl (congrArg (l5 + ·) (by decide)) (by decide) rfl (fun ls hl => ?_)
            refine lv_goto (tgt := 6) hx hb dX1_seenAlike_47 (by decide) ?_
            exact hK_6 _ _ h _ _ _ hw (lv_sub hl [1, 2, 3, 4, 5, 0] rfl)
          · have h := ift c_38 h
            refine lv_iinc (v := (l4 + (1 : Int32))) (lv' := [(4, .int (l4 + (1 : Int32))), (0, .ref q), (1, .int a1), (2, .int a2), (3, .int a3), (5, .int l5)]) hx hb dX1_seenAlike_41 hl (k := 4) rfl (congrArg (l4 + ·) (by decide)) (by decide) rfl (fun ls hl => ?_)
            refine lv_iinc (v := (l5 + (1 : Int32))) (lv' := [(5, .int (l5 + (1 : Int32))), (4, .int (l4 + (1 : Int32))), (0, .ref q), (1, .int a1), (2, .int a2), (3, .int a3)]) hx hb dX1_seenAlike_44 hl (k := 5) rfl (congrArg (l5 + ·) (by decide)) (by decide) rfl (fun ls hl => ?_)
            refine lv_goto (tgt := 6) hx hb dX1_seenAlike_47 (by decide) ?_
            exact hK_6 _ _ h _ _ _ hw (lv_sub hl [2, 3, 4, 5, 1, 0] rfl)
        have h := iff_ c_35_2 h
        by_cases c_35_3 : a2 = (3 : Int32)
        · have h := ift c_35_3 h
          refine kaald (v := .ref q_track_3) X hw 1 rfl g_35 (by rw [c_35_3]; rfl) dX1_seenAlike_35 ?_
          refine lv_iload_n hx hb dX1_seenAlike_36 rfl (lv_at hl 3 rfl) ?_
          obtain ⟨g_37, h⟩ := gd h
          refine kiald X hw 5 rfl rfl g_37 dX1_seenAlike_37 ?_
          refine lv_icmp_ne (tgt := 44) hx hb dX1_seenAlike_38 (by decide) (fun c_38 => ?_) (fun c_38 => ?_)
          · have h := iff_ c_38 h
            refine lv_iinc (v := (l5 + (1 : Int32))) (lv' := [(5, .int (l5 + (1 : Int32))), (0, .ref q), (1, .int a1), (2, .int a2), (3, .int a3), (4, .int l4)]) hx hb dX1_seenAlike_44 hl (k := 5) rfl (congrArg (l5 + ·) (by decide)) (by decide) rfl (fun ls hl => ?_)
            refine lv_goto (tgt := 6) hx hb dX1_seenAlike_47 (by decide) ?_
            exact hK_6 _ _ h _ _ _ hw (lv_sub hl [1, 2, 3, 4, 5, 0] rfl)
          · have h := ift c_38 h
            refine lv_iinc (v := (l4 + (1 : Int32))) (lv' := [(4, .int (l4 + (1 : Int32))), (0, .ref q), (1, .int a1), (2, .int a2), (3, .int a3), (5, .int l5)]) hx hb dX1_seenAlike_41 hl (k := 4) rfl (congrArg (l4 + ·) (by decide)) (by decide) rfl (fun ls hl => ?_)
            refine lv_iinc (v := (l5 + (1 : Int32))) (lv' := [(5, .int (l5 + (1 : Int32))), (4, .int (l4 + (1 : Int32))), (0, .ref q), (1, .int a1), (2, .int a2), (3, .int a3)]) hx hb dX1_seenAlike_44 hl (k := 5) rfl (congrArg (l5 + ·) (by decide)) (by decide) rfl (fun ls hl => ?_)
            refine lv_goto (tgt := 6) hx hb dX1_seenAlike_47 (by decide) ?_
            exact hK_6 _ _ h _ _ _ hw (lv_sub hl [2, 3, 4, 5, 1, 0] rfl)
        have h := iff_ c_35_3 h
        by_cases c_35_4 : a2 = (4 : Int32)
        · have h := ift c_35_4 h
          refine kaald (v := .ref q_track_4) X hw 1 rfl g_35 (by rw [c_35_4]; rfl) dX1_seenAlike_35 ?_
          refine lv_iload_n hx hb dX1_seenAlike_36 rfl (lv_at hl 3 rfl) ?_
          obtain ⟨g_37, h⟩ := gd h
          refine kiald X hw 6 rfl rfl g_37 dX1_seenAlike_37 ?_
          refine lv_icmp_ne (tgt := 44) hx hb dX1_seenAlike_38 (by decide) (fun c_38 => ?_) (fun c_38 => ?_)
          · have h := iff_ c_38 h
            refine lv_iinc (v := (l5 + (1 : Int32))) (lv' := [(5, .int (l5 + (1 : Int32))), (0, .ref q), (1, .int a1), (2, .int a2), (3, .int a3), (4, .int l4)]) hx hb dX1_seenAlike_44 hl (k := 5) rfl (congrArg (l5 + ·) (by decide)) (by decide) rfl (fun ls hl => ?_)
            refine lv_goto (tgt := 6) hx hb dX1_seenAlike_47 (by decide) ?_
            exact hK_6 _ _ h _ _ _ hw (lv_sub hl [1, 2, 3, 4, 5, 0] rfl)
          · have h := ift c_38 h
            refine lv_iinc (v := (l4 + (1 : Int32))) (lv' := [(4, .int (l4 + (1 : Int32))), (0, .ref q), (1, .int a1), (2, .int a2), (3, .int a3), (5, .int l5)]) hx hb dX1_seenAlike_41 hl (k := 4) rfl (congrArg (l4 + ·) (by decide)) (by decide) rfl (fun ls hl => ?_)
            refine lv_iinc (v := (l5 + (1 : Int32))) (lv' := [(5, .int (l5 + (1 : Int32))), (4, .int (l4 + (1 : Int32))), (0, .ref q), (1, .int a1), (2, .int a2), (3, .int a3)]) hx hb dX1_seenAlike_44 hl (k := 5) rfl (congrArg (l5 + ·) (by decide)) (by decide) rfl (fun ls hl => ?_)
            refine lv_goto (tgt := 6) hx hb dX1_seenAlike_47 (by decide) ?_
            exact hK_6 _ _ h _ _ _ hw (lv_sub hl [2, 3, 4, 5, 1, 0] rfl)
        have h := iff_ c_35_4 h
        exact nn h
      have h := iff_ c_27_4 h
      exact nn h
set_option maxHeartbeats 4000000 in
set_option maxRecDepth 100000 in
theorem wX1_seenAlike {p : Program} {l : Launch} {e : Env} {R : Room} {s : State} {m : MethodId} {args : Array Value} {below : List Frame} {meth : Method} {c : Code} {cells slots : Nat} {Q : State → Prop} {D : va_G} {A : Nat → Prop} {cI cZ cG : ClassId} {q q_track q_town q_track_0 q_track_1 q_track_2 q_track_3 q_track_4 : Nat} {v_track_0 : (Nat → Int32)} {v_track_1 : (Nat → Int32)} {v_track_2 : (Nat → Int32)} {v_track_3 : (Nat → Int32)} {v_track_4 : (Nat → Int32)} {a1 : Int32} {a2 : Int32} {a3 : Int32} {N : Nat} {ρ : Int32} (X : CX p s m args c cX1_seenAlike 6 RX1 D (TY cI cZ cG) A) (hrm : RM R 1 21 cells slots) (ret : ∀ (pc : Nat) (H : Heap) (locs : List Loc) (ls : Array Slot), decode cX1_seenAlike pc = .ok (.ireturn, 1) → WD D A (kwX1_seenAlike cI cZ cG q q_track q_town q_track_0 q_track_1 q_track_2 q_track_3 q_track_4 v_track_0 v_track_1 v_track_2 v_track_3 v_track_4) s.heap H locs → W p l e R s m args below meth c H locs cells slots Q (F0 m pc ls [.int ρ])) (h : fX1_seenAlike N v_track_0 v_track_1 v_track_2 v_track_3 v_track_4 a1 a2 a3   = some ρ) (H : Heap) (locs : List Loc) (ls : Array Slot) (hw : WD D A (kwX1_seenAlike cI cZ cG q q_track q_town q_track_0 q_track_1 q_track_2 q_track_3 q_track_4 v_track_0 v_track_1 v_track_2 v_track_3 v_track_4) s.heap H locs) (hl : lv_has ls 6 [(0, .ref q), (1, .int a1), (2, .int a2), (3, .int a3)]) : W p l e R s m args below meth c H locs cells slots Q (F0 m 0 ls []) := by
  have hx := X.1.1
  have hb := X.1.2.1
  unfold fX1_seenAlike at h
  refine lv_iconst (v := (0 : Int32)) hx hb dX1_seenAlike_0 (by decide) ?_
  refine lv_istore (lv' := [(4, .int (0 : Int32)), (0, .ref q), (1, .int a1), (2, .int a2), (3, .int a3)]) hx hb dX1_seenAlike_1 hl (by decide) rfl (fun ls hl => ?_)
  refine lv_iconst (v := (0 : Int32)) hx hb dX1_seenAlike_3 (by decide) ?_
  refine lv_istore (lv' := [(5, .int (0 : Int32)), (4, .int (0 : Int32)), (0, .ref q), (1, .int a1), (2, .int a2), (3, .int a3)]) hx hb dX1_seenAlike_4 hl (by decide) rfl (fun ls hl => ?_)
  exact wX1_seenAlike_6 X hrm ret  _ _ h _ _ _ hw (lv_sub hl [2, 3, 4, 5, 1, 0] rfl)
set_option maxHeartbeats 4000000 in
set_option maxRecDepth 100000 in
theorem cX1_seenAlike_ct (l : Launch) (D : va_G) (cI cZ cG : ClassId) (q q_track q_town q_track_0 q_track_1 q_track_2 q_track_3 q_track_4 : Nat)  (v_track_0 : (Nat → Int32)) (v_track_1 : (Nat → Int32)) (v_track_2 : (Nat → Int32)) (v_track_3 : (Nat → Int32)) (v_track_4 : (Nat → Int32)) (a1 : Int32) (a2 : Int32) (a3 : Int32) (N : Nat) (ρ : Int32) (h : fX1_seenAlike N v_track_0 v_track_1 v_track_2 v_track_3 v_track_4 a1 a2 a3   = some ρ) (sz : Nat) : Met l yX1_seenAlike (wz yX1_seenAlike cX1_seenAlike 6 (some .int)) (cRm 1 21) (cPre D (TY cI cZ cG) [.ref q, .int a1, .int a2, .int a3] (kwX1_seenAlike cI cZ cG q q_track q_town q_track_0 q_track_1 q_track_2 q_track_3 q_track_4 v_track_0 v_track_1 v_track_2 v_track_3 v_track_4) sz) (cQi D (ρ) (kwX1_seenAlike cI cZ cG q q_track q_town q_track_0 q_track_1 q_track_2 q_track_3 q_track_4 v_track_0 v_track_1 v_track_2 v_track_3 v_track_4) (kwX1_seenAlike cI cZ cG q q_track q_town q_track_0 q_track_1 q_track_2 q_track_3 q_track_4 v_track_0 v_track_1 v_track_2 v_track_3 v_track_4) sz) 0 0 (va_A (kwX1_seenAlike cI cZ cG q q_track q_town q_track_0 q_track_1 q_track_2 q_track_3 q_track_4 v_track_0 v_track_1 v_track_2 v_track_3 v_track_4) sz) :=
  mk_i (by decide) (Nat.le_of_ble_eq_true rfl) (fun X hrm ret hw hl => wX1_seenAlike X hrm ret h _ _ _ hw hl)
theorem dX1_leftAtWorst_0 : decode cX1_leftAtWorst 0 = .ok (.iconst 0, 1) := by decide +kernel
theorem dX1_leftAtWorst_1 : decode cX1_leftAtWorst 1 = .ok (.istore_n 3, 1) := by decide +kernel
theorem dX1_leftAtWorst_2 : decode cX1_leftAtWorst 2 = .ok (.iconst 0, 1) := by decide +kernel
theorem dX1_leftAtWorst_3 : decode cX1_leftAtWorst 3 = .ok (.istore 4, 2) := by decide +kernel
theorem dX1_leftAtWorst_5 : decode cX1_leftAtWorst 5 = .ok (.iload 4, 2) := by decide +kernel
theorem dX1_leftAtWorst_7 : decode cX1_leftAtWorst 7 = .ok (.iconst 5, 1) := by decide +kernel
theorem dX1_leftAtWorst_8 : decode cX1_leftAtWorst 8 = .ok (.if_icmp .ge 31, 3) := by decide +kernel
theorem dX1_leftAtWorst_11 : decode cX1_leftAtWorst 11 = .ok (.iload_n 1, 1) := by decide +kernel
theorem dX1_leftAtWorst_12 : decode cX1_leftAtWorst 12 = .ok (.iload 4, 2) := by decide +kernel
theorem dX1_leftAtWorst_14 : decode cX1_leftAtWorst 14 = .ok (.invokestatic 84, 3) := by decide +kernel
theorem dX1_leftAtWorst_17 : decode cX1_leftAtWorst 17 = .ok (.ifCond .eq 16, 3) := by decide +kernel
theorem dX1_leftAtWorst_20 : decode cX1_leftAtWorst 20 = .ok (.iload_n 3, 1) := by decide +kernel
theorem dX1_leftAtWorst_21 : decode cX1_leftAtWorst 21 = .ok (.aload_n 0, 1) := by decide +kernel
theorem dX1_leftAtWorst_22 : decode cX1_leftAtWorst 22 = .ok (.iload_n 1, 1) := by decide +kernel
theorem dX1_leftAtWorst_23 : decode cX1_leftAtWorst 23 = .ok (.iload 4, 2) := by decide +kernel
theorem dX1_leftAtWorst_25 : decode cX1_leftAtWorst 25 = .ok (.iload_n 2, 1) := by decide +kernel
theorem dX1_leftAtWorst_26 : decode cX1_leftAtWorst 26 = .ok (.invokevirtual 88, 3) := by decide +kernel
theorem dX1_leftAtWorst_29 : decode cX1_leftAtWorst 29 = .ok (.invokestatic 92, 3) := by decide +kernel
theorem dX1_leftAtWorst_32 : decode cX1_leftAtWorst 32 = .ok (.istore_n 3, 1) := by decide +kernel
theorem dX1_leftAtWorst_33 : decode cX1_leftAtWorst 33 = .ok (.iinc 4 1, 3) := by decide +kernel
theorem dX1_leftAtWorst_36 : decode cX1_leftAtWorst 36 = .ok (.goto (-31), 3) := by decide +kernel
theorem dX1_leftAtWorst_39 : decode cX1_leftAtWorst 39 = .ok (.iload_n 3, 1) := by decide +kernel
theorem dX1_leftAtWorst_40 : decode cX1_leftAtWorst 40 = .ok (.ireturn, 1) := by decide +kernel
abbrev kwX1_leftAtWorst (cI cZ cG : ClassId) (q q_track q_town q_track_0 q_track_1 q_track_2 q_track_3 q_track_4 : Nat) (v_track_0 : (Nat → Int32)) (v_track_1 : (Nat → Int32)) (v_track_2 : (Nat → Int32)) (v_track_3 : (Nat → Int32)) (v_track_4 : (Nat → Int32)) : va_W := [(q, .inr (1, [.ref q_track, .ref q_town])), (q_track, .inl (cG, 5, .inr (.inr (.inr (.inr (fun i => if i = 0 then some q_track_0 else if i = 1 then some q_track_1 else if i = 2 then some q_track_2 else if i = 3 then some q_track_3 else if i = 4 then some q_track_4 else none)))))), (q_track_0, .inl (cI, 41, .inl v_track_0)), (q_track_1, .inl (cI, 41, .inl v_track_1)), (q_track_2, .inl (cI, 41, .inl v_track_2)), (q_track_3, .inl (cI, 41, .inl v_track_3)), (q_track_4, .inl (cI, 41, .inl v_track_4))]
noncomputable def fX1_leftAtWorst_5 (N : Nat) (v_track_0 : (Nat → Int32)) (v_track_1 : (Nat → Int32)) (v_track_2 : (Nat → Int32)) (v_track_3 : (Nat → Int32)) (v_track_4 : (Nat → Int32)) (a1 : Int32) (a2 : Int32)  (K_5 : Int32 → Int32 → Option (Int32)) (l3 : Int32) (l4 : Int32) : Option (Int32) := if (5 : Int32) ≤ l4 then (some l3) else ((fX1_has N a1 l4).bind (fun x_14 => if x_14 = 0 then (K_5 l3 (l4 + (1 : Int32))) else ((fX1_seenAlike N v_track_0 v_track_1 v_track_2 v_track_3 v_track_4 a1 l4 a2).bind (fun x_26 => K_5 (if l3 < x_26 then x_26 else l3) (l4 + (1 : Int32))))))
noncomputable def fX1_leftAtWorst (N : Nat) (v_track_0 : (Nat → Int32)) (v_track_1 : (Nat → Int32)) (v_track_2 : (Nat → Int32)) (v_track_3 : (Nat → Int32)) (v_track_4 : (Nat → Int32)) (a1 : Int32) (a2 : Int32)   : Option (Int32) := lfix (fun (K : Int32 × Int32 → Option (Int32)) (a : Int32 × Int32) => fX1_leftAtWorst_5 N v_track_0 v_track_1 v_track_2 v_track_3 v_track_4 a1 a2 (fun (l3 : Int32) (l4 : Int32) => K (l3, l4)) a.1 a.2) N ((0 : Int32), (0 : Int32))
set_option maxHeartbeats 4000000 in
set_option maxRecDepth 100000 in
theorem wX1_leftAtWorst_5 {p : Program} {l : Launch} {e : Env} {R : Room} {s : State} {m : MethodId} {args : Array Value} {below : List Frame} {meth : Method} {c : Code} {cells slots : Nat} {Q : State → Prop} {D : va_G} {A : Nat → Prop} {cI cZ cG : ClassId} {q q_track q_town q_track_0 q_track_1 q_track_2 q_track_3 q_track_4 : Nat} {v_track_0 : (Nat → Int32)} {v_track_1 : (Nat → Int32)} {v_track_2 : (Nat → Int32)} {v_track_3 : (Nat → Int32)} {v_track_4 : (Nat → Int32)} {a1 : Int32} {a2 : Int32} {N : Nat} {ρ : Int32} (X : CX p s m args c cX1_leftAtWorst 5 RX1 D (TY cI cZ cG) A) (hrm : RM R 2 46 cells slots) (ret : ∀ (pc : Nat) (H : Heap) (locs : List Loc) (ls : Array Slot), decode cX1_leftAtWorst pc = .ok (.ireturn, 1) → WD D A (kwX1_leftAtWorst cI cZ cG q q_track q_town q_track_0 q_track_1 q_track_2 q_track_3 q_track_4 v_track_0 v_track_1 v_track_2 v_track_3 v_track_4) s.heap H locs → W p l e R s m args below meth c H locs cells slots Q (F0 m pc ls [.int ρ]))  : ∀ (n : Nat) (a : Int32 × Int32), lfix (fun (K : Int32 × Int32 → Option (Int32)) (a : Int32 × Int32) => fX1_leftAtWorst_5 N v_track_0 v_track_1 v_track_2 v_track_3 v_track_4 a1 a2 (fun (l3 : Int32) (l4 : Int32) => K (l3, l4)) a.1 a.2) n a = some ρ → (fun (l3 : Int32) (l4 : Int32) => ∀ (H : Heap) (locs : List Loc) (ls : Array Slot), WD D A (kwX1_leftAtWorst cI cZ cG q q_track q_town q_track_0 q_track_1 q_track_2 q_track_3 q_track_4 v_track_0 v_track_1 v_track_2 v_track_3 v_track_4) s.heap H locs → lv_has ls 5 [(0, .ref q), (1, .int a1), (2, .int a2), (3, .int l3), (4, .int l4)] → W p l e R s m args below meth c H locs cells slots Q (F0 m 5 ls [])) (a.1) (a.2) := by
  have hx := X.1.1
  have hb := X.1.2.1
  refine lfix_W (fun K hK a h => ?_)
  obtain ⟨l3, l4⟩ := a
  intro H locs ls hw hl
  have h : fX1_leftAtWorst_5 N v_track_0 v_track_1 v_track_2 v_track_3 v_track_4 a1 a2 (fun (l3 : Int32) (l4 : Int32) => K (l3, l4)) l3 l4 = some ρ := h
  have hK_5 : ∀ (l3 : Int32) (l4 : Int32), (fun (l3 : Int32) (l4 : Int32) => K (l3, l4)) l3 l4 = some ρ → ∀ (H : Heap) (locs : List Loc) (ls : Array Slot), WD D A (kwX1_leftAtWorst cI cZ cG q q_track q_town q_track_0 q_track_1 q_track_2 q_track_3 q_track_4 v_track_0 v_track_1 v_track_2 v_track_3 v_track_4) s.heap H locs → lv_has ls 5 [(0, .ref q), (1, .int a1), (2, .int a2), (3, .int l3), (4, .int l4)] → W p l e R s m args below meth c H locs cells slots Q (F0 m 5 ls []) := fun l3 l4 h => hK (l3, l4) h
  generalize (fun (l3 : Int32) (l4 : Int32) => K (l3, l4)) = K_5 at h hK_5
  have hw : WD D A (kwX1_leftAtWorst cI cZ cG q q_track q_town q_track_0 q_track_1 q_track_2 q_track_3 q_track_4 v_track_0 v_track_1 v_track_2 v_track_3 v_track_4) s.heap H locs := hw
  have hl : lv_has ls 5 [(0, .ref q), (1, .int a1), (2, .int a2), (3, .int l3), (4, .int l4)] := hl
  unfold fX1_leftAtWorst_5 at h
  refine lv_iload hx hb dX1_leftAtWorst_5 (lv_at hl 4 rfl) ?_
  refine lv_iconst (v := (5 : Int32)) hx hb dX1_leftAtWorst_7 (by decide) ?_
  refine lv_icmp_ge (tgt := 39) hx hb dX1_leftAtWorst_8 (by decide) (fun c_8 => ?_) (fun c_8 => ?_)
  · have h := ift c_8 h
    refine lv_iload_n hx hb dX1_leftAtWorst_39 rfl (lv_at hl 3 rfl) ?_
    obtain rfl := Option.some.inj h
    exact ret _ _ _ _ dX1_leftAtWorst_40 hw
  · have h := iff_ c_8 h
    refine lv_iload_n hx hb dX1_leftAtWorst_11 rfl (lv_at hl 1 rfl) ?_
    refine lv_iload hx hb dX1_leftAtWorst_12 (lv_at hl 4 rfl) ?_
    obtain ⟨x_14, hc_14, h⟩ := obd h
    refine ksS_i (ws2 := (kwX1_leftAtWorst cI cZ cG q q_track q_town q_track_0 q_track_1 q_track_2 q_track_3 q_track_4 v_track_0 v_track_1 v_track_2 v_track_3 v_track_4)) (nW := 7) (As := [.int a1, .int l4]) (rest := []) X hw (cX1_has_ct l D cI cZ cG a1 l4 N x_14 hc_14 H.size) mX1_has tw_204 (hrm.call (by decide) (by decide)) [] rfl (by decide) rfl (by decide) rfl ⟨rfl, ⟨rfl, ⟨rfl, ⟨rfl, ⟨rfl, ⟨rfl, ⟨rfl, trivial⟩⟩⟩⟩⟩⟩⟩ rfl hl.1 rfl (Nat.le_of_ble_eq_true rfl) dX1_leftAtWorst_14 ⟨hrm.2.2.1, hrm.2.2.2⟩ (fun H locs hw => ?_)
    refine lv_if_eq (tgt := 33) hx hb dX1_leftAtWorst_17 (by decide) (fun c_17 => ?_) (fun c_17 => ?_)
    · have h := ift c_17 h
      refine lv_iinc (v := (l4 + (1 : Int32))) (lv' := [(4, .int (l4 + (1 : Int32))), (0, .ref q), (1, .int a1), (2, .int a2), (3, .int l3)]) hx hb dX1_leftAtWorst_33 hl (k := 4) rfl (congrArg (l4 + ·) (by decide)) (by decide) rfl (fun ls hl => ?_)
      refine lv_goto (tgt := 5) hx hb dX1_leftAtWorst_36 (by decide) ?_
      exact hK_5 _ _ h _ _ _ hw (lv_sub hl [1, 2, 3, 4, 0] rfl)
    · have h := iff_ c_17 h
      refine lv_iload_n hx hb dX1_leftAtWorst_20 rfl (lv_at hl 3 rfl) ?_
      refine lv_aload_n hx hb dX1_leftAtWorst_21 rfl (lv_at hl 0 rfl) ?_
      refine lv_iload_n hx hb dX1_leftAtWorst_22 rfl (lv_at hl 1 rfl) ?_
      refine lv_iload hx hb dX1_leftAtWorst_23 (lv_at hl 4 rfl) ?_
      refine lv_iload_n hx hb dX1_leftAtWorst_25 rfl (lv_at hl 2 rfl) ?_
      obtain ⟨x_26, hc_26, h⟩ := obd h
      refine ksV_i (ws2 := (kwX1_leftAtWorst cI cZ cG q q_track q_town q_track_0 q_track_1 q_track_2 q_track_3 q_track_4 v_track_0 v_track_1 v_track_2 v_track_3 v_track_4)) (nW := 7) (ci := 1) (As := [.int a1, .int l4, .int a2]) (rest := [.int l3]) X hw rfl rfl rfl (cX1_seenAlike_ct l D cI cZ cG q q_track q_town q_track_0 q_track_1 q_track_2 q_track_3 q_track_4 v_track_0 v_track_1 v_track_2 v_track_3 v_track_4 a1 l4 a2 N x_26 hc_26 H.size) mX1_seenAlike tw_208 (hrm.call (by decide) (by decide)) [0, 1, 2, 3, 4, 5, 6] rfl (by decide) rfl (by decide) rfl trivial rfl hl.1 rfl (Nat.le_of_ble_eq_true rfl) dX1_leftAtWorst_26 ⟨hrm.2.2.1, hrm.2.2.2⟩ (fun H locs hw => ?_)
      refine kmax X hl.1 tw_209 tw_131 tw_88 tw_132 (Nat.le_trans (by decide) hrm.1) (Nat.le_trans (Nat.le_of_ble_eq_true rfl) hrm.2.1) ⟨hrm.2.2.1, hrm.2.2.2⟩ dX1_leftAtWorst_29 ?_
      refine lv_istore_n (lv' := [(3, .int (if l3 < x_26 then x_26 else l3)), (0, .ref q), (1, .int a1), (2, .int a2), (4, .int l4)]) hx hb dX1_leftAtWorst_32 rfl hl (by decide) rfl (fun ls hl => ?_)
      refine lv_iinc (v := (l4 + (1 : Int32))) (lv' := [(4, .int (l4 + (1 : Int32))), (3, .int (if l3 < x_26 then x_26 else l3)), (0, .ref q), (1, .int a1), (2, .int a2)]) hx hb dX1_leftAtWorst_33 hl (k := 4) rfl (congrArg (l4 + ·) (by decide)) (by decide) rfl (fun ls hl => ?_)
      refine lv_goto (tgt := 5) hx hb dX1_leftAtWorst_36 (by decide) ?_
      exact hK_5 _ _ h _ _ _ hw (lv_sub hl [2, 3, 4, 1, 0] rfl)
set_option maxHeartbeats 4000000 in
set_option maxRecDepth 100000 in
theorem wX1_leftAtWorst {p : Program} {l : Launch} {e : Env} {R : Room} {s : State} {m : MethodId} {args : Array Value} {below : List Frame} {meth : Method} {c : Code} {cells slots : Nat} {Q : State → Prop} {D : va_G} {A : Nat → Prop} {cI cZ cG : ClassId} {q q_track q_town q_track_0 q_track_1 q_track_2 q_track_3 q_track_4 : Nat} {v_track_0 : (Nat → Int32)} {v_track_1 : (Nat → Int32)} {v_track_2 : (Nat → Int32)} {v_track_3 : (Nat → Int32)} {v_track_4 : (Nat → Int32)} {a1 : Int32} {a2 : Int32} {N : Nat} {ρ : Int32} (X : CX p s m args c cX1_leftAtWorst 5 RX1 D (TY cI cZ cG) A) (hrm : RM R 2 46 cells slots) (ret : ∀ (pc : Nat) (H : Heap) (locs : List Loc) (ls : Array Slot), decode cX1_leftAtWorst pc = .ok (.ireturn, 1) → WD D A (kwX1_leftAtWorst cI cZ cG q q_track q_town q_track_0 q_track_1 q_track_2 q_track_3 q_track_4 v_track_0 v_track_1 v_track_2 v_track_3 v_track_4) s.heap H locs → W p l e R s m args below meth c H locs cells slots Q (F0 m pc ls [.int ρ])) (h : fX1_leftAtWorst N v_track_0 v_track_1 v_track_2 v_track_3 v_track_4 a1 a2   = some ρ) (H : Heap) (locs : List Loc) (ls : Array Slot) (hw : WD D A (kwX1_leftAtWorst cI cZ cG q q_track q_town q_track_0 q_track_1 q_track_2 q_track_3 q_track_4 v_track_0 v_track_1 v_track_2 v_track_3 v_track_4) s.heap H locs) (hl : lv_has ls 5 [(0, .ref q), (1, .int a1), (2, .int a2)]) : W p l e R s m args below meth c H locs cells slots Q (F0 m 0 ls []) := by
  have hx := X.1.1
  have hb := X.1.2.1
  unfold fX1_leftAtWorst at h
  refine lv_iconst (v := (0 : Int32)) hx hb dX1_leftAtWorst_0 (by decide) ?_
  refine lv_istore_n (lv' := [(3, .int (0 : Int32)), (0, .ref q), (1, .int a1), (2, .int a2)]) hx hb dX1_leftAtWorst_1 rfl hl (by decide) rfl (fun ls hl => ?_)
  refine lv_iconst (v := (0 : Int32)) hx hb dX1_leftAtWorst_2 (by decide) ?_
  refine lv_istore (lv' := [(4, .int (0 : Int32)), (3, .int (0 : Int32)), (0, .ref q), (1, .int a1), (2, .int a2)]) hx hb dX1_leftAtWorst_3 hl (by decide) rfl (fun ls hl => ?_)
  exact wX1_leftAtWorst_5 X hrm ret  _ _ h _ _ _ hw (lv_sub hl [2, 3, 4, 1, 0] rfl)
set_option maxHeartbeats 4000000 in
set_option maxRecDepth 100000 in
theorem cX1_leftAtWorst_ct (l : Launch) (D : va_G) (cI cZ cG : ClassId) (q q_track q_town q_track_0 q_track_1 q_track_2 q_track_3 q_track_4 : Nat)  (v_track_0 : (Nat → Int32)) (v_track_1 : (Nat → Int32)) (v_track_2 : (Nat → Int32)) (v_track_3 : (Nat → Int32)) (v_track_4 : (Nat → Int32)) (a1 : Int32) (a2 : Int32) (N : Nat) (ρ : Int32) (h : fX1_leftAtWorst N v_track_0 v_track_1 v_track_2 v_track_3 v_track_4 a1 a2   = some ρ) (sz : Nat) : Met l yX1_leftAtWorst (wz yX1_leftAtWorst cX1_leftAtWorst 5 (some .int)) (cRm 2 46) (cPre D (TY cI cZ cG) [.ref q, .int a1, .int a2] (kwX1_leftAtWorst cI cZ cG q q_track q_town q_track_0 q_track_1 q_track_2 q_track_3 q_track_4 v_track_0 v_track_1 v_track_2 v_track_3 v_track_4) sz) (cQi D (ρ) (kwX1_leftAtWorst cI cZ cG q q_track q_town q_track_0 q_track_1 q_track_2 q_track_3 q_track_4 v_track_0 v_track_1 v_track_2 v_track_3 v_track_4) (kwX1_leftAtWorst cI cZ cG q q_track q_town q_track_0 q_track_1 q_track_2 q_track_3 q_track_4 v_track_0 v_track_1 v_track_2 v_track_3 v_track_4) sz) 0 0 (va_A (kwX1_leftAtWorst cI cZ cG q q_track q_town q_track_0 q_track_1 q_track_2 q_track_3 q_track_4 v_track_0 v_track_1 v_track_2 v_track_3 v_track_4) sz) :=
  mk_i (by decide) (Nat.le_of_ble_eq_true rfl) (fun X hrm ret hw hl => wX1_leftAtWorst X hrm ret h _ _ _ hw hl)
theorem dX1_nightToLook_0 : decode cX1_nightToLook 0 = .ok (.aload_n 0, 1) := by decide +kernel
theorem dX1_nightToLook_1 : decode cX1_nightToLook 1 = .ok (.iload_n 1, 1) := by decide +kernel
theorem dX1_nightToLook_2 : decode cX1_nightToLook 2 = .ok (.aload_n 2, 1) := by decide +kernel
theorem dX1_nightToLook_3 : decode cX1_nightToLook 3 = .ok (.getfield 23, 3) := by decide +kernel
theorem dX1_nightToLook_6 : decode cX1_nightToLook 6 = .ok (.bipush 40, 2) := by decide +kernel
theorem dX1_nightToLook_8 : decode cX1_nightToLook 8 = .ok (.invokevirtual 36, 3) := by decide +kernel
theorem dX1_nightToLook_11 : decode cX1_nightToLook 11 = .ok (.aload_n 0, 1) := by decide +kernel
theorem dX1_nightToLook_12 : decode cX1_nightToLook 12 = .ok (.iload_n 1, 1) := by decide +kernel
theorem dX1_nightToLook_13 : decode cX1_nightToLook 13 = .ok (.aload_n 2, 1) := by decide +kernel
theorem dX1_nightToLook_14 : decode cX1_nightToLook 14 = .ok (.getfield 26, 3) := by decide +kernel
theorem dX1_nightToLook_17 : decode cX1_nightToLook 17 = .ok (.invokevirtual 40, 3) := by decide +kernel
theorem dX1_nightToLook_20 : decode cX1_nightToLook 20 = .ok (.istore_n 3, 1) := by decide +kernel
theorem dX1_nightToLook_21 : decode cX1_nightToLook 21 = .ok (.iload_n 3, 1) := by decide +kernel
theorem dX1_nightToLook_22 : decode cX1_nightToLook 22 = .ok (.ifCond .ne 5, 3) := by decide +kernel
theorem dX1_nightToLook_25 : decode cX1_nightToLook 25 = .ok (.iconst (-1), 1) := by decide +kernel
theorem dX1_nightToLook_26 : decode cX1_nightToLook 26 = .ok (.ireturn, 1) := by decide +kernel
theorem dX1_nightToLook_27 : decode cX1_nightToLook 27 = .ok (.iconst (-1), 1) := by decide +kernel
theorem dX1_nightToLook_28 : decode cX1_nightToLook 28 = .ok (.istore 4, 2) := by decide +kernel
theorem dX1_nightToLook_30 : decode cX1_nightToLook 30 = .ok (.bipush 6, 2) := by decide +kernel
theorem dX1_nightToLook_32 : decode cX1_nightToLook 32 = .ok (.istore 5, 2) := by decide +kernel
theorem dX1_nightToLook_34 : decode cX1_nightToLook 34 = .ok (.iconst 1, 1) := by decide +kernel
theorem dX1_nightToLook_35 : decode cX1_nightToLook 35 = .ok (.istore 6, 2) := by decide +kernel
theorem dX1_nightToLook_37 : decode cX1_nightToLook 37 = .ok (.iload 6, 2) := by decide +kernel
theorem dX1_nightToLook_39 : decode cX1_nightToLook 39 = .ok (.bipush 40, 2) := by decide +kernel
theorem dX1_nightToLook_41 : decode cX1_nightToLook 41 = .ok (.if_icmp .gt 33, 3) := by decide +kernel
theorem dX1_nightToLook_44 : decode cX1_nightToLook 44 = .ok (.aload_n 0, 1) := by decide +kernel
theorem dX1_nightToLook_45 : decode cX1_nightToLook 45 = .ok (.iload_n 3, 1) := by decide +kernel
theorem dX1_nightToLook_46 : decode cX1_nightToLook 46 = .ok (.iload 6, 2) := by decide +kernel
theorem dX1_nightToLook_48 : decode cX1_nightToLook 48 = .ok (.invokevirtual 44, 3) := by decide +kernel
theorem dX1_nightToLook_51 : decode cX1_nightToLook 51 = .ok (.istore 7, 2) := by decide +kernel
theorem dX1_nightToLook_53 : decode cX1_nightToLook 53 = .ok (.iload 7, 2) := by decide +kernel
theorem dX1_nightToLook_55 : decode cX1_nightToLook 55 = .ok (.iload 5, 2) := by decide +kernel
theorem dX1_nightToLook_57 : decode cX1_nightToLook 57 = .ok (.if_icmp .ge 11, 3) := by decide +kernel
theorem dX1_nightToLook_60 : decode cX1_nightToLook 60 = .ok (.iload 7, 2) := by decide +kernel
theorem dX1_nightToLook_62 : decode cX1_nightToLook 62 = .ok (.istore 5, 2) := by decide +kernel
theorem dX1_nightToLook_64 : decode cX1_nightToLook 64 = .ok (.iload 6, 2) := by decide +kernel
theorem dX1_nightToLook_66 : decode cX1_nightToLook 66 = .ok (.istore 4, 2) := by decide +kernel
theorem dX1_nightToLook_68 : decode cX1_nightToLook 68 = .ok (.iinc 6 1, 3) := by decide +kernel
theorem dX1_nightToLook_71 : decode cX1_nightToLook 71 = .ok (.goto (-34), 3) := by decide +kernel
theorem dX1_nightToLook_74 : decode cX1_nightToLook 74 = .ok (.iload 4, 2) := by decide +kernel
theorem dX1_nightToLook_76 : decode cX1_nightToLook 76 = .ok (.ireturn, 1) := by decide +kernel
abbrev kwX1_nightToLook (cI cZ cG : ClassId) (q q_track q_town q2 q2_town q2_had q2_wishes q2_seen q_town_kindOf q_town_plotOf q_town_row q_town_standsOn q2_town_kindOf q2_town_plotOf q2_town_row q2_town_standsOn q_track_0 q_track_1 q_track_2 q_track_3 q_track_4 q2_seen_house q2_seen_plot q2_seen_night : Nat) (w2_nights : Int32) (v_town_houses : Int32) (v_town_front : Int32) (v_town_downFor : Int32) (w2_town_houses : Int32) (w2_town_front : Int32) (w2_town_downFor : Int32) (w2_town_kindOf : (Nat → Int32)) (v_town_kindOf : (Nat → Int32)) (w2_town_plotOf : (Nat → Int32)) (v_town_plotOf : (Nat → Int32)) (w2_town_row : (Nat → Int32)) (v_town_row : (Nat → Int32)) (w2_town_standsOn : (Nat → Int32)) (v_town_standsOn : (Nat → Int32)) (v_track_0 : (Nat → Int32)) (v_track_1 : (Nat → Int32)) (v_track_2 : (Nat → Int32)) (v_track_3 : (Nat → Int32)) (v_track_4 : (Nat → Int32)) (w2_seen_size : Int32) (w2_seen_house : (Nat → Int32)) (w2_seen_night : (Nat → Int32)) (w2_seen_plot : (Nat → Int32)) : va_W := [(q, .inr (1, [.ref q_track, .ref q_town])), (q2, .inr (5, [.ref q2_town, .ref q2_had, .ref q2_wishes, .ref q2_seen, .int w2_nights])), (q_town, .inr (6, [.ref q_town_kindOf, .ref q_town_plotOf, .ref q_town_row, .ref q_town_standsOn, .int v_town_houses, .int v_town_front, .int v_town_downFor])), (q2_town, .inr (6, [.ref q2_town_kindOf, .ref q2_town_plotOf, .ref q2_town_row, .ref q2_town_standsOn, .int w2_town_houses, .int w2_town_front, .int w2_town_downFor])), (q2_town_kindOf, .inl (cI, 6, .inl w2_town_kindOf)), (q_town_kindOf, .inl (cI, 6, .inl v_town_kindOf)), (q2_town_plotOf, .inl (cI, 6, .inl w2_town_plotOf)), (q_town_plotOf, .inl (cI, 6, .inl v_town_plotOf)), (q2_town_row, .inl (cI, 6, .inl w2_town_row)), (q_town_row, .inl (cI, 6, .inl v_town_row)), (q2_town_standsOn, .inl (cI, 12, .inl w2_town_standsOn)), (q_town_standsOn, .inl (cI, 12, .inl v_town_standsOn)), (q_track, .inl (cG, 5, .inr (.inr (.inr (.inr (fun i => if i = 0 then some q_track_0 else if i = 1 then some q_track_1 else if i = 2 then some q_track_2 else if i = 3 then some q_track_3 else if i = 4 then some q_track_4 else none)))))), (q_track_0, .inl (cI, 41, .inl v_track_0)), (q_track_1, .inl (cI, 41, .inl v_track_1)), (q_track_2, .inl (cI, 41, .inl v_track_2)), (q_track_3, .inl (cI, 41, .inl v_track_3)), (q_track_4, .inl (cI, 41, .inl v_track_4)), (q2_seen, .inr (2, [.ref q2_seen_house, .ref q2_seen_plot, .ref q2_seen_night, .int w2_seen_size])), (q2_seen_house, .inl (cI, 6, .inl w2_seen_house)), (q2_seen_night, .inl (cI, 6, .inl w2_seen_night)), (q2_seen_plot, .inl (cI, 6, .inl w2_seen_plot))]
noncomputable def fX1_nightToLook_37 (N : Nat) (w2_town_houses : Int32) (w2_town_front : Int32) (w2_town_downFor : Int32) (w2_town_kindOf : (Nat → Int32)) (w2_town_plotOf : (Nat → Int32)) (w2_town_row : (Nat → Int32)) (w2_town_standsOn : (Nat → Int32)) (w2_seen_size : Int32) (w2_seen_house : (Nat → Int32)) (w2_seen_night : (Nat → Int32)) (w2_seen_plot : (Nat → Int32)) (a1 : Int32)  (K_37 : Int32 → Int32 → Int32 → Int32 → Int32 → Int32 → Int32 → (Nat → Int32) → (Nat → Int32) → (Nat → Int32) → (Nat → Int32) → (Nat → Int32) → (Nat → Int32) → (Nat → Int32) → (Nat → Int32) → (Nat → Int32) → Option (Int32 × Int32 × Int32 × Int32 × (Nat → Int32) × (Nat → Int32) × (Nat → Int32) × (Nat → Int32) × (Nat → Int32) × (Nat → Int32) × (Nat → Int32) × (Nat → Int32) × (Nat → Int32))) (l3 : Int32) (l4 : Int32) (l5 : Int32) (l6 : Int32) (v_town_houses : Int32) (v_town_front : Int32) (v_town_downFor : Int32) (v_town_kindOf : (Nat → Int32)) (v_town_plotOf : (Nat → Int32)) (v_town_row : (Nat → Int32)) (v_town_standsOn : (Nat → Int32)) (v_track_0 : (Nat → Int32)) (v_track_1 : (Nat → Int32)) (v_track_2 : (Nat → Int32)) (v_track_3 : (Nat → Int32)) (v_track_4 : (Nat → Int32)) : Option (Int32 × Int32 × Int32 × Int32 × (Nat → Int32) × (Nat → Int32) × (Nat → Int32) × (Nat → Int32) × (Nat → Int32) × (Nat → Int32) × (Nat → Int32) × (Nat → Int32) × (Nat → Int32)) := if (40 : Int32) < l6 then (some (l4, v_town_houses, v_town_front, v_town_downFor, v_town_kindOf, v_town_plotOf, v_town_row, v_town_standsOn, v_track_0, v_track_1, v_track_2, v_track_3, v_track_4)) else ((fX1_leftAtWorst N v_track_0 v_track_1 v_track_2 v_track_3 v_track_4 l3 l6).bind (fun x_48 => if l5 ≤ x_48 then (K_37 l3 l4 l5 (l6 + (1 : Int32)) v_town_houses v_town_front v_town_downFor v_town_kindOf v_town_plotOf v_town_row v_town_standsOn v_track_0 v_track_1 v_track_2 v_track_3 v_track_4) else (K_37 l3 l6 x_48 (l6 + (1 : Int32)) v_town_houses v_town_front v_town_downFor v_town_kindOf v_town_plotOf v_town_row v_town_standsOn v_track_0 v_track_1 v_track_2 v_track_3 v_track_4)))
noncomputable def fX1_nightToLook (N : Nat) (w2_town_houses : Int32) (w2_town_front : Int32) (w2_town_downFor : Int32) (w2_town_kindOf : (Nat → Int32)) (w2_town_plotOf : (Nat → Int32)) (w2_town_row : (Nat → Int32)) (w2_town_standsOn : (Nat → Int32)) (w2_seen_size : Int32) (w2_seen_house : (Nat → Int32)) (w2_seen_night : (Nat → Int32)) (w2_seen_plot : (Nat → Int32)) (a1 : Int32) (v_town_houses : Int32) (v_town_front : Int32) (v_town_downFor : Int32) (v_town_kindOf : (Nat → Int32)) (v_town_plotOf : (Nat → Int32)) (v_town_row : (Nat → Int32)) (v_town_standsOn : (Nat → Int32)) (v_track_0 : (Nat → Int32)) (v_track_1 : (Nat → Int32)) (v_track_2 : (Nat → Int32)) (v_track_3 : (Nat → Int32)) (v_track_4 : (Nat → Int32))  : Option (Int32 × Int32 × Int32 × Int32 × (Nat → Int32) × (Nat → Int32) × (Nat → Int32) × (Nat → Int32) × (Nat → Int32) × (Nat → Int32) × (Nat → Int32) × (Nat → Int32) × (Nat → Int32)) := (fX1_follow N w2_town_houses w2_town_front w2_town_downFor w2_town_kindOf w2_town_plotOf w2_town_row w2_town_standsOn a1 (40 : Int32) v_town_houses v_town_front v_town_downFor v_town_kindOf v_town_plotOf v_town_row v_town_standsOn v_track_0 v_track_1 v_track_2 v_track_3 v_track_4).bind (fun x_8 => (fX1_kindsByTracks N 6 w2_seen_size w2_seen_house x_8.2.2.2.2.2.2.2.1 x_8.2.2.2.2.2.2.2.2.1 x_8.2.2.2.2.2.2.2.2.2.1 x_8.2.2.2.2.2.2.2.2.2.2.1 x_8.2.2.2.2.2.2.2.2.2.2.2 w2_seen_night w2_seen_plot a1).bind (fun x_17 => if x_17 = 0 then (some ((-1 : Int32), x_8.1, x_8.2.1, x_8.2.2.1, x_8.2.2.2.1, x_8.2.2.2.2.1, x_8.2.2.2.2.2.1, x_8.2.2.2.2.2.2.1, x_8.2.2.2.2.2.2.2.1, x_8.2.2.2.2.2.2.2.2.1, x_8.2.2.2.2.2.2.2.2.2.1, x_8.2.2.2.2.2.2.2.2.2.2.1, x_8.2.2.2.2.2.2.2.2.2.2.2)) else (lfix (fun (K : Int32 × Int32 × Int32 × Int32 × Int32 × Int32 × Int32 × (Nat → Int32) × (Nat → Int32) × (Nat → Int32) × (Nat → Int32) × (Nat → Int32) × (Nat → Int32) × (Nat → Int32) × (Nat → Int32) × (Nat → Int32) → Option (Int32 × Int32 × Int32 × Int32 × (Nat → Int32) × (Nat → Int32) × (Nat → Int32) × (Nat → Int32) × (Nat → Int32) × (Nat → Int32) × (Nat → Int32) × (Nat → Int32) × (Nat → Int32))) (a : Int32 × Int32 × Int32 × Int32 × Int32 × Int32 × Int32 × (Nat → Int32) × (Nat → Int32) × (Nat → Int32) × (Nat → Int32) × (Nat → Int32) × (Nat → Int32) × (Nat → Int32) × (Nat → Int32) × (Nat → Int32)) => fX1_nightToLook_37 N w2_town_houses w2_town_front w2_town_downFor w2_town_kindOf w2_town_plotOf w2_town_row w2_town_standsOn w2_seen_size w2_seen_house w2_seen_night w2_seen_plot a1 (fun (l3 : Int32) (l4 : Int32) (l5 : Int32) (l6 : Int32) (v_town_houses : Int32) (v_town_front : Int32) (v_town_downFor : Int32) (v_town_kindOf : (Nat → Int32)) (v_town_plotOf : (Nat → Int32)) (v_town_row : (Nat → Int32)) (v_town_standsOn : (Nat → Int32)) (v_track_0 : (Nat → Int32)) (v_track_1 : (Nat → Int32)) (v_track_2 : (Nat → Int32)) (v_track_3 : (Nat → Int32)) (v_track_4 : (Nat → Int32)) => K (l3, l4, l5, l6, v_town_houses, v_town_front, v_town_downFor, v_town_kindOf, v_town_plotOf, v_town_row, v_town_standsOn, v_track_0, v_track_1, v_track_2, v_track_3, v_track_4)) a.1 a.2.1 a.2.2.1 a.2.2.2.1 a.2.2.2.2.1 a.2.2.2.2.2.1 a.2.2.2.2.2.2.1 a.2.2.2.2.2.2.2.1 a.2.2.2.2.2.2.2.2.1 a.2.2.2.2.2.2.2.2.2.1 a.2.2.2.2.2.2.2.2.2.2.1 a.2.2.2.2.2.2.2.2.2.2.2.1 a.2.2.2.2.2.2.2.2.2.2.2.2.1 a.2.2.2.2.2.2.2.2.2.2.2.2.2.1 a.2.2.2.2.2.2.2.2.2.2.2.2.2.2.1 a.2.2.2.2.2.2.2.2.2.2.2.2.2.2.2) N (x_17, (-1 : Int32), (6 : Int32), (1 : Int32), x_8.1, x_8.2.1, x_8.2.2.1, x_8.2.2.2.1, x_8.2.2.2.2.1, x_8.2.2.2.2.2.1, x_8.2.2.2.2.2.2.1, x_8.2.2.2.2.2.2.2.1, x_8.2.2.2.2.2.2.2.2.1, x_8.2.2.2.2.2.2.2.2.2.1, x_8.2.2.2.2.2.2.2.2.2.2.1, x_8.2.2.2.2.2.2.2.2.2.2.2))))
set_option maxHeartbeats 4000000 in
set_option maxRecDepth 100000 in
theorem wX1_nightToLook_37 {p : Program} {l : Launch} {e : Env} {R : Room} {s : State} {m : MethodId} {args : Array Value} {below : List Frame} {meth : Method} {c : Code} {cells slots : Nat} {Q : State → Prop} {D : va_G} {A : Nat → Prop} {cI cZ cG : ClassId} {q q_track q_town q2 q2_town q2_had q2_wishes q2_seen q_town_kindOf q_town_plotOf q_town_row q_town_standsOn q2_town_kindOf q2_town_plotOf q2_town_row q2_town_standsOn q_track_0 q_track_1 q_track_2 q_track_3 q_track_4 q2_seen_house q2_seen_plot q2_seen_night : Nat} {w2_nights : Int32} {w2_town_houses : Int32} {w2_town_front : Int32} {w2_town_downFor : Int32} {w2_town_kindOf : (Nat → Int32)} {w2_town_plotOf : (Nat → Int32)} {w2_town_row : (Nat → Int32)} {w2_town_standsOn : (Nat → Int32)} {w2_seen_size : Int32} {w2_seen_house : (Nat → Int32)} {w2_seen_night : (Nat → Int32)} {w2_seen_plot : (Nat → Int32)} {a1 : Int32} {N : Nat} {ρ : Int32 × Int32 × Int32 × Int32 × (Nat → Int32) × (Nat → Int32) × (Nat → Int32) × (Nat → Int32) × (Nat → Int32) × (Nat → Int32) × (Nat → Int32) × (Nat → Int32) × (Nat → Int32)} (X : CX p s m args c cX1_nightToLook 8 RX1 D (TY cI cZ cG) A) (hrm : RM R 4 93 cells slots) (ret : ∀ (pc : Nat) (H : Heap) (locs : List Loc) (ls : Array Slot), decode cX1_nightToLook pc = .ok (.ireturn, 1) → WD D A (kwX1_nightToLook cI cZ cG q q_track q_town q2 q2_town q2_had q2_wishes q2_seen q_town_kindOf q_town_plotOf q_town_row q_town_standsOn q2_town_kindOf q2_town_plotOf q2_town_row q2_town_standsOn q_track_0 q_track_1 q_track_2 q_track_3 q_track_4 q2_seen_house q2_seen_plot q2_seen_night w2_nights (ρ.2.1) (ρ.2.2.1) (ρ.2.2.2.1) w2_town_houses w2_town_front w2_town_downFor w2_town_kindOf (ρ.2.2.2.2.1) w2_town_plotOf (ρ.2.2.2.2.2.1) w2_town_row (ρ.2.2.2.2.2.2.1) w2_town_standsOn (ρ.2.2.2.2.2.2.2.1) (ρ.2.2.2.2.2.2.2.2.1) (ρ.2.2.2.2.2.2.2.2.2.1) (ρ.2.2.2.2.2.2.2.2.2.2.1) (ρ.2.2.2.2.2.2.2.2.2.2.2.1) (ρ.2.2.2.2.2.2.2.2.2.2.2.2) w2_seen_size w2_seen_house w2_seen_night w2_seen_plot) s.heap H locs → W p l e R s m args below meth c H locs cells slots Q (F0 m pc ls [.int ρ.1]))  : ∀ (n : Nat) (a : Int32 × Int32 × Int32 × Int32 × Int32 × Int32 × Int32 × (Nat → Int32) × (Nat → Int32) × (Nat → Int32) × (Nat → Int32) × (Nat → Int32) × (Nat → Int32) × (Nat → Int32) × (Nat → Int32) × (Nat → Int32)), lfix (fun (K : Int32 × Int32 × Int32 × Int32 × Int32 × Int32 × Int32 × (Nat → Int32) × (Nat → Int32) × (Nat → Int32) × (Nat → Int32) × (Nat → Int32) × (Nat → Int32) × (Nat → Int32) × (Nat → Int32) × (Nat → Int32) → Option (Int32 × Int32 × Int32 × Int32 × (Nat → Int32) × (Nat → Int32) × (Nat → Int32) × (Nat → Int32) × (Nat → Int32) × (Nat → Int32) × (Nat → Int32) × (Nat → Int32) × (Nat → Int32))) (a : Int32 × Int32 × Int32 × Int32 × Int32 × Int32 × Int32 × (Nat → Int32) × (Nat → Int32) × (Nat → Int32) × (Nat → Int32) × (Nat → Int32) × (Nat → Int32) × (Nat → Int32) × (Nat → Int32) × (Nat → Int32)) => fX1_nightToLook_37 N w2_town_houses w2_town_front w2_town_downFor w2_town_kindOf w2_town_plotOf w2_town_row w2_town_standsOn w2_seen_size w2_seen_house w2_seen_night w2_seen_plot a1 (fun (l3 : Int32) (l4 : Int32) (l5 : Int32) (l6 : Int32) (v_town_houses : Int32) (v_town_front : Int32) (v_town_downFor : Int32) (v_town_kindOf : (Nat → Int32)) (v_town_plotOf : (Nat → Int32)) (v_town_row : (Nat → Int32)) (v_town_standsOn : (Nat → Int32)) (v_track_0 : (Nat → Int32)) (v_track_1 : (Nat → Int32)) (v_track_2 : (Nat → Int32)) (v_track_3 : (Nat → Int32)) (v_track_4 : (Nat → Int32)) => K (l3, l4, l5, l6, v_town_houses, v_town_front, v_town_downFor, v_town_kindOf, v_town_plotOf, v_town_row, v_town_standsOn, v_track_0, v_track_1, v_track_2, v_track_3, v_track_4)) a.1 a.2.1 a.2.2.1 a.2.2.2.1 a.2.2.2.2.1 a.2.2.2.2.2.1 a.2.2.2.2.2.2.1 a.2.2.2.2.2.2.2.1 a.2.2.2.2.2.2.2.2.1 a.2.2.2.2.2.2.2.2.2.1 a.2.2.2.2.2.2.2.2.2.2.1 a.2.2.2.2.2.2.2.2.2.2.2.1 a.2.2.2.2.2.2.2.2.2.2.2.2.1 a.2.2.2.2.2.2.2.2.2.2.2.2.2.1 a.2.2.2.2.2.2.2.2.2.2.2.2.2.2.1 a.2.2.2.2.2.2.2.2.2.2.2.2.2.2.2) n a = some ρ → (fun (l3 : Int32) (l4 : Int32) (l5 : Int32) (l6 : Int32) (v_town_houses : Int32) (v_town_front : Int32) (v_town_downFor : Int32) (v_town_kindOf : (Nat → Int32)) (v_town_plotOf : (Nat → Int32)) (v_town_row : (Nat → Int32)) (v_town_standsOn : (Nat → Int32)) (v_track_0 : (Nat → Int32)) (v_track_1 : (Nat → Int32)) (v_track_2 : (Nat → Int32)) (v_track_3 : (Nat → Int32)) (v_track_4 : (Nat → Int32)) => ∀ (H : Heap) (locs : List Loc) (ls : Array Slot), WD D A (kwX1_nightToLook cI cZ cG q q_track q_town q2 q2_town q2_had q2_wishes q2_seen q_town_kindOf q_town_plotOf q_town_row q_town_standsOn q2_town_kindOf q2_town_plotOf q2_town_row q2_town_standsOn q_track_0 q_track_1 q_track_2 q_track_3 q_track_4 q2_seen_house q2_seen_plot q2_seen_night w2_nights v_town_houses v_town_front v_town_downFor w2_town_houses w2_town_front w2_town_downFor w2_town_kindOf v_town_kindOf w2_town_plotOf v_town_plotOf w2_town_row v_town_row w2_town_standsOn v_town_standsOn v_track_0 v_track_1 v_track_2 v_track_3 v_track_4 w2_seen_size w2_seen_house w2_seen_night w2_seen_plot) s.heap H locs → lv_has ls 8 [(0, .ref q), (3, .int l3), (4, .int l4), (5, .int l5), (6, .int l6)] → W p l e R s m args below meth c H locs cells slots Q (F0 m 37 ls [])) (a.1) (a.2.1) (a.2.2.1) (a.2.2.2.1) (a.2.2.2.2.1) (a.2.2.2.2.2.1) (a.2.2.2.2.2.2.1) (a.2.2.2.2.2.2.2.1) (a.2.2.2.2.2.2.2.2.1) (a.2.2.2.2.2.2.2.2.2.1) (a.2.2.2.2.2.2.2.2.2.2.1) (a.2.2.2.2.2.2.2.2.2.2.2.1) (a.2.2.2.2.2.2.2.2.2.2.2.2.1) (a.2.2.2.2.2.2.2.2.2.2.2.2.2.1) (a.2.2.2.2.2.2.2.2.2.2.2.2.2.2.1) (a.2.2.2.2.2.2.2.2.2.2.2.2.2.2.2) := by
  have hx := X.1.1
  have hb := X.1.2.1
  refine lfix_W (fun K hK a h => ?_)
  obtain ⟨l3, l4, l5, l6, v_town_houses, v_town_front, v_town_downFor, v_town_kindOf, v_town_plotOf, v_town_row, v_town_standsOn, v_track_0, v_track_1, v_track_2, v_track_3, v_track_4⟩ := a
  intro H locs ls hw hl
  have h : fX1_nightToLook_37 N w2_town_houses w2_town_front w2_town_downFor w2_town_kindOf w2_town_plotOf w2_town_row w2_town_standsOn w2_seen_size w2_seen_house w2_seen_night w2_seen_plot a1 (fun (l3 : Int32) (l4 : Int32) (l5 : Int32) (l6 : Int32) (v_town_houses : Int32) (v_town_front : Int32) (v_town_downFor : Int32) (v_town_kindOf : (Nat → Int32)) (v_town_plotOf : (Nat → Int32)) (v_town_row : (Nat → Int32)) (v_town_standsOn : (Nat → Int32)) (v_track_0 : (Nat → Int32)) (v_track_1 : (Nat → Int32)) (v_track_2 : (Nat → Int32)) (v_track_3 : (Nat → Int32)) (v_track_4 : (Nat → Int32)) => K (l3, l4, l5, l6, v_town_houses, v_town_front, v_town_downFor, v_town_kindOf, v_town_plotOf, v_town_row, v_town_standsOn, v_track_0, v_track_1, v_track_2, v_track_3, v_track_4)) l3 l4 l5 l6 v_town_houses v_town_front v_town_downFor v_town_kindOf v_town_plotOf v_town_row v_town_standsOn v_track_0 v_track_1 v_track_2 v_track_3 v_track_4 = some ρ := h
  have hK_37 : ∀ (l3 : Int32) (l4 : Int32) (l5 : Int32) (l6 : Int32) (v_town_houses : Int32) (v_town_front : Int32) (v_town_downFor : Int32) (v_town_kindOf : (Nat → Int32)) (v_town_plotOf : (Nat → Int32)) (v_town_row : (Nat → Int32)) (v_town_standsOn : (Nat → Int32)) (v_track_0 : (Nat → Int32)) (v_track_1 : (Nat → Int32)) (v_track_2 : (Nat → Int32)) (v_track_3 : (Nat → Int32)) (v_track_4 : (Nat → Int32)), (fun (l3 : Int32) (l4 : Int32) (l5 : Int32) (l6 : Int32) (v_town_houses : Int32) (v_town_front : Int32) (v_town_downFor : Int32) (v_town_kindOf : (Nat → Int32)) (v_town_plotOf : (Nat → Int32)) (v_town_row : (Nat → Int32)) (v_town_standsOn : (Nat → Int32)) (v_track_0 : (Nat → Int32)) (v_track_1 : (Nat → Int32)) (v_track_2 : (Nat → Int32)) (v_track_3 : (Nat → Int32)) (v_track_4 : (Nat → Int32)) => K (l3, l4, l5, l6, v_town_houses, v_town_front, v_town_downFor, v_town_kindOf, v_town_plotOf, v_town_row, v_town_standsOn, v_track_0, v_track_1, v_track_2, v_track_3, v_track_4)) l3 l4 l5 l6 v_town_houses v_town_front v_town_downFor v_town_kindOf v_town_plotOf v_town_row v_town_standsOn v_track_0 v_track_1 v_track_2 v_track_3 v_track_4 = some ρ → ∀ (H : Heap) (locs : List Loc) (ls : Array Slot), WD D A (kwX1_nightToLook cI cZ cG q q_track q_town q2 q2_town q2_had q2_wishes q2_seen q_town_kindOf q_town_plotOf q_town_row q_town_standsOn q2_town_kindOf q2_town_plotOf q2_town_row q2_town_standsOn q_track_0 q_track_1 q_track_2 q_track_3 q_track_4 q2_seen_house q2_seen_plot q2_seen_night w2_nights v_town_houses v_town_front v_town_downFor w2_town_houses w2_town_front w2_town_downFor w2_town_kindOf v_town_kindOf w2_town_plotOf v_town_plotOf w2_town_row v_town_row w2_town_standsOn v_town_standsOn v_track_0 v_track_1 v_track_2 v_track_3 v_track_4 w2_seen_size w2_seen_house w2_seen_night w2_seen_plot) s.heap H locs → lv_has ls 8 [(0, .ref q), (3, .int l3), (4, .int l4), (5, .int l5), (6, .int l6)] → W p l e R s m args below meth c H locs cells slots Q (F0 m 37 ls []) := fun l3 l4 l5 l6 v_town_houses v_town_front v_town_downFor v_town_kindOf v_town_plotOf v_town_row v_town_standsOn v_track_0 v_track_1 v_track_2 v_track_3 v_track_4 h => hK (l3, l4, l5, l6, v_town_houses, v_town_front, v_town_downFor, v_town_kindOf, v_town_plotOf, v_town_row, v_town_standsOn, v_track_0, v_track_1, v_track_2, v_track_3, v_track_4) h
  generalize (fun (l3 : Int32) (l4 : Int32) (l5 : Int32) (l6 : Int32) (v_town_houses : Int32) (v_town_front : Int32) (v_town_downFor : Int32) (v_town_kindOf : (Nat → Int32)) (v_town_plotOf : (Nat → Int32)) (v_town_row : (Nat → Int32)) (v_town_standsOn : (Nat → Int32)) (v_track_0 : (Nat → Int32)) (v_track_1 : (Nat → Int32)) (v_track_2 : (Nat → Int32)) (v_track_3 : (Nat → Int32)) (v_track_4 : (Nat → Int32)) => K (l3, l4, l5, l6, v_town_houses, v_town_front, v_town_downFor, v_town_kindOf, v_town_plotOf, v_town_row, v_town_standsOn, v_track_0, v_track_1, v_track_2, v_track_3, v_track_4)) = K_37 at h hK_37
  have hw : WD D A (kwX1_nightToLook cI cZ cG q q_track q_town q2 q2_town q2_had q2_wishes q2_seen q_town_kindOf q_town_plotOf q_town_row q_town_standsOn q2_town_kindOf q2_town_plotOf q2_town_row q2_town_standsOn q_track_0 q_track_1 q_track_2 q_track_3 q_track_4 q2_seen_house q2_seen_plot q2_seen_night w2_nights v_town_houses v_town_front v_town_downFor w2_town_houses w2_town_front w2_town_downFor w2_town_kindOf v_town_kindOf w2_town_plotOf v_town_plotOf w2_town_row v_town_row w2_town_standsOn v_town_standsOn v_track_0 v_track_1 v_track_2 v_track_3 v_track_4 w2_seen_size w2_seen_house w2_seen_night w2_seen_plot) s.heap H locs := hw
  have hl : lv_has ls 8 [(0, .ref q), (3, .int l3), (4, .int l4), (5, .int l5), (6, .int l6)] := hl
  unfold fX1_nightToLook_37 at h
  refine lv_iload hx hb dX1_nightToLook_37 (lv_at hl 4 rfl) ?_
  refine lv_bipush (v := (40 : Int32)) hx hb dX1_nightToLook_39 (by decide) ?_
  refine lv_icmp_gt (tgt := 74) hx hb dX1_nightToLook_41 (by decide) (fun c_41 => ?_) (fun c_41 => ?_)
  · have h := ift c_41 h
    refine lv_iload hx hb dX1_nightToLook_74 (lv_at hl 2 rfl) ?_
    obtain rfl := Option.some.inj h
    exact ret _ _ _ _ dX1_nightToLook_76 hw
  · have h := iff_ c_41 h
    refine lv_aload_n hx hb dX1_nightToLook_44 rfl (lv_at hl 0 rfl) ?_
    refine lv_iload_n hx hb dX1_nightToLook_45 rfl (lv_at hl 1 rfl) ?_
    refine lv_iload hx hb dX1_nightToLook_46 (lv_at hl 4 rfl) ?_
    obtain ⟨x_48, hc_48, h⟩ := obd h
    refine ksV_i (ws2 := (kwX1_nightToLook cI cZ cG q q_track q_town q2 q2_town q2_had q2_wishes q2_seen q_town_kindOf q_town_plotOf q_town_row q_town_standsOn q2_town_kindOf q2_town_plotOf q2_town_row q2_town_standsOn q_track_0 q_track_1 q_track_2 q_track_3 q_track_4 q2_seen_house q2_seen_plot q2_seen_night w2_nights v_town_houses v_town_front v_town_downFor w2_town_houses w2_town_front w2_town_downFor w2_town_kindOf v_town_kindOf w2_town_plotOf v_town_plotOf w2_town_row v_town_row w2_town_standsOn v_town_standsOn v_track_0 v_track_1 v_track_2 v_track_3 v_track_4 w2_seen_size w2_seen_house w2_seen_night w2_seen_plot)) (nW := 22) (ci := 1) (As := [.int l3, .int l6]) (rest := []) X hw rfl rfl rfl (cX1_leftAtWorst_ct l D cI cZ cG q q_track q_town q_track_0 q_track_1 q_track_2 q_track_3 q_track_4 v_track_0 v_track_1 v_track_2 v_track_3 v_track_4 l3 l6 N x_48 hc_48 H.size) mX1_leftAtWorst tw_213 (hrm.call (by decide) (by decide)) [0, 12, 13, 14, 15, 16, 17] rfl (by decide) rfl (by decide) rfl ⟨rfl, ⟨rfl, ⟨rfl, ⟨rfl, ⟨rfl, ⟨rfl, ⟨rfl, ⟨rfl, ⟨rfl, ⟨rfl, ⟨rfl, ⟨rfl, ⟨rfl, ⟨rfl, ⟨rfl, trivial⟩⟩⟩⟩⟩⟩⟩⟩⟩⟩⟩⟩⟩⟩⟩ rfl hl.1 rfl (Nat.le_of_ble_eq_true rfl) dX1_nightToLook_48 ⟨hrm.2.2.1, hrm.2.2.2⟩ (fun H locs hw => ?_)
    refine lv_istore (lv' := [(7, .int x_48), (0, .ref q), (3, .int l3), (4, .int l4), (5, .int l5), (6, .int l6)]) hx hb dX1_nightToLook_51 hl (by decide) rfl (fun ls hl => ?_)
    refine lv_iload hx hb dX1_nightToLook_53 (lv_at hl 0 rfl) ?_
    refine lv_iload hx hb dX1_nightToLook_55 (lv_at hl 4 rfl) ?_
    refine lv_icmp_ge (tgt := 68) hx hb dX1_nightToLook_57 (by decide) (fun c_57 => ?_) (fun c_57 => ?_)
    · have h := ift c_57 h
      refine lv_iinc (v := (l6 + (1 : Int32))) (lv' := [(6, .int (l6 + (1 : Int32))), (7, .int x_48), (0, .ref q), (3, .int l3), (4, .int l4), (5, .int l5)]) hx hb dX1_nightToLook_68 hl (k := 5) rfl (congrArg (l6 + ·) (by decide)) (by decide) rfl (fun ls hl => ?_)
      refine lv_goto (tgt := 37) hx hb dX1_nightToLook_71 (by decide) ?_
      exact hK_37 _ _ _ _ _ _ _ _ _ _ _ _ _ _ _ _ h _ _ _ hw (lv_sub hl [2, 3, 4, 5, 0] rfl)
    · have h := iff_ c_57 h
      refine lv_iload hx hb dX1_nightToLook_60 (lv_at hl 0 rfl) ?_
      refine lv_istore (lv' := [(5, .int x_48), (7, .int x_48), (0, .ref q), (3, .int l3), (4, .int l4), (6, .int l6)]) hx hb dX1_nightToLook_62 hl (by decide) rfl (fun ls hl => ?_)
      refine lv_iload hx hb dX1_nightToLook_64 (lv_at hl 5 rfl) ?_
      refine lv_istore (lv' := [(4, .int l6), (5, .int x_48), (7, .int x_48), (0, .ref q), (3, .int l3), (6, .int l6)]) hx hb dX1_nightToLook_66 hl (by decide) rfl (fun ls hl => ?_)
      refine lv_iinc (v := (l6 + (1 : Int32))) (lv' := [(6, .int (l6 + (1 : Int32))), (4, .int l6), (5, .int x_48), (7, .int x_48), (0, .ref q), (3, .int l3)]) hx hb dX1_nightToLook_68 hl (k := 5) rfl (congrArg (l6 + ·) (by decide)) (by decide) rfl (fun ls hl => ?_)
      refine lv_goto (tgt := 37) hx hb dX1_nightToLook_71 (by decide) ?_
      exact hK_37 _ _ _ _ _ _ _ _ _ _ _ _ _ _ _ _ h _ _ _ hw (lv_sub hl [4, 5, 1, 2, 0] rfl)
set_option maxHeartbeats 4000000 in
set_option maxRecDepth 100000 in
theorem wX1_nightToLook {p : Program} {l : Launch} {e : Env} {R : Room} {s : State} {m : MethodId} {args : Array Value} {below : List Frame} {meth : Method} {c : Code} {cells slots : Nat} {Q : State → Prop} {D : va_G} {A : Nat → Prop} {cI cZ cG : ClassId} {q q_track q_town q2 q2_town q2_had q2_wishes q2_seen q_town_kindOf q_town_plotOf q_town_row q_town_standsOn q2_town_kindOf q2_town_plotOf q2_town_row q2_town_standsOn q_track_0 q_track_1 q_track_2 q_track_3 q_track_4 q2_seen_house q2_seen_plot q2_seen_night : Nat} {w2_nights : Int32} {v_town_houses : Int32} {v_town_front : Int32} {v_town_downFor : Int32} {w2_town_houses : Int32} {w2_town_front : Int32} {w2_town_downFor : Int32} {w2_town_kindOf : (Nat → Int32)} {v_town_kindOf : (Nat → Int32)} {w2_town_plotOf : (Nat → Int32)} {v_town_plotOf : (Nat → Int32)} {w2_town_row : (Nat → Int32)} {v_town_row : (Nat → Int32)} {w2_town_standsOn : (Nat → Int32)} {v_town_standsOn : (Nat → Int32)} {v_track_0 : (Nat → Int32)} {v_track_1 : (Nat → Int32)} {v_track_2 : (Nat → Int32)} {v_track_3 : (Nat → Int32)} {v_track_4 : (Nat → Int32)} {w2_seen_size : Int32} {w2_seen_house : (Nat → Int32)} {w2_seen_night : (Nat → Int32)} {w2_seen_plot : (Nat → Int32)} {a1 : Int32} {N : Nat} {ρ : Int32 × Int32 × Int32 × Int32 × (Nat → Int32) × (Nat → Int32) × (Nat → Int32) × (Nat → Int32) × (Nat → Int32) × (Nat → Int32) × (Nat → Int32) × (Nat → Int32) × (Nat → Int32)} (X : CX p s m args c cX1_nightToLook 8 RX1 D (TY cI cZ cG) A) (hrm : RM R 4 93 cells slots) (ret : ∀ (pc : Nat) (H : Heap) (locs : List Loc) (ls : Array Slot), decode cX1_nightToLook pc = .ok (.ireturn, 1) → WD D A (kwX1_nightToLook cI cZ cG q q_track q_town q2 q2_town q2_had q2_wishes q2_seen q_town_kindOf q_town_plotOf q_town_row q_town_standsOn q2_town_kindOf q2_town_plotOf q2_town_row q2_town_standsOn q_track_0 q_track_1 q_track_2 q_track_3 q_track_4 q2_seen_house q2_seen_plot q2_seen_night w2_nights (ρ.2.1) (ρ.2.2.1) (ρ.2.2.2.1) w2_town_houses w2_town_front w2_town_downFor w2_town_kindOf (ρ.2.2.2.2.1) w2_town_plotOf (ρ.2.2.2.2.2.1) w2_town_row (ρ.2.2.2.2.2.2.1) w2_town_standsOn (ρ.2.2.2.2.2.2.2.1) (ρ.2.2.2.2.2.2.2.2.1) (ρ.2.2.2.2.2.2.2.2.2.1) (ρ.2.2.2.2.2.2.2.2.2.2.1) (ρ.2.2.2.2.2.2.2.2.2.2.2.1) (ρ.2.2.2.2.2.2.2.2.2.2.2.2) w2_seen_size w2_seen_house w2_seen_night w2_seen_plot) s.heap H locs → W p l e R s m args below meth c H locs cells slots Q (F0 m pc ls [.int ρ.1])) (h : fX1_nightToLook N w2_town_houses w2_town_front w2_town_downFor w2_town_kindOf w2_town_plotOf w2_town_row w2_town_standsOn w2_seen_size w2_seen_house w2_seen_night w2_seen_plot a1 v_town_houses v_town_front v_town_downFor v_town_kindOf v_town_plotOf v_town_row v_town_standsOn v_track_0 v_track_1 v_track_2 v_track_3 v_track_4  = some ρ) (H : Heap) (locs : List Loc) (ls : Array Slot) (hw : WD D A (kwX1_nightToLook cI cZ cG q q_track q_town q2 q2_town q2_had q2_wishes q2_seen q_town_kindOf q_town_plotOf q_town_row q_town_standsOn q2_town_kindOf q2_town_plotOf q2_town_row q2_town_standsOn q_track_0 q_track_1 q_track_2 q_track_3 q_track_4 q2_seen_house q2_seen_plot q2_seen_night w2_nights v_town_houses v_town_front v_town_downFor w2_town_houses w2_town_front w2_town_downFor w2_town_kindOf v_town_kindOf w2_town_plotOf v_town_plotOf w2_town_row v_town_row w2_town_standsOn v_town_standsOn v_track_0 v_track_1 v_track_2 v_track_3 v_track_4 w2_seen_size w2_seen_house w2_seen_night w2_seen_plot) s.heap H locs) (hl : lv_has ls 8 [(0, .ref q), (1, .int a1), (2, .ref q2)]) : W p l e R s m args below meth c H locs cells slots Q (F0 m 0 ls []) := by
  have hx := X.1.1
  have hb := X.1.2.1
  unfold fX1_nightToLook at h
  refine lv_aload_n hx hb dX1_nightToLook_0 rfl (lv_at hl 0 rfl) ?_
  refine lv_iload_n hx hb dX1_nightToLook_1 rfl (lv_at hl 1 rfl) ?_
  refine lv_aload_n hx hb dX1_nightToLook_2 rfl (lv_at hl 2 rfl) ?_
  refine kget (ci := 5) (v := .ref q2_town) X hw iX5 1 rfl rfl 0 (by decide) tw_194 rfl dX1_nightToLook_3 ?_
  refine lv_bipush (v := (40 : Int32)) hx hb dX1_nightToLook_6 (by decide) ?_
  obtain ⟨x_8, hc_8, h⟩ := obd h
  refine ksV_v (ws2 := (kwX1_nightToLook cI cZ cG q q_track q_town q2 q2_town q2_had q2_wishes q2_seen q_town_kindOf q_town_plotOf q_town_row q_town_standsOn q2_town_kindOf q2_town_plotOf q2_town_row q2_town_standsOn q_track_0 q_track_1 q_track_2 q_track_3 q_track_4 q2_seen_house q2_seen_plot q2_seen_night w2_nights x_8.1 x_8.2.1 x_8.2.2.1 w2_town_houses w2_town_front w2_town_downFor w2_town_kindOf x_8.2.2.2.1 w2_town_plotOf x_8.2.2.2.2.1 w2_town_row x_8.2.2.2.2.2.1 w2_town_standsOn x_8.2.2.2.2.2.2.1 x_8.2.2.2.2.2.2.2.1 x_8.2.2.2.2.2.2.2.2.1 x_8.2.2.2.2.2.2.2.2.2.1 x_8.2.2.2.2.2.2.2.2.2.2.1 x_8.2.2.2.2.2.2.2.2.2.2.2 w2_seen_size w2_seen_house w2_seen_night w2_seen_plot)) (nW := 22) (ci := 1) (As := [.int a1, .ref q2_town, .int (40 : Int32)]) (rest := []) X hw rfl rfl rfl (cX1_follow_ct l D cI cZ cG q q_track q_town q_town_kindOf q_town_plotOf q_town_row q_town_standsOn q2_town q2_town_kindOf q2_town_plotOf q2_town_row q2_town_standsOn q_track_0 q_track_1 q_track_2 q_track_3 q_track_4 v_town_houses v_town_front v_town_downFor w2_town_houses w2_town_front w2_town_downFor w2_town_kindOf v_town_kindOf w2_town_plotOf v_town_plotOf w2_town_row v_town_row w2_town_standsOn v_town_standsOn v_track_0 v_track_1 v_track_2 v_track_3 v_track_4 a1 (40 : Int32) N x_8 hc_8 H.size) mX1_follow tw_197 (hrm.call (by decide) (by decide)) [0, 2, 3, 4, 5, 6, 7, 8, 9, 10, 11, 12, 13, 14, 15, 16, 17] rfl (by decide) rfl (by decide) rfl ⟨rfl, ⟨rfl, ⟨rfl, ⟨rfl, ⟨rfl, trivial⟩⟩⟩⟩⟩ rfl hl.1 rfl (Nat.le_of_ble_eq_true rfl) dX1_nightToLook_8 ⟨hrm.2.2.1, hrm.2.2.2⟩ (fun H locs hw => ?_)
  refine lv_aload_n hx hb dX1_nightToLook_11 rfl (lv_at hl 0 rfl) ?_
  refine lv_iload_n hx hb dX1_nightToLook_12 rfl (lv_at hl 1 rfl) ?_
  refine lv_aload_n hx hb dX1_nightToLook_13 rfl (lv_at hl 2 rfl) ?_
  refine kget (ci := 5) (v := .ref q2_seen) X hw iX5 1 rfl rfl 3 (by decide) tw_195 rfl dX1_nightToLook_14 ?_
  obtain ⟨x_17, hc_17, h⟩ := obd h
  refine ksV_i (ws2 := (kwX1_nightToLook cI cZ cG q q_track q_town q2 q2_town q2_had q2_wishes q2_seen q_town_kindOf q_town_plotOf q_town_row q_town_standsOn q2_town_kindOf q2_town_plotOf q2_town_row q2_town_standsOn q_track_0 q_track_1 q_track_2 q_track_3 q_track_4 q2_seen_house q2_seen_plot q2_seen_night w2_nights x_8.1 x_8.2.1 x_8.2.2.1 w2_town_houses w2_town_front w2_town_downFor w2_town_kindOf x_8.2.2.2.1 w2_town_plotOf x_8.2.2.2.2.1 w2_town_row x_8.2.2.2.2.2.1 w2_town_standsOn x_8.2.2.2.2.2.2.1 x_8.2.2.2.2.2.2.2.1 x_8.2.2.2.2.2.2.2.2.1 x_8.2.2.2.2.2.2.2.2.2.1 x_8.2.2.2.2.2.2.2.2.2.2.1 x_8.2.2.2.2.2.2.2.2.2.2.2 w2_seen_size w2_seen_house w2_seen_night w2_seen_plot)) (nW := 22) (ci := 1) (As := [.int a1, .ref q2_seen]) (rest := []) X hw rfl rfl rfl (cX1_kindsByTracks_ct l D cI cZ cG q q_track q_town q2_seen q2_seen_house q2_seen_plot q2_seen_night q_track_0 q_track_1 q_track_2 q_track_3 q_track_4 6 w2_seen_size w2_seen_house x_8.2.2.2.2.2.2.2.1 x_8.2.2.2.2.2.2.2.2.1 x_8.2.2.2.2.2.2.2.2.2.1 x_8.2.2.2.2.2.2.2.2.2.2.1 x_8.2.2.2.2.2.2.2.2.2.2.2 w2_seen_night w2_seen_plot a1 N x_17 hc_17 H.size) mX1_kindsByTracks tw_198 (hrm.call (by decide) (by decide)) [0, 18, 19, 12, 13, 14, 15, 16, 17, 20, 21] rfl (by decide) rfl (by decide) rfl ⟨rfl, ⟨rfl, ⟨rfl, ⟨rfl, ⟨rfl, ⟨rfl, ⟨rfl, ⟨rfl, ⟨rfl, ⟨rfl, ⟨rfl, trivial⟩⟩⟩⟩⟩⟩⟩⟩⟩⟩⟩ rfl hl.1 rfl (Nat.le_of_ble_eq_true rfl) dX1_nightToLook_17 ⟨hrm.2.2.1, hrm.2.2.2⟩ (fun H locs hw => ?_)
  refine lv_istore_n (lv' := [(3, .int x_17), (0, .ref q), (1, .int a1), (2, .ref q2)]) hx hb dX1_nightToLook_20 rfl hl (by decide) rfl (fun ls hl => ?_)
  refine lv_iload_n hx hb dX1_nightToLook_21 rfl (lv_at hl 0 rfl) ?_
  refine lv_if_ne (tgt := 27) hx hb dX1_nightToLook_22 (by decide) (fun c_22 => ?_) (fun c_22 => ?_)
  · have h := iff_ c_22 h
    refine lv_iconst (v := (-1 : Int32)) hx hb dX1_nightToLook_27 (by decide) ?_
    refine lv_istore (lv' := [(4, .int (-1 : Int32)), (3, .int x_17), (0, .ref q), (1, .int a1), (2, .ref q2)]) hx hb dX1_nightToLook_28 hl (by decide) rfl (fun ls hl => ?_)
    refine lv_bipush (v := (6 : Int32)) hx hb dX1_nightToLook_30 (by decide) ?_
    refine lv_istore (lv' := [(5, .int (6 : Int32)), (4, .int (-1 : Int32)), (3, .int x_17), (0, .ref q), (1, .int a1), (2, .ref q2)]) hx hb dX1_nightToLook_32 hl (by decide) rfl (fun ls hl => ?_)
    refine lv_iconst (v := (1 : Int32)) hx hb dX1_nightToLook_34 (by decide) ?_
    refine lv_istore (lv' := [(6, .int (1 : Int32)), (5, .int (6 : Int32)), (4, .int (-1 : Int32)), (3, .int x_17), (0, .ref q), (1, .int a1), (2, .ref q2)]) hx hb dX1_nightToLook_35 hl (by decide) rfl (fun ls hl => ?_)
    exact wX1_nightToLook_37 X hrm ret  _ _ h _ _ _ hw (lv_sub hl [4, 3, 2, 1, 0] rfl)
  · have h := ift c_22 h
    refine lv_iconst (v := (-1 : Int32)) hx hb dX1_nightToLook_25 (by decide) ?_
    obtain rfl := Option.some.inj h
    exact ret _ _ _ _ dX1_nightToLook_26 hw
set_option maxHeartbeats 4000000 in
set_option maxRecDepth 100000 in
theorem cX1_nightToLook_ct (l : Launch) (D : va_G) (cI cZ cG : ClassId) (q q_track q_town q2 q2_town q2_had q2_wishes q2_seen q_town_kindOf q_town_plotOf q_town_row q_town_standsOn q2_town_kindOf q2_town_plotOf q2_town_row q2_town_standsOn q_track_0 q_track_1 q_track_2 q_track_3 q_track_4 q2_seen_house q2_seen_plot q2_seen_night : Nat)  (w2_nights : Int32) (v_town_houses : Int32) (v_town_front : Int32) (v_town_downFor : Int32) (w2_town_houses : Int32) (w2_town_front : Int32) (w2_town_downFor : Int32) (w2_town_kindOf : (Nat → Int32)) (v_town_kindOf : (Nat → Int32)) (w2_town_plotOf : (Nat → Int32)) (v_town_plotOf : (Nat → Int32)) (w2_town_row : (Nat → Int32)) (v_town_row : (Nat → Int32)) (w2_town_standsOn : (Nat → Int32)) (v_town_standsOn : (Nat → Int32)) (v_track_0 : (Nat → Int32)) (v_track_1 : (Nat → Int32)) (v_track_2 : (Nat → Int32)) (v_track_3 : (Nat → Int32)) (v_track_4 : (Nat → Int32)) (w2_seen_size : Int32) (w2_seen_house : (Nat → Int32)) (w2_seen_night : (Nat → Int32)) (w2_seen_plot : (Nat → Int32)) (a1 : Int32) (N : Nat) (ρ : Int32 × Int32 × Int32 × Int32 × (Nat → Int32) × (Nat → Int32) × (Nat → Int32) × (Nat → Int32) × (Nat → Int32) × (Nat → Int32) × (Nat → Int32) × (Nat → Int32) × (Nat → Int32)) (h : fX1_nightToLook N w2_town_houses w2_town_front w2_town_downFor w2_town_kindOf w2_town_plotOf w2_town_row w2_town_standsOn w2_seen_size w2_seen_house w2_seen_night w2_seen_plot a1 v_town_houses v_town_front v_town_downFor v_town_kindOf v_town_plotOf v_town_row v_town_standsOn v_track_0 v_track_1 v_track_2 v_track_3 v_track_4  = some ρ) (sz : Nat) : Met l yX1_nightToLook (wz yX1_nightToLook cX1_nightToLook 8 (some .int)) (cRm 4 93) (cPre D (TY cI cZ cG) [.ref q, .int a1, .ref q2] (kwX1_nightToLook cI cZ cG q q_track q_town q2 q2_town q2_had q2_wishes q2_seen q_town_kindOf q_town_plotOf q_town_row q_town_standsOn q2_town_kindOf q2_town_plotOf q2_town_row q2_town_standsOn q_track_0 q_track_1 q_track_2 q_track_3 q_track_4 q2_seen_house q2_seen_plot q2_seen_night w2_nights v_town_houses v_town_front v_town_downFor w2_town_houses w2_town_front w2_town_downFor w2_town_kindOf v_town_kindOf w2_town_plotOf v_town_plotOf w2_town_row v_town_row w2_town_standsOn v_town_standsOn v_track_0 v_track_1 v_track_2 v_track_3 v_track_4 w2_seen_size w2_seen_house w2_seen_night w2_seen_plot) sz) (cQi D (ρ.1) (kwX1_nightToLook cI cZ cG q q_track q_town q2 q2_town q2_had q2_wishes q2_seen q_town_kindOf q_town_plotOf q_town_row q_town_standsOn q2_town_kindOf q2_town_plotOf q2_town_row q2_town_standsOn q_track_0 q_track_1 q_track_2 q_track_3 q_track_4 q2_seen_house q2_seen_plot q2_seen_night w2_nights v_town_houses v_town_front v_town_downFor w2_town_houses w2_town_front w2_town_downFor w2_town_kindOf v_town_kindOf w2_town_plotOf v_town_plotOf w2_town_row v_town_row w2_town_standsOn v_town_standsOn v_track_0 v_track_1 v_track_2 v_track_3 v_track_4 w2_seen_size w2_seen_house w2_seen_night w2_seen_plot) (kwX1_nightToLook cI cZ cG q q_track q_town q2 q2_town q2_had q2_wishes q2_seen q_town_kindOf q_town_plotOf q_town_row q_town_standsOn q2_town_kindOf q2_town_plotOf q2_town_row q2_town_standsOn q_track_0 q_track_1 q_track_2 q_track_3 q_track_4 q2_seen_house q2_seen_plot q2_seen_night w2_nights (ρ.2.1) (ρ.2.2.1) (ρ.2.2.2.1) w2_town_houses w2_town_front w2_town_downFor w2_town_kindOf (ρ.2.2.2.2.1) w2_town_plotOf (ρ.2.2.2.2.2.1) w2_town_row (ρ.2.2.2.2.2.2.1) w2_town_standsOn (ρ.2.2.2.2.2.2.2.1) (ρ.2.2.2.2.2.2.2.2.1) (ρ.2.2.2.2.2.2.2.2.2.1) (ρ.2.2.2.2.2.2.2.2.2.2.1) (ρ.2.2.2.2.2.2.2.2.2.2.2.1) (ρ.2.2.2.2.2.2.2.2.2.2.2.2) w2_seen_size w2_seen_house w2_seen_night w2_seen_plot) sz) 0 0 (va_A (kwX1_nightToLook cI cZ cG q q_track q_town q2 q2_town q2_had q2_wishes q2_seen q_town_kindOf q_town_plotOf q_town_row q_town_standsOn q2_town_kindOf q2_town_plotOf q2_town_row q2_town_standsOn q_track_0 q_track_1 q_track_2 q_track_3 q_track_4 q2_seen_house q2_seen_plot q2_seen_night w2_nights v_town_houses v_town_front v_town_downFor w2_town_houses w2_town_front w2_town_downFor w2_town_kindOf v_town_kindOf w2_town_plotOf v_town_plotOf w2_town_row v_town_row w2_town_standsOn v_town_standsOn v_track_0 v_track_1 v_track_2 v_track_3 v_track_4 w2_seen_size w2_seen_house w2_seen_night w2_seen_plot) sz) :=
  mk_i (by decide) (Nat.le_of_ble_eq_true rfl) (fun X hrm ret hw hl => wX1_nightToLook X hrm ret h _ _ _ hw hl)
theorem dX2_add_0 : decode cX2_add 0 = .ok (.aload_n 0, 1) := by decide +kernel
theorem dX2_add_1 : decode cX2_add 1 = .ok (.getfield 27, 3) := by decide +kernel
theorem dX2_add_4 : decode cX2_add 4 = .ok (.aload_n 0, 1) := by decide +kernel
theorem dX2_add_5 : decode cX2_add 5 = .ok (.getfield 15, 3) := by decide +kernel
theorem dX2_add_8 : decode cX2_add 8 = .ok (.arraylength, 1) := by decide +kernel
theorem dX2_add_9 : decode cX2_add 9 = .ok (.if_icmp .lt 6, 3) := by decide +kernel
theorem dX2_add_12 : decode cX2_add 12 = .ok (.bipush (-104), 2) := by decide +kernel
theorem dX2_add_14 : decode cX2_add 14 = .ok (.ireturn, 1) := by decide +kernel
theorem dX2_add_15 : decode cX2_add 15 = .ok (.aload_n 0, 1) := by decide +kernel
theorem dX2_add_16 : decode cX2_add 16 = .ok (.getfield 15, 3) := by decide +kernel
theorem dX2_add_19 : decode cX2_add 19 = .ok (.aload_n 0, 1) := by decide +kernel
theorem dX2_add_20 : decode cX2_add 20 = .ok (.getfield 27, 3) := by decide +kernel
theorem dX2_add_23 : decode cX2_add 23 = .ok (.iload_n 1, 1) := by decide +kernel
theorem dX2_add_24 : decode cX2_add 24 = .ok (.iastore, 1) := by decide +kernel
theorem dX2_add_25 : decode cX2_add 25 = .ok (.aload_n 0, 1) := by decide +kernel
theorem dX2_add_26 : decode cX2_add 26 = .ok (.getfield 21, 3) := by decide +kernel
theorem dX2_add_29 : decode cX2_add 29 = .ok (.aload_n 0, 1) := by decide +kernel
theorem dX2_add_30 : decode cX2_add 30 = .ok (.getfield 27, 3) := by decide +kernel
theorem dX2_add_33 : decode cX2_add 33 = .ok (.iload_n 2, 1) := by decide +kernel
theorem dX2_add_34 : decode cX2_add 34 = .ok (.iastore, 1) := by decide +kernel
theorem dX2_add_35 : decode cX2_add 35 = .ok (.aload_n 0, 1) := by decide +kernel
theorem dX2_add_36 : decode cX2_add 36 = .ok (.getfield 24, 3) := by decide +kernel
theorem dX2_add_39 : decode cX2_add 39 = .ok (.aload_n 0, 1) := by decide +kernel
theorem dX2_add_40 : decode cX2_add 40 = .ok (.getfield 27, 3) := by decide +kernel
theorem dX2_add_43 : decode cX2_add 43 = .ok (.iload_n 3, 1) := by decide +kernel
theorem dX2_add_44 : decode cX2_add 44 = .ok (.iastore, 1) := by decide +kernel
theorem dX2_add_45 : decode cX2_add 45 = .ok (.aload_n 0, 1) := by decide +kernel
theorem dX2_add_46 : decode cX2_add 46 = .ok (.dup, 1) := by decide +kernel
theorem dX2_add_47 : decode cX2_add 47 = .ok (.getfield 27, 3) := by decide +kernel
theorem dX2_add_50 : decode cX2_add 50 = .ok (.iconst 1, 1) := by decide +kernel
theorem dX2_add_51 : decode cX2_add 51 = .ok (.iadd, 1) := by decide +kernel
theorem dX2_add_52 : decode cX2_add 52 = .ok (.putfield 27, 3) := by decide +kernel
theorem dX2_add_55 : decode cX2_add 55 = .ok (.aload_n 0, 1) := by decide +kernel
theorem dX2_add_56 : decode cX2_add 56 = .ok (.getfield 27, 3) := by decide +kernel
theorem dX2_add_59 : decode cX2_add 59 = .ok (.ireturn, 1) := by decide +kernel
abbrev kwX2_add (cI cZ cG : ClassId) (q q_house q_plot q_night n_o : Nat) (v_size : Int32) (v_house : (Nat → Int32)) (v_plot : (Nat → Int32)) (v_night : (Nat → Int32)) : va_W := [(q, .inr (2, [.ref q_house, .ref q_plot, .ref q_night, .int v_size])), (q_house, .inl (cI, n_o, .inl v_house)), (q_plot, .inl (cI, n_o, .inl v_plot)), (q_night, .inl (cI, n_o, .inl v_night))]
noncomputable def fX2_add (N : Nat) (n_o : Nat) (a1 : Int32) (a2 : Int32) (a3 : Int32) (v_size : Int32) (v_house : (Nat → Int32)) (v_plot : (Nat → Int32)) (v_night : (Nat → Int32))  : Option (Int32 × Int32 × (Nat → Int32) × (Nat → Int32) × (Nat → Int32)) := if v_size < (Int32.ofNat n_o) then (if v_size < 0 ∨ n_o ≤ (v_size).toNatClampNeg then none else (if v_size < 0 ∨ n_o ≤ (v_size).toNatClampNeg then none else (if v_size < 0 ∨ n_o ≤ (v_size).toNatClampNeg then none else (some ((v_size + (1 : Int32)), (v_size + (1 : Int32)), (upd v_house (v_size).toNatClampNeg a1), (upd v_plot (v_size).toNatClampNeg a2), (upd v_night (v_size).toNatClampNeg a3)))))) else (some ((-104 : Int32), v_size, v_house, v_plot, v_night))
set_option maxHeartbeats 4000000 in
set_option maxRecDepth 100000 in
theorem wX2_add {p : Program} {l : Launch} {e : Env} {R : Room} {s : State} {m : MethodId} {args : Array Value} {below : List Frame} {meth : Method} {c : Code} {cells slots : Nat} {Q : State → Prop} {D : va_G} {A : Nat → Prop} {cI cZ cG : ClassId} {q q_house q_plot q_night : Nat} {n_o : Nat} {v_size : Int32} {v_house : (Nat → Int32)} {v_plot : (Nat → Int32)} {v_night : (Nat → Int32)} {a1 : Int32} {a2 : Int32} {a3 : Int32} {N : Nat} {ρ : Int32 × Int32 × (Nat → Int32) × (Nat → Int32) × (Nat → Int32)} (X : CX p s m args c cX2_add 4 RX2 D (TY cI cZ cG) A) (hrm : RM R 0 0 cells slots) (ret : ∀ (pc : Nat) (H : Heap) (locs : List Loc) (ls : Array Slot), decode cX2_add pc = .ok (.ireturn, 1) → WD D A (kwX2_add cI cZ cG q q_house q_plot q_night n_o (ρ.2.1) (ρ.2.2.1) (ρ.2.2.2.1) (ρ.2.2.2.2)) s.heap H locs → W p l e R s m args below meth c H locs cells slots Q (F0 m pc ls [.int ρ.1])) (h : fX2_add N n_o a1 a2 a3 v_size v_house v_plot v_night  = some ρ) (H : Heap) (locs : List Loc) (ls : Array Slot) (hw : WD D A (kwX2_add cI cZ cG q q_house q_plot q_night n_o v_size v_house v_plot v_night) s.heap H locs) (hl : lv_has ls 4 [(0, .ref q), (1, .int a1), (2, .int a2), (3, .int a3)]) : W p l e R s m args below meth c H locs cells slots Q (F0 m 0 ls []) := by
  have hx := X.1.1
  have hb := X.1.2.1
  unfold fX2_add at h
  refine lv_aload_n hx hb dX2_add_0 rfl (lv_at hl 0 rfl) ?_
  refine kget (ci := 2) (v := .int v_size) X hw iX2 0 rfl rfl 3 (by decide) tw_128 rfl dX2_add_1 ?_
  refine lv_aload_n hx hb dX2_add_4 rfl (lv_at hl 0 rfl) ?_
  refine kget (ci := 2) (v := .ref q_house) X hw iX2 0 rfl rfl 0 (by decide) tw_217 rfl dX2_add_5 ?_
  refine kalen (v := (Int32.ofNat n_o)) X hw 1 rfl rfl rfl dX2_add_8 ?_
  refine lv_icmp_lt (tgt := 15) hx hb dX2_add_9 (by decide) (fun c_9 => ?_) (fun c_9 => ?_)
  · have h := ift c_9 h
    refine lv_aload_n hx hb dX2_add_15 rfl (lv_at hl 0 rfl) ?_
    refine kget (ci := 2) (v := .ref q_house) X hw iX2 0 rfl rfl 0 (by decide) tw_217 rfl dX2_add_16 ?_
    refine lv_aload_n hx hb dX2_add_19 rfl (lv_at hl 0 rfl) ?_
    refine kget (ci := 2) (v := .int v_size) X hw iX2 0 rfl rfl 3 (by decide) tw_128 rfl dX2_add_20 ?_
    refine lv_iload_n hx hb dX2_add_23 rfl (lv_at hl 1 rfl) ?_
    obtain ⟨g_24, h⟩ := gd h
    refine kiast X hw 1 rfl rfl g_24 dX2_add_24 (fun H locs hw => ?_)
    have hw : WD D A (kwX2_add cI cZ cG q q_house q_plot q_night n_o v_size (upd v_house (v_size).toNatClampNeg a1) v_plot v_night) s.heap H locs := hw
    refine lv_aload_n hx hb dX2_add_25 rfl (lv_at hl 0 rfl) ?_
    refine kget (ci := 2) (v := .ref q_plot) X hw iX2 0 rfl rfl 1 (by decide) tw_218 rfl dX2_add_26 ?_
    refine lv_aload_n hx hb dX2_add_29 rfl (lv_at hl 0 rfl) ?_
    refine kget (ci := 2) (v := .int v_size) X hw iX2 0 rfl rfl 3 (by decide) tw_128 rfl dX2_add_30 ?_
    refine lv_iload_n hx hb dX2_add_33 rfl (lv_at hl 2 rfl) ?_
    obtain ⟨g_34, h⟩ := gd h
    refine kiast X hw 2 rfl rfl g_34 dX2_add_34 (fun H locs hw => ?_)
    have hw : WD D A (kwX2_add cI cZ cG q q_house q_plot q_night n_o v_size (upd v_house (v_size).toNatClampNeg a1) (upd v_plot (v_size).toNatClampNeg a2) v_night) s.heap H locs := hw
    refine lv_aload_n hx hb dX2_add_35 rfl (lv_at hl 0 rfl) ?_
    refine kget (ci := 2) (v := .ref q_night) X hw iX2 0 rfl rfl 2 (by decide) tw_129 rfl dX2_add_36 ?_
    refine lv_aload_n hx hb dX2_add_39 rfl (lv_at hl 0 rfl) ?_
    refine kget (ci := 2) (v := .int v_size) X hw iX2 0 rfl rfl 3 (by decide) tw_128 rfl dX2_add_40 ?_
    refine lv_iload_n hx hb dX2_add_43 rfl (lv_at hl 3 rfl) ?_
    obtain ⟨g_44, h⟩ := gd h
    refine kiast X hw 3 rfl rfl g_44 dX2_add_44 (fun H locs hw => ?_)
    have hw : WD D A (kwX2_add cI cZ cG q q_house q_plot q_night n_o v_size (upd v_house (v_size).toNatClampNeg a1) (upd v_plot (v_size).toNatClampNeg a2) (upd v_night (v_size).toNatClampNeg a3)) s.heap H locs := hw
    refine lv_aload_n hx hb dX2_add_45 rfl (lv_at hl 0 rfl) ?_
    refine lv_dup hx hb dX2_add_46 rfl ?_
    refine kget (ci := 2) (v := .int v_size) X hw iX2 0 rfl rfl 3 (by decide) tw_128 rfl dX2_add_47 ?_
    refine lv_iconst (v := (1 : Int32)) hx hb dX2_add_50 (by decide) ?_
    refine lv_iadd hx hb dX2_add_51 ?_
    refine kput (ci := 2) (v := .int (v_size + (1 : Int32))) (ty := .int) X hw iX2 tyX2_ok nmX2 0 rfl rfl 3 (by decide) tw_128 rfl rfl rfl rfl (Nat.le_of_ble_eq_true rfl) dX2_add_52 (fun H locs hw => ?_)
    have hw : WD D A (kwX2_add cI cZ cG q q_house q_plot q_night n_o (v_size + (1 : Int32)) (upd v_house (v_size).toNatClampNeg a1) (upd v_plot (v_size).toNatClampNeg a2) (upd v_night (v_size).toNatClampNeg a3)) s.heap H locs := hw
    refine lv_aload_n hx hb dX2_add_55 rfl (lv_at hl 0 rfl) ?_
    refine kget (ci := 2) (v := .int (v_size + (1 : Int32))) X hw iX2 0 rfl rfl 3 (by decide) tw_128 rfl dX2_add_56 ?_
    obtain rfl := Option.some.inj h
    exact ret _ _ _ _ dX2_add_59 hw
  · have h := iff_ c_9 h
    refine lv_bipush (v := (-104 : Int32)) hx hb dX2_add_12 (by decide) ?_
    obtain rfl := Option.some.inj h
    exact ret _ _ _ _ dX2_add_14 hw
set_option maxHeartbeats 4000000 in
set_option maxRecDepth 100000 in
theorem cX2_add_ct (l : Launch) (D : va_G) (cI cZ cG : ClassId) (q q_house q_plot q_night : Nat) (n_o : Nat) (v_size : Int32) (v_house : (Nat → Int32)) (v_plot : (Nat → Int32)) (v_night : (Nat → Int32)) (a1 : Int32) (a2 : Int32) (a3 : Int32) (N : Nat) (ρ : Int32 × Int32 × (Nat → Int32) × (Nat → Int32) × (Nat → Int32)) (h : fX2_add N n_o a1 a2 a3 v_size v_house v_plot v_night  = some ρ) (sz : Nat) : Met l yX2_add (wz yX2_add cX2_add 4 (some .int)) (cRm 0 0) (cPre D (TY cI cZ cG) [.ref q, .int a1, .int a2, .int a3] (kwX2_add cI cZ cG q q_house q_plot q_night n_o v_size v_house v_plot v_night) sz) (cQi D (ρ.1) (kwX2_add cI cZ cG q q_house q_plot q_night n_o v_size v_house v_plot v_night) (kwX2_add cI cZ cG q q_house q_plot q_night n_o (ρ.2.1) (ρ.2.2.1) (ρ.2.2.2.1) (ρ.2.2.2.2)) sz) 0 0 (va_A (kwX2_add cI cZ cG q q_house q_plot q_night n_o v_size v_house v_plot v_night) sz) :=
  mk_i (by decide) (Nat.le_of_ble_eq_true rfl) (fun X hrm ret hw hl => wX2_add X hrm ret h _ _ _ hw hl)
theorem dX2_clear_0 : decode cX2_clear 0 = .ok (.aload_n 0, 1) := by decide +kernel
theorem dX2_clear_1 : decode cX2_clear 1 = .ok (.getfield 27, 3) := by decide +kernel
theorem dX2_clear_4 : decode cX2_clear 4 = .ok (.istore_n 1, 1) := by decide +kernel
theorem dX2_clear_5 : decode cX2_clear 5 = .ok (.aload_n 0, 1) := by decide +kernel
theorem dX2_clear_6 : decode cX2_clear 6 = .ok (.iconst 0, 1) := by decide +kernel
theorem dX2_clear_7 : decode cX2_clear 7 = .ok (.putfield 27, 3) := by decide +kernel
theorem dX2_clear_10 : decode cX2_clear 10 = .ok (.iload_n 1, 1) := by decide +kernel
theorem dX2_clear_11 : decode cX2_clear 11 = .ok (.ireturn, 1) := by decide +kernel
abbrev kwX2_clear (cI cZ cG : ClassId) (q q_house q_plot q_night : Nat) (v_size : Int32) : va_W := [(q, .inr (2, [.ref q_house, .ref q_plot, .ref q_night, .int v_size]))]
noncomputable def fX2_clear (N : Nat) (v_size : Int32)  : Option (Int32 × Int32) := some (v_size, (0 : Int32))
set_option maxHeartbeats 4000000 in
set_option maxRecDepth 100000 in
theorem wX2_clear {p : Program} {l : Launch} {e : Env} {R : Room} {s : State} {m : MethodId} {args : Array Value} {below : List Frame} {meth : Method} {c : Code} {cells slots : Nat} {Q : State → Prop} {D : va_G} {A : Nat → Prop} {cI cZ cG : ClassId} {q q_house q_plot q_night : Nat} {v_size : Int32} {N : Nat} {ρ : Int32 × Int32} (X : CX p s m args c cX2_clear 2 RX2 D (TY cI cZ cG) A) (hrm : RM R 0 0 cells slots) (ret : ∀ (pc : Nat) (H : Heap) (locs : List Loc) (ls : Array Slot), decode cX2_clear pc = .ok (.ireturn, 1) → WD D A (kwX2_clear cI cZ cG q q_house q_plot q_night (ρ.2)) s.heap H locs → W p l e R s m args below meth c H locs cells slots Q (F0 m pc ls [.int ρ.1])) (h : fX2_clear N v_size  = some ρ) (H : Heap) (locs : List Loc) (ls : Array Slot) (hw : WD D A (kwX2_clear cI cZ cG q q_house q_plot q_night v_size) s.heap H locs) (hl : lv_has ls 2 [(0, .ref q)]) : W p l e R s m args below meth c H locs cells slots Q (F0 m 0 ls []) := by
  have hx := X.1.1
  have hb := X.1.2.1
  unfold fX2_clear at h
  refine lv_aload_n hx hb dX2_clear_0 rfl (lv_at hl 0 rfl) ?_
  refine kget (ci := 2) (v := .int v_size) X hw iX2 0 rfl rfl 3 (by decide) tw_128 rfl dX2_clear_1 ?_
  refine lv_istore_n (lv' := [(1, .int v_size), (0, .ref q)]) hx hb dX2_clear_4 rfl hl (by decide) rfl (fun ls hl => ?_)
  refine lv_aload_n hx hb dX2_clear_5 rfl (lv_at hl 1 rfl) ?_
  refine lv_iconst (v := (0 : Int32)) hx hb dX2_clear_6 (by decide) ?_
  refine kput (ci := 2) (v := .int (0 : Int32)) (ty := .int) X hw iX2 tyX2_ok nmX2 0 rfl rfl 3 (by decide) tw_128 rfl rfl rfl rfl (Nat.le_of_ble_eq_true rfl) dX2_clear_7 (fun H locs hw => ?_)
  have hw : WD D A (kwX2_clear cI cZ cG q q_house q_plot q_night (0 : Int32)) s.heap H locs := hw
  refine lv_iload_n hx hb dX2_clear_10 rfl (lv_at hl 0 rfl) ?_
  obtain rfl := Option.some.inj h
  exact ret _ _ _ _ dX2_clear_11 hw
set_option maxHeartbeats 4000000 in
set_option maxRecDepth 100000 in
theorem cX2_clear_ct (l : Launch) (D : va_G) (cI cZ cG : ClassId) (q q_house q_plot q_night : Nat)  (v_size : Int32)  (N : Nat) (ρ : Int32 × Int32) (h : fX2_clear N v_size  = some ρ) (sz : Nat) : Met l yX2_clear (wz yX2_clear cX2_clear 2 (some .int)) (cRm 0 0) (cPre D (TY cI cZ cG) [.ref q] (kwX2_clear cI cZ cG q q_house q_plot q_night v_size) sz) (cQi D (ρ.1) (kwX2_clear cI cZ cG q q_house q_plot q_night v_size) (kwX2_clear cI cZ cG q q_house q_plot q_night (ρ.2)) sz) 0 0 (va_A (kwX2_clear cI cZ cG q q_house q_plot q_night v_size) sz) :=
  mk_i (by decide) (Nat.le_of_ble_eq_true rfl) (fun X hrm ret hw hl => wX2_clear X hrm ret h _ _ _ hw hl)
theorem dX2_copyFrom_0 : decode cX2_copyFrom 0 = .ok (.aload_n 0, 1) := by decide +kernel
theorem dX2_copyFrom_1 : decode cX2_copyFrom 1 = .ok (.aload_n 1, 1) := by decide +kernel
theorem dX2_copyFrom_2 : decode cX2_copyFrom 2 = .ok (.getfield 27, 3) := by decide +kernel
theorem dX2_copyFrom_5 : decode cX2_copyFrom 5 = .ok (.aload_n 0, 1) := by decide +kernel
theorem dX2_copyFrom_6 : decode cX2_copyFrom 6 = .ok (.getfield 15, 3) := by decide +kernel
theorem dX2_copyFrom_9 : decode cX2_copyFrom 9 = .ok (.arraylength, 1) := by decide +kernel
theorem dX2_copyFrom_10 : decode cX2_copyFrom 10 = .ok (.invokestatic 31, 3) := by decide +kernel
theorem dX2_copyFrom_13 : decode cX2_copyFrom 13 = .ok (.putfield 27, 3) := by decide +kernel
theorem dX2_copyFrom_16 : decode cX2_copyFrom 16 = .ok (.aload_n 1, 1) := by decide +kernel
theorem dX2_copyFrom_17 : decode cX2_copyFrom 17 = .ok (.getfield 15, 3) := by decide +kernel
theorem dX2_copyFrom_20 : decode cX2_copyFrom 20 = .ok (.iconst 0, 1) := by decide +kernel
theorem dX2_copyFrom_21 : decode cX2_copyFrom 21 = .ok (.aload_n 0, 1) := by decide +kernel
theorem dX2_copyFrom_22 : decode cX2_copyFrom 22 = .ok (.getfield 15, 3) := by decide +kernel
theorem dX2_copyFrom_25 : decode cX2_copyFrom 25 = .ok (.iconst 0, 1) := by decide +kernel
theorem dX2_copyFrom_26 : decode cX2_copyFrom 26 = .ok (.aload_n 0, 1) := by decide +kernel
theorem dX2_copyFrom_27 : decode cX2_copyFrom 27 = .ok (.getfield 27, 3) := by decide +kernel
theorem dX2_copyFrom_30 : decode cX2_copyFrom 30 = .ok (.invokestatic 34, 3) := by decide +kernel
theorem dX2_copyFrom_33 : decode cX2_copyFrom 33 = .ok (.aload_n 1, 1) := by decide +kernel
theorem dX2_copyFrom_34 : decode cX2_copyFrom 34 = .ok (.getfield 21, 3) := by decide +kernel
theorem dX2_copyFrom_37 : decode cX2_copyFrom 37 = .ok (.iconst 0, 1) := by decide +kernel
theorem dX2_copyFrom_38 : decode cX2_copyFrom 38 = .ok (.aload_n 0, 1) := by decide +kernel
theorem dX2_copyFrom_39 : decode cX2_copyFrom 39 = .ok (.getfield 21, 3) := by decide +kernel
theorem dX2_copyFrom_42 : decode cX2_copyFrom 42 = .ok (.iconst 0, 1) := by decide +kernel
theorem dX2_copyFrom_43 : decode cX2_copyFrom 43 = .ok (.aload_n 0, 1) := by decide +kernel
theorem dX2_copyFrom_44 : decode cX2_copyFrom 44 = .ok (.getfield 27, 3) := by decide +kernel
theorem dX2_copyFrom_47 : decode cX2_copyFrom 47 = .ok (.invokestatic 34, 3) := by decide +kernel
theorem dX2_copyFrom_50 : decode cX2_copyFrom 50 = .ok (.aload_n 1, 1) := by decide +kernel
theorem dX2_copyFrom_51 : decode cX2_copyFrom 51 = .ok (.getfield 24, 3) := by decide +kernel
theorem dX2_copyFrom_54 : decode cX2_copyFrom 54 = .ok (.iconst 0, 1) := by decide +kernel
theorem dX2_copyFrom_55 : decode cX2_copyFrom 55 = .ok (.aload_n 0, 1) := by decide +kernel
theorem dX2_copyFrom_56 : decode cX2_copyFrom 56 = .ok (.getfield 24, 3) := by decide +kernel
theorem dX2_copyFrom_59 : decode cX2_copyFrom 59 = .ok (.iconst 0, 1) := by decide +kernel
theorem dX2_copyFrom_60 : decode cX2_copyFrom 60 = .ok (.aload_n 0, 1) := by decide +kernel
theorem dX2_copyFrom_61 : decode cX2_copyFrom 61 = .ok (.getfield 27, 3) := by decide +kernel
theorem dX2_copyFrom_64 : decode cX2_copyFrom 64 = .ok (.invokestatic 34, 3) := by decide +kernel
theorem dX2_copyFrom_67 : decode cX2_copyFrom 67 = .ok (.return_, 1) := by decide +kernel
abbrev kwX2_copyFrom (cI cZ cG : ClassId) (q q_house q_plot q_night q1 q1_house q1_plot q1_night n_o n_a1 : Nat) (v_size : Int32) (w1_size : Int32) (v_house : (Nat → Int32)) (w1_house : (Nat → Int32)) (w1_plot : (Nat → Int32)) (v_plot : (Nat → Int32)) (w1_night : (Nat → Int32)) (v_night : (Nat → Int32)) : va_W := [(q, .inr (2, [.ref q_house, .ref q_plot, .ref q_night, .int v_size])), (q1, .inr (2, [.ref q1_house, .ref q1_plot, .ref q1_night, .int w1_size])), (q_house, .inl (cI, n_o, .inl v_house)), (q1_house, .inl (cI, n_a1, .inl w1_house)), (q1_plot, .inl (cI, n_a1, .inl w1_plot)), (q_plot, .inl (cI, n_o, .inl v_plot)), (q1_night, .inl (cI, n_a1, .inl w1_night)), (q_night, .inl (cI, n_o, .inl v_night))]
noncomputable def fX2_copyFrom (N : Nat) (n_o : Nat) (n_a1 : Nat) (w1_size : Int32) (w1_house : (Nat → Int32)) (w1_plot : (Nat → Int32)) (w1_night : (Nat → Int32)) (v_size : Int32) (v_house : (Nat → Int32)) (v_plot : (Nat → Int32)) (v_night : (Nat → Int32))  : Option (Int32 × (Nat → Int32) × (Nat → Int32) × (Nat → Int32)) := if (if (Int32.ofNat n_o) < w1_size then (Int32.ofNat n_o) else w1_size) < 0 ∨ n_a1 < ((if (Int32.ofNat n_o) < w1_size then (Int32.ofNat n_o) else w1_size)).toNatClampNeg ∨ n_o < ((if (Int32.ofNat n_o) < w1_size then (Int32.ofNat n_o) else w1_size)).toNatClampNeg then none else (if (if (Int32.ofNat n_o) < w1_size then (Int32.ofNat n_o) else w1_size) < 0 ∨ n_a1 < ((if (Int32.ofNat n_o) < w1_size then (Int32.ofNat n_o) else w1_size)).toNatClampNeg ∨ n_o < ((if (Int32.ofNat n_o) < w1_size then (Int32.ofNat n_o) else w1_size)).toNatClampNeg then none else (if (if (Int32.ofNat n_o) < w1_size then (Int32.ofNat n_o) else w1_size) < 0 ∨ n_a1 < ((if (Int32.ofNat n_o) < w1_size then (Int32.ofNat n_o) else w1_size)).toNatClampNeg ∨ n_o < ((if (Int32.ofNat n_o) < w1_size then (Int32.ofNat n_o) else w1_size)).toNatClampNeg then none else (some ((if (Int32.ofNat n_o) < w1_size then (Int32.ofNat n_o) else w1_size), (va_cpy w1_house v_house 0 0 ((if (Int32.ofNat n_o) < w1_size then (Int32.ofNat n_o) else w1_size)).toNatClampNeg), (va_cpy w1_plot v_plot 0 0 ((if (Int32.ofNat n_o) < w1_size then (Int32.ofNat n_o) else w1_size)).toNatClampNeg), (va_cpy w1_night v_night 0 0 ((if (Int32.ofNat n_o) < w1_size then (Int32.ofNat n_o) else w1_size)).toNatClampNeg)))))
set_option maxHeartbeats 4000000 in
set_option maxRecDepth 100000 in
theorem wX2_copyFrom {p : Program} {l : Launch} {e : Env} {R : Room} {s : State} {m : MethodId} {args : Array Value} {below : List Frame} {meth : Method} {c : Code} {cells slots : Nat} {Q : State → Prop} {D : va_G} {A : Nat → Prop} {cI cZ cG : ClassId} {q q_house q_plot q_night q1 q1_house q1_plot q1_night : Nat} {n_o n_a1 : Nat} {v_size : Int32} {w1_size : Int32} {v_house : (Nat → Int32)} {w1_house : (Nat → Int32)} {w1_plot : (Nat → Int32)} {v_plot : (Nat → Int32)} {w1_night : (Nat → Int32)} {v_night : (Nat → Int32)} {N : Nat} {ρ : Int32 × (Nat → Int32) × (Nat → Int32) × (Nat → Int32)} (X : CX p s m args c cX2_copyFrom 2 RX2 D (TY cI cZ cG) A) (hrm : RM R 1 40 cells slots) (ret : ∀ (pc : Nat) (H : Heap) (locs : List Loc) (ls : Array Slot), decode cX2_copyFrom pc = .ok (.return_, 1) → WD D A (kwX2_copyFrom cI cZ cG q q_house q_plot q_night q1 q1_house q1_plot q1_night n_o n_a1 (ρ.1) w1_size (ρ.2.1) w1_house w1_plot (ρ.2.2.1) w1_night (ρ.2.2.2)) s.heap H locs → W p l e R s m args below meth c H locs cells slots Q (F0 m pc ls [])) (h : fX2_copyFrom N n_o n_a1 w1_size w1_house w1_plot w1_night v_size v_house v_plot v_night  = some ρ) (H : Heap) (locs : List Loc) (ls : Array Slot) (hw : WD D A (kwX2_copyFrom cI cZ cG q q_house q_plot q_night q1 q1_house q1_plot q1_night n_o n_a1 v_size w1_size v_house w1_house w1_plot v_plot w1_night v_night) s.heap H locs) (hl : lv_has ls 2 [(0, .ref q), (1, .ref q1)]) : W p l e R s m args below meth c H locs cells slots Q (F0 m 0 ls []) := by
  have hx := X.1.1
  have hb := X.1.2.1
  unfold fX2_copyFrom at h
  refine lv_aload_n hx hb dX2_copyFrom_0 rfl (lv_at hl 0 rfl) ?_
  refine lv_aload_n hx hb dX2_copyFrom_1 rfl (lv_at hl 1 rfl) ?_
  refine kget (ci := 2) (v := .int w1_size) X hw iX2 1 rfl rfl 3 (by decide) tw_128 rfl dX2_copyFrom_2 ?_
  refine lv_aload_n hx hb dX2_copyFrom_5 rfl (lv_at hl 0 rfl) ?_
  refine kget (ci := 2) (v := .ref q_house) X hw iX2 0 rfl rfl 0 (by decide) tw_217 rfl dX2_copyFrom_6 ?_
  refine kalen (v := (Int32.ofNat n_o)) X hw 2 rfl rfl rfl dX2_copyFrom_9 ?_
  refine kmin X hl.1 tw_225 tw_87 tw_88 tw_89 (Nat.le_trans (by decide) hrm.1) (Nat.le_trans (Nat.le_of_ble_eq_true rfl) hrm.2.1) ⟨hrm.2.2.1, hrm.2.2.2⟩ dX2_copyFrom_10 ?_
  refine kput (ci := 2) (v := .int (if (Int32.ofNat n_o) < w1_size then (Int32.ofNat n_o) else w1_size)) (ty := .int) X hw iX2 tyX2_ok nmX2 0 rfl rfl 3 (by decide) tw_128 rfl rfl rfl rfl (Nat.le_of_ble_eq_true rfl) dX2_copyFrom_13 (fun H locs hw => ?_)
  have hw : WD D A (kwX2_copyFrom cI cZ cG q q_house q_plot q_night q1 q1_house q1_plot q1_night n_o n_a1 (if (Int32.ofNat n_o) < w1_size then (Int32.ofNat n_o) else w1_size) w1_size v_house w1_house w1_plot v_plot w1_night v_night) s.heap H locs := hw
  refine lv_aload_n hx hb dX2_copyFrom_16 rfl (lv_at hl 1 rfl) ?_
  refine kget (ci := 2) (v := .ref q1_house) X hw iX2 1 rfl rfl 0 (by decide) tw_217 rfl dX2_copyFrom_17 ?_
  refine lv_iconst (v := (0 : Int32)) hx hb dX2_copyFrom_20 (by decide) ?_
  refine lv_aload_n hx hb dX2_copyFrom_21 rfl (lv_at hl 0 rfl) ?_
  refine kget (ci := 2) (v := .ref q_house) X hw iX2 0 rfl rfl 0 (by decide) tw_217 rfl dX2_copyFrom_22 ?_
  refine lv_iconst (v := (0 : Int32)) hx hb dX2_copyFrom_25 (by decide) ?_
  refine lv_aload_n hx hb dX2_copyFrom_26 rfl (lv_at hl 0 rfl) ?_
  refine kget (ci := 2) (v := .int (if (Int32.ofNat n_o) < w1_size then (Int32.ofNat n_o) else w1_size)) X hw iX2 0 rfl rfl 3 (by decide) tw_128 rfl dX2_copyFrom_27 ?_
  obtain ⟨g_30, h⟩ := gd h
  refine kcopy X hw hl.1 tw_226 tw_142 tw_143 tw_144 3 2 rfl rfl rfl g_30 (Nat.le_trans (by decide) hrm.1) (Nat.le_trans (Nat.le_of_ble_eq_true rfl) hrm.2.1) dX2_copyFrom_30 (fun H locs hw => ?_)
  have hw : WD D A (kwX2_copyFrom cI cZ cG q q_house q_plot q_night q1 q1_house q1_plot q1_night n_o n_a1 (if (Int32.ofNat n_o) < w1_size then (Int32.ofNat n_o) else w1_size) w1_size (va_cpy w1_house v_house 0 0 ((if (Int32.ofNat n_o) < w1_size then (Int32.ofNat n_o) else w1_size)).toNatClampNeg) w1_house w1_plot v_plot w1_night v_night) s.heap H locs := hw
  refine lv_aload_n hx hb dX2_copyFrom_33 rfl (lv_at hl 1 rfl) ?_
  refine kget (ci := 2) (v := .ref q1_plot) X hw iX2 1 rfl rfl 1 (by decide) tw_218 rfl dX2_copyFrom_34 ?_
  refine lv_iconst (v := (0 : Int32)) hx hb dX2_copyFrom_37 (by decide) ?_
  refine lv_aload_n hx hb dX2_copyFrom_38 rfl (lv_at hl 0 rfl) ?_
  refine kget (ci := 2) (v := .ref q_plot) X hw iX2 0 rfl rfl 1 (by decide) tw_218 rfl dX2_copyFrom_39 ?_
  refine lv_iconst (v := (0 : Int32)) hx hb dX2_copyFrom_42 (by decide) ?_
  refine lv_aload_n hx hb dX2_copyFrom_43 rfl (lv_at hl 0 rfl) ?_
  refine kget (ci := 2) (v := .int (if (Int32.ofNat n_o) < w1_size then (Int32.ofNat n_o) else w1_size)) X hw iX2 0 rfl rfl 3 (by decide) tw_128 rfl dX2_copyFrom_44 ?_
  obtain ⟨g_47, h⟩ := gd h
  refine kcopy X hw hl.1 tw_226 tw_142 tw_143 tw_144 4 5 rfl rfl rfl g_47 (Nat.le_trans (by decide) hrm.1) (Nat.le_trans (Nat.le_of_ble_eq_true rfl) hrm.2.1) dX2_copyFrom_47 (fun H locs hw => ?_)
  have hw : WD D A (kwX2_copyFrom cI cZ cG q q_house q_plot q_night q1 q1_house q1_plot q1_night n_o n_a1 (if (Int32.ofNat n_o) < w1_size then (Int32.ofNat n_o) else w1_size) w1_size (va_cpy w1_house v_house 0 0 ((if (Int32.ofNat n_o) < w1_size then (Int32.ofNat n_o) else w1_size)).toNatClampNeg) w1_house w1_plot (va_cpy w1_plot v_plot 0 0 ((if (Int32.ofNat n_o) < w1_size then (Int32.ofNat n_o) else w1_size)).toNatClampNeg) w1_night v_night) s.heap H locs := hw
  refine lv_aload_n hx hb dX2_copyFrom_50 rfl (lv_at hl 1 rfl) ?_
  refine kget (ci := 2) (v := .ref q1_night) X hw iX2 1 rfl rfl 2 (by decide) tw_129 rfl dX2_copyFrom_51 ?_
  refine lv_iconst (v := (0 : Int32)) hx hb dX2_copyFrom_54 (by decide) ?_
  refine lv_aload_n hx hb dX2_copyFrom_55 rfl (lv_at hl 0 rfl) ?_
  refine kget (ci := 2) (v := .ref q_night) X hw iX2 0 rfl rfl 2 (by decide) tw_129 rfl dX2_copyFrom_56 ?_
  refine lv_iconst (v := (0 : Int32)) hx hb dX2_copyFrom_59 (by decide) ?_
  refine lv_aload_n hx hb dX2_copyFrom_60 rfl (lv_at hl 0 rfl) ?_
  refine kget (ci := 2) (v := .int (if (Int32.ofNat n_o) < w1_size then (Int32.ofNat n_o) else w1_size)) X hw iX2 0 rfl rfl 3 (by decide) tw_128 rfl dX2_copyFrom_61 ?_
  obtain ⟨g_64, h⟩ := gd h
  refine kcopy X hw hl.1 tw_226 tw_142 tw_143 tw_144 6 7 rfl rfl rfl g_64 (Nat.le_trans (by decide) hrm.1) (Nat.le_trans (Nat.le_of_ble_eq_true rfl) hrm.2.1) dX2_copyFrom_64 (fun H locs hw => ?_)
  have hw : WD D A (kwX2_copyFrom cI cZ cG q q_house q_plot q_night q1 q1_house q1_plot q1_night n_o n_a1 (if (Int32.ofNat n_o) < w1_size then (Int32.ofNat n_o) else w1_size) w1_size (va_cpy w1_house v_house 0 0 ((if (Int32.ofNat n_o) < w1_size then (Int32.ofNat n_o) else w1_size)).toNatClampNeg) w1_house w1_plot (va_cpy w1_plot v_plot 0 0 ((if (Int32.ofNat n_o) < w1_size then (Int32.ofNat n_o) else w1_size)).toNatClampNeg) w1_night (va_cpy w1_night v_night 0 0 ((if (Int32.ofNat n_o) < w1_size then (Int32.ofNat n_o) else w1_size)).toNatClampNeg)) s.heap H locs := hw
  obtain rfl := Option.some.inj h
  exact ret _ _ _ _ dX2_copyFrom_67 hw
set_option maxHeartbeats 4000000 in
set_option maxRecDepth 100000 in
theorem cX2_copyFrom_ct (l : Launch) (D : va_G) (cI cZ cG : ClassId) (q q_house q_plot q_night q1 q1_house q1_plot q1_night : Nat) (n_o n_a1 : Nat) (v_size : Int32) (w1_size : Int32) (v_house : (Nat → Int32)) (w1_house : (Nat → Int32)) (w1_plot : (Nat → Int32)) (v_plot : (Nat → Int32)) (w1_night : (Nat → Int32)) (v_night : (Nat → Int32))  (N : Nat) (ρ : Int32 × (Nat → Int32) × (Nat → Int32) × (Nat → Int32)) (h : fX2_copyFrom N n_o n_a1 w1_size w1_house w1_plot w1_night v_size v_house v_plot v_night  = some ρ) (sz : Nat) : Met l yX2_copyFrom (wz yX2_copyFrom cX2_copyFrom 2 none) (cRm 1 40) (cPre D (TY cI cZ cG) [.ref q, .ref q1] (kwX2_copyFrom cI cZ cG q q_house q_plot q_night q1 q1_house q1_plot q1_night n_o n_a1 v_size w1_size v_house w1_house w1_plot v_plot w1_night v_night) sz) (cQv D (kwX2_copyFrom cI cZ cG q q_house q_plot q_night q1 q1_house q1_plot q1_night n_o n_a1 v_size w1_size v_house w1_house w1_plot v_plot w1_night v_night) (kwX2_copyFrom cI cZ cG q q_house q_plot q_night q1 q1_house q1_plot q1_night n_o n_a1 (ρ.1) w1_size (ρ.2.1) w1_house w1_plot (ρ.2.2.1) w1_night (ρ.2.2.2)) sz) 0 0 (va_A (kwX2_copyFrom cI cZ cG q q_house q_plot q_night q1 q1_house q1_plot q1_night n_o n_a1 v_size w1_size v_house w1_house w1_plot v_plot w1_night v_night) sz) :=
  mk_v (by decide) (Nat.le_of_ble_eq_true rfl) (fun X hrm ret hw hl => wX2_copyFrom X hrm ret h _ _ _ hw hl)
theorem dX2_trueBehind_0 : decode cX2_trueBehind 0 = .ok (.iconst 0, 1) := by decide +kernel
theorem dX2_trueBehind_1 : decode cX2_trueBehind 1 = .ok (.istore_n 3, 1) := by decide +kernel
theorem dX2_trueBehind_2 : decode cX2_trueBehind 2 = .ok (.iconst 0, 1) := by decide +kernel
theorem dX2_trueBehind_3 : decode cX2_trueBehind 3 = .ok (.istore 4, 2) := by decide +kernel
theorem dX2_trueBehind_5 : decode cX2_trueBehind 5 = .ok (.iload 4, 2) := by decide +kernel
theorem dX2_trueBehind_7 : decode cX2_trueBehind 7 = .ok (.aload_n 0, 1) := by decide +kernel
theorem dX2_trueBehind_8 : decode cX2_trueBehind 8 = .ok (.getfield 27, 3) := by decide +kernel
theorem dX2_trueBehind_11 : decode cX2_trueBehind 11 = .ok (.if_icmp .ge 45, 3) := by decide +kernel
theorem dX2_trueBehind_14 : decode cX2_trueBehind 14 = .ok (.aload_n 0, 1) := by decide +kernel
theorem dX2_trueBehind_15 : decode cX2_trueBehind 15 = .ok (.getfield 24, 3) := by decide +kernel
theorem dX2_trueBehind_18 : decode cX2_trueBehind 18 = .ok (.iload 4, 2) := by decide +kernel
theorem dX2_trueBehind_20 : decode cX2_trueBehind 20 = .ok (.iaload, 1) := by decide +kernel
theorem dX2_trueBehind_21 : decode cX2_trueBehind 21 = .ok (.iload_n 1, 1) := by decide +kernel
theorem dX2_trueBehind_22 : decode cX2_trueBehind 22 = .ok (.if_icmp .ne 28, 3) := by decide +kernel
theorem dX2_trueBehind_25 : decode cX2_trueBehind 25 = .ok (.aload_n 2, 1) := by decide +kernel
theorem dX2_trueBehind_26 : decode cX2_trueBehind 26 = .ok (.getfield 40, 3) := by decide +kernel
theorem dX2_trueBehind_29 : decode cX2_trueBehind 29 = .ok (.aload_n 0, 1) := by decide +kernel
theorem dX2_trueBehind_30 : decode cX2_trueBehind 30 = .ok (.getfield 15, 3) := by decide +kernel
theorem dX2_trueBehind_33 : decode cX2_trueBehind 33 = .ok (.iload 4, 2) := by decide +kernel
theorem dX2_trueBehind_35 : decode cX2_trueBehind 35 = .ok (.iaload, 1) := by decide +kernel
theorem dX2_trueBehind_36 : decode cX2_trueBehind 36 = .ok (.iaload, 1) := by decide +kernel
theorem dX2_trueBehind_37 : decode cX2_trueBehind 37 = .ok (.aload_n 0, 1) := by decide +kernel
theorem dX2_trueBehind_38 : decode cX2_trueBehind 38 = .ok (.getfield 21, 3) := by decide +kernel
theorem dX2_trueBehind_41 : decode cX2_trueBehind 41 = .ok (.iload 4, 2) := by decide +kernel
theorem dX2_trueBehind_43 : decode cX2_trueBehind 43 = .ok (.iaload, 1) := by decide +kernel
theorem dX2_trueBehind_44 : decode cX2_trueBehind 44 = .ok (.if_icmp .ne 6, 3) := by decide +kernel
theorem dX2_trueBehind_47 : decode cX2_trueBehind 47 = .ok (.iinc 3 1, 3) := by decide +kernel
theorem dX2_trueBehind_50 : decode cX2_trueBehind 50 = .ok (.iinc 4 1, 3) := by decide +kernel
theorem dX2_trueBehind_53 : decode cX2_trueBehind 53 = .ok (.goto (-48), 3) := by decide +kernel
theorem dX2_trueBehind_56 : decode cX2_trueBehind 56 = .ok (.iload_n 3, 1) := by decide +kernel
theorem dX2_trueBehind_57 : decode cX2_trueBehind 57 = .ok (.ireturn, 1) := by decide +kernel
abbrev kwX2_trueBehind (cI cZ cG : ClassId) (q q_house q_plot q_night q2 q2_kindOf q2_plotOf q2_row q2_standsOn n_o : Nat) (v_size : Int32) (v_night : (Nat → Int32)) (w2_houses : Int32) (w2_front : Int32) (w2_downFor : Int32) (v_house : (Nat → Int32)) (w2_plotOf : (Nat → Int32)) (v_plot : (Nat → Int32)) : va_W := [(q, .inr (2, [.ref q_house, .ref q_plot, .ref q_night, .int v_size])), (q_night, .inl (cI, n_o, .inl v_night)), (q2, .inr (6, [.ref q2_kindOf, .ref q2_plotOf, .ref q2_row, .ref q2_standsOn, .int w2_houses, .int w2_front, .int w2_downFor])), (q_house, .inl (cI, n_o, .inl v_house)), (q2_plotOf, .inl (cI, 6, .inl w2_plotOf)), (q_plot, .inl (cI, n_o, .inl v_plot))]
noncomputable def fX2_trueBehind_5 (N : Nat) (n_o : Nat) (v_size : Int32) (v_night : (Nat → Int32)) (v_house : (Nat → Int32)) (w2_plotOf : (Nat → Int32)) (v_plot : (Nat → Int32)) (a1 : Int32)  (K_5 : Int32 → Int32 → Option (Int32)) (l3 : Int32) (l4 : Int32) : Option (Int32) := if v_size ≤ l4 then (some l3) else (if l4 < 0 ∨ n_o ≤ (l4).toNatClampNeg then none else (if (v_night (l4).toNatClampNeg) = a1 then (if l4 < 0 ∨ n_o ≤ (l4).toNatClampNeg then none else (if (v_house (l4).toNatClampNeg) < 0 ∨ 6 ≤ ((v_house (l4).toNatClampNeg)).toNatClampNeg then none else (if l4 < 0 ∨ n_o ≤ (l4).toNatClampNeg then none else (if (w2_plotOf ((v_house (l4).toNatClampNeg)).toNatClampNeg) = (v_plot (l4).toNatClampNeg) then (K_5 (l3 + (1 : Int32)) (l4 + (1 : Int32))) else (K_5 l3 (l4 + (1 : Int32))))))) else (K_5 l3 (l4 + (1 : Int32)))))
noncomputable def fX2_trueBehind (N : Nat) (n_o : Nat) (v_size : Int32) (v_night : (Nat → Int32)) (v_house : (Nat → Int32)) (w2_plotOf : (Nat → Int32)) (v_plot : (Nat → Int32)) (a1 : Int32)   : Option (Int32) := lfix (fun (K : Int32 × Int32 → Option (Int32)) (a : Int32 × Int32) => fX2_trueBehind_5 N n_o v_size v_night v_house w2_plotOf v_plot a1 (fun (l3 : Int32) (l4 : Int32) => K (l3, l4)) a.1 a.2) N ((0 : Int32), (0 : Int32))
set_option maxHeartbeats 4000000 in
set_option maxRecDepth 100000 in
theorem wX2_trueBehind_5 {p : Program} {l : Launch} {e : Env} {R : Room} {s : State} {m : MethodId} {args : Array Value} {below : List Frame} {meth : Method} {c : Code} {cells slots : Nat} {Q : State → Prop} {D : va_G} {A : Nat → Prop} {cI cZ cG : ClassId} {q q_house q_plot q_night q2 q2_kindOf q2_plotOf q2_row q2_standsOn : Nat} {n_o : Nat} {v_size : Int32} {v_night : (Nat → Int32)} {w2_houses : Int32} {w2_front : Int32} {w2_downFor : Int32} {v_house : (Nat → Int32)} {w2_plotOf : (Nat → Int32)} {v_plot : (Nat → Int32)} {a1 : Int32} {N : Nat} {ρ : Int32} (X : CX p s m args c cX2_trueBehind 5 RX2 D (TY cI cZ cG) A) (hrm : RM R 0 0 cells slots) (ret : ∀ (pc : Nat) (H : Heap) (locs : List Loc) (ls : Array Slot), decode cX2_trueBehind pc = .ok (.ireturn, 1) → WD D A (kwX2_trueBehind cI cZ cG q q_house q_plot q_night q2 q2_kindOf q2_plotOf q2_row q2_standsOn n_o v_size v_night w2_houses w2_front w2_downFor v_house w2_plotOf v_plot) s.heap H locs → W p l e R s m args below meth c H locs cells slots Q (F0 m pc ls [.int ρ]))  : ∀ (n : Nat) (a : Int32 × Int32), lfix (fun (K : Int32 × Int32 → Option (Int32)) (a : Int32 × Int32) => fX2_trueBehind_5 N n_o v_size v_night v_house w2_plotOf v_plot a1 (fun (l3 : Int32) (l4 : Int32) => K (l3, l4)) a.1 a.2) n a = some ρ → (fun (l3 : Int32) (l4 : Int32) => ∀ (H : Heap) (locs : List Loc) (ls : Array Slot), WD D A (kwX2_trueBehind cI cZ cG q q_house q_plot q_night q2 q2_kindOf q2_plotOf q2_row q2_standsOn n_o v_size v_night w2_houses w2_front w2_downFor v_house w2_plotOf v_plot) s.heap H locs → lv_has ls 5 [(0, .ref q), (1, .int a1), (2, .ref q2), (3, .int l3), (4, .int l4)] → W p l e R s m args below meth c H locs cells slots Q (F0 m 5 ls [])) (a.1) (a.2) := by
  have hx := X.1.1
  have hb := X.1.2.1
  refine lfix_W (fun K hK a h => ?_)
  obtain ⟨l3, l4⟩ := a
  intro H locs ls hw hl
  have h : fX2_trueBehind_5 N n_o v_size v_night v_house w2_plotOf v_plot a1 (fun (l3 : Int32) (l4 : Int32) => K (l3, l4)) l3 l4 = some ρ := h
  have hK_5 : ∀ (l3 : Int32) (l4 : Int32), (fun (l3 : Int32) (l4 : Int32) => K (l3, l4)) l3 l4 = some ρ → ∀ (H : Heap) (locs : List Loc) (ls : Array Slot), WD D A (kwX2_trueBehind cI cZ cG q q_house q_plot q_night q2 q2_kindOf q2_plotOf q2_row q2_standsOn n_o v_size v_night w2_houses w2_front w2_downFor v_house w2_plotOf v_plot) s.heap H locs → lv_has ls 5 [(0, .ref q), (1, .int a1), (2, .ref q2), (3, .int l3), (4, .int l4)] → W p l e R s m args below meth c H locs cells slots Q (F0 m 5 ls []) := fun l3 l4 h => hK (l3, l4) h
  generalize (fun (l3 : Int32) (l4 : Int32) => K (l3, l4)) = K_5 at h hK_5
  have hw : WD D A (kwX2_trueBehind cI cZ cG q q_house q_plot q_night q2 q2_kindOf q2_plotOf q2_row q2_standsOn n_o v_size v_night w2_houses w2_front w2_downFor v_house w2_plotOf v_plot) s.heap H locs := hw
  have hl : lv_has ls 5 [(0, .ref q), (1, .int a1), (2, .ref q2), (3, .int l3), (4, .int l4)] := hl
  unfold fX2_trueBehind_5 at h
  refine lv_iload hx hb dX2_trueBehind_5 (lv_at hl 4 rfl) ?_
  refine lv_aload_n hx hb dX2_trueBehind_7 rfl (lv_at hl 0 rfl) ?_
  refine kget (ci := 2) (v := .int v_size) X hw iX2 0 rfl rfl 3 (by decide) tw_128 rfl dX2_trueBehind_8 ?_
  refine lv_icmp_ge (tgt := 56) hx hb dX2_trueBehind_11 (by decide) (fun c_11 => ?_) (fun c_11 => ?_)
  · have h := ift c_11 h
    refine lv_iload_n hx hb dX2_trueBehind_56 rfl (lv_at hl 3 rfl) ?_
    obtain rfl := Option.some.inj h
    exact ret _ _ _ _ dX2_trueBehind_57 hw
  · have h := iff_ c_11 h
    refine lv_aload_n hx hb dX2_trueBehind_14 rfl (lv_at hl 0 rfl) ?_
    refine kget (ci := 2) (v := .ref q_night) X hw iX2 0 rfl rfl 2 (by decide) tw_129 rfl dX2_trueBehind_15 ?_
    refine lv_iload hx hb dX2_trueBehind_18 (lv_at hl 4 rfl) ?_
    obtain ⟨g_20, h⟩ := gd h
    refine kiald X hw 1 rfl rfl g_20 dX2_trueBehind_20 ?_
    refine lv_iload_n hx hb dX2_trueBehind_21 rfl (lv_at hl 1 rfl) ?_
    refine lv_icmp_ne (tgt := 50) hx hb dX2_trueBehind_22 (by decide) (fun c_22 => ?_) (fun c_22 => ?_)
    · have h := iff_ c_22 h
      refine lv_iinc (v := (l4 + (1 : Int32))) (lv' := [(4, .int (l4 + (1 : Int32))), (0, .ref q), (1, .int a1), (2, .ref q2), (3, .int l3)]) hx hb dX2_trueBehind_50 hl (k := 4) rfl (congrArg (l4 + ·) (by decide)) (by decide) rfl (fun ls hl => ?_)
      refine lv_goto (tgt := 5) hx hb dX2_trueBehind_53 (by decide) ?_
      exact hK_5 _ _ h _ _ _ hw (lv_sub hl [1, 2, 3, 4, 0] rfl)
    · have h := ift c_22 h
      refine lv_aload_n hx hb dX2_trueBehind_25 rfl (lv_at hl 2 rfl) ?_
      refine kget (ci := 6) (v := .ref q2_plotOf) X hw iX6 2 rfl rfl 1 (by decide) tw_230 rfl dX2_trueBehind_26 ?_
      refine lv_aload_n hx hb dX2_trueBehind_29 rfl (lv_at hl 0 rfl) ?_
      refine kget (ci := 2) (v := .ref q_house) X hw iX2 0 rfl rfl 0 (by decide) tw_217 rfl dX2_trueBehind_30 ?_
      refine lv_iload hx hb dX2_trueBehind_33 (lv_at hl 4 rfl) ?_
      obtain ⟨g_35, h⟩ := gd h
      refine kiald X hw 3 rfl rfl g_35 dX2_trueBehind_35 ?_
      obtain ⟨g_36, h⟩ := gd h
      refine kiald X hw 4 rfl rfl g_36 dX2_trueBehind_36 ?_
      refine lv_aload_n hx hb dX2_trueBehind_37 rfl (lv_at hl 0 rfl) ?_
      refine kget (ci := 2) (v := .ref q_plot) X hw iX2 0 rfl rfl 1 (by decide) tw_218 rfl dX2_trueBehind_38 ?_
      refine lv_iload hx hb dX2_trueBehind_41 (lv_at hl 4 rfl) ?_
      obtain ⟨g_43, h⟩ := gd h
      refine kiald X hw 5 rfl rfl g_43 dX2_trueBehind_43 ?_
      refine lv_icmp_ne (tgt := 50) hx hb dX2_trueBehind_44 (by decide) (fun c_44 => ?_) (fun c_44 => ?_)
      · have h := iff_ c_44 h
        refine lv_iinc (v := (l4 + (1 : Int32))) (lv' := [(4, .int (l4 + (1 : Int32))), (0, .ref q), (1, .int a1), (2, .ref q2), (3, .int l3)]) hx hb dX2_trueBehind_50 hl (k := 4) rfl (congrArg (l4 + ·) (by decide)) (by decide) rfl (fun ls hl => ?_)
        refine lv_goto (tgt := 5) hx hb dX2_trueBehind_53 (by decide) ?_
        exact hK_5 _ _ h _ _ _ hw (lv_sub hl [1, 2, 3, 4, 0] rfl)
      · have h := ift c_44 h
        refine lv_iinc (v := (l3 + (1 : Int32))) (lv' := [(3, .int (l3 + (1 : Int32))), (0, .ref q), (1, .int a1), (2, .ref q2), (4, .int l4)]) hx hb dX2_trueBehind_47 hl (k := 3) rfl (congrArg (l3 + ·) (by decide)) (by decide) rfl (fun ls hl => ?_)
        refine lv_iinc (v := (l4 + (1 : Int32))) (lv' := [(4, .int (l4 + (1 : Int32))), (3, .int (l3 + (1 : Int32))), (0, .ref q), (1, .int a1), (2, .ref q2)]) hx hb dX2_trueBehind_50 hl (k := 4) rfl (congrArg (l4 + ·) (by decide)) (by decide) rfl (fun ls hl => ?_)
        refine lv_goto (tgt := 5) hx hb dX2_trueBehind_53 (by decide) ?_
        exact hK_5 _ _ h _ _ _ hw (lv_sub hl [2, 3, 4, 1, 0] rfl)
set_option maxHeartbeats 4000000 in
set_option maxRecDepth 100000 in
theorem wX2_trueBehind {p : Program} {l : Launch} {e : Env} {R : Room} {s : State} {m : MethodId} {args : Array Value} {below : List Frame} {meth : Method} {c : Code} {cells slots : Nat} {Q : State → Prop} {D : va_G} {A : Nat → Prop} {cI cZ cG : ClassId} {q q_house q_plot q_night q2 q2_kindOf q2_plotOf q2_row q2_standsOn : Nat} {n_o : Nat} {v_size : Int32} {v_night : (Nat → Int32)} {w2_houses : Int32} {w2_front : Int32} {w2_downFor : Int32} {v_house : (Nat → Int32)} {w2_plotOf : (Nat → Int32)} {v_plot : (Nat → Int32)} {a1 : Int32} {N : Nat} {ρ : Int32} (X : CX p s m args c cX2_trueBehind 5 RX2 D (TY cI cZ cG) A) (hrm : RM R 0 0 cells slots) (ret : ∀ (pc : Nat) (H : Heap) (locs : List Loc) (ls : Array Slot), decode cX2_trueBehind pc = .ok (.ireturn, 1) → WD D A (kwX2_trueBehind cI cZ cG q q_house q_plot q_night q2 q2_kindOf q2_plotOf q2_row q2_standsOn n_o v_size v_night w2_houses w2_front w2_downFor v_house w2_plotOf v_plot) s.heap H locs → W p l e R s m args below meth c H locs cells slots Q (F0 m pc ls [.int ρ])) (h : fX2_trueBehind N n_o v_size v_night v_house w2_plotOf v_plot a1   = some ρ) (H : Heap) (locs : List Loc) (ls : Array Slot) (hw : WD D A (kwX2_trueBehind cI cZ cG q q_house q_plot q_night q2 q2_kindOf q2_plotOf q2_row q2_standsOn n_o v_size v_night w2_houses w2_front w2_downFor v_house w2_plotOf v_plot) s.heap H locs) (hl : lv_has ls 5 [(0, .ref q), (1, .int a1), (2, .ref q2)]) : W p l e R s m args below meth c H locs cells slots Q (F0 m 0 ls []) := by
  have hx := X.1.1
  have hb := X.1.2.1
  unfold fX2_trueBehind at h
  refine lv_iconst (v := (0 : Int32)) hx hb dX2_trueBehind_0 (by decide) ?_
  refine lv_istore_n (lv' := [(3, .int (0 : Int32)), (0, .ref q), (1, .int a1), (2, .ref q2)]) hx hb dX2_trueBehind_1 rfl hl (by decide) rfl (fun ls hl => ?_)
  refine lv_iconst (v := (0 : Int32)) hx hb dX2_trueBehind_2 (by decide) ?_
  refine lv_istore (lv' := [(4, .int (0 : Int32)), (3, .int (0 : Int32)), (0, .ref q), (1, .int a1), (2, .ref q2)]) hx hb dX2_trueBehind_3 hl (by decide) rfl (fun ls hl => ?_)
  exact wX2_trueBehind_5 X hrm ret  _ _ h _ _ _ hw (lv_sub hl [2, 3, 4, 1, 0] rfl)
set_option maxHeartbeats 4000000 in
set_option maxRecDepth 100000 in
theorem cX2_trueBehind_ct (l : Launch) (D : va_G) (cI cZ cG : ClassId) (q q_house q_plot q_night q2 q2_kindOf q2_plotOf q2_row q2_standsOn : Nat) (n_o : Nat) (v_size : Int32) (v_night : (Nat → Int32)) (w2_houses : Int32) (w2_front : Int32) (w2_downFor : Int32) (v_house : (Nat → Int32)) (w2_plotOf : (Nat → Int32)) (v_plot : (Nat → Int32)) (a1 : Int32) (N : Nat) (ρ : Int32) (h : fX2_trueBehind N n_o v_size v_night v_house w2_plotOf v_plot a1   = some ρ) (sz : Nat) : Met l yX2_trueBehind (wz yX2_trueBehind cX2_trueBehind 5 (some .int)) (cRm 0 0) (cPre D (TY cI cZ cG) [.ref q, .int a1, .ref q2] (kwX2_trueBehind cI cZ cG q q_house q_plot q_night q2 q2_kindOf q2_plotOf q2_row q2_standsOn n_o v_size v_night w2_houses w2_front w2_downFor v_house w2_plotOf v_plot) sz) (cQi D (ρ) (kwX2_trueBehind cI cZ cG q q_house q_plot q_night q2 q2_kindOf q2_plotOf q2_row q2_standsOn n_o v_size v_night w2_houses w2_front w2_downFor v_house w2_plotOf v_plot) (kwX2_trueBehind cI cZ cG q q_house q_plot q_night q2 q2_kindOf q2_plotOf q2_row q2_standsOn n_o v_size v_night w2_houses w2_front w2_downFor v_house w2_plotOf v_plot) sz) 0 0 (va_A (kwX2_trueBehind cI cZ cG q q_house q_plot q_night q2 q2_kindOf q2_plotOf q2_row q2_standsOn n_o v_size v_night w2_houses w2_front w2_downFor v_house w2_plotOf v_plot) sz) :=
  mk_i (by decide) (Nat.le_of_ble_eq_true rfl) (fun X hrm ret hw hl => wX2_trueBehind X hrm ret h _ _ _ hw hl)
theorem dX3_write_0 : decode cX3_write 0 = .ok (.aload_n 0, 1) := by decide +kernel
theorem dX3_write_1 : decode cX3_write 1 = .ok (.getfield 15, 3) := by decide +kernel
theorem dX3_write_4 : decode cX3_write 4 = .ok (.bipush 32, 2) := by decide +kernel
theorem dX3_write_6 : decode cX3_write 6 = .ok (.if_icmp .ge 23, 3) := by decide +kernel
theorem dX3_write_9 : decode cX3_write 9 = .ok (.aload_n 0, 1) := by decide +kernel
theorem dX3_write_10 : decode cX3_write 10 = .ok (.getfield 9, 3) := by decide +kernel
theorem dX3_write_13 : decode cX3_write 13 = .ok (.aload_n 0, 1) := by decide +kernel
theorem dX3_write_14 : decode cX3_write 14 = .ok (.getfield 15, 3) := by decide +kernel
theorem dX3_write_17 : decode cX3_write 17 = .ok (.iload_n 1, 1) := by decide +kernel
theorem dX3_write_18 : decode cX3_write 18 = .ok (.iastore, 1) := by decide +kernel
theorem dX3_write_19 : decode cX3_write 19 = .ok (.aload_n 0, 1) := by decide +kernel
theorem dX3_write_20 : decode cX3_write 20 = .ok (.dup, 1) := by decide +kernel
theorem dX3_write_21 : decode cX3_write 21 = .ok (.getfield 15, 3) := by decide +kernel
theorem dX3_write_24 : decode cX3_write 24 = .ok (.iconst 1, 1) := by decide +kernel
theorem dX3_write_25 : decode cX3_write 25 = .ok (.iadd, 1) := by decide +kernel
theorem dX3_write_26 : decode cX3_write 26 = .ok (.putfield 15, 3) := by decide +kernel
theorem dX3_write_29 : decode cX3_write 29 = .ok (.return_, 1) := by decide +kernel
abbrev kwX3_write (cI cZ cG : ClassId) (q q_letters : Nat) (v_size : Int32) (v_letters : (Nat → Int32)) : va_W := [(q, .inr (3, [.ref q_letters, .int v_size])), (q_letters, .inl (cI, 32, .inl v_letters))]
noncomputable def fX3_write (N : Nat) (a1 : Int32) (v_size : Int32) (v_letters : (Nat → Int32))  : Option (Int32 × (Nat → Int32)) := if (32 : Int32) ≤ v_size then (some (v_size, v_letters)) else (if v_size < 0 ∨ 32 ≤ (v_size).toNatClampNeg then none else (some ((v_size + (1 : Int32)), (upd v_letters (v_size).toNatClampNeg a1))))
set_option maxHeartbeats 4000000 in
set_option maxRecDepth 100000 in
theorem wX3_write {p : Program} {l : Launch} {e : Env} {R : Room} {s : State} {m : MethodId} {args : Array Value} {below : List Frame} {meth : Method} {c : Code} {cells slots : Nat} {Q : State → Prop} {D : va_G} {A : Nat → Prop} {cI cZ cG : ClassId} {q q_letters : Nat} {v_size : Int32} {v_letters : (Nat → Int32)} {a1 : Int32} {N : Nat} {ρ : Int32 × (Nat → Int32)} (X : CX p s m args c cX3_write 2 RX3 D (TY cI cZ cG) A) (hrm : RM R 0 0 cells slots) (ret : ∀ (pc : Nat) (H : Heap) (locs : List Loc) (ls : Array Slot), decode cX3_write pc = .ok (.return_, 1) → WD D A (kwX3_write cI cZ cG q q_letters (ρ.1) (ρ.2)) s.heap H locs → W p l e R s m args below meth c H locs cells slots Q (F0 m pc ls [])) (h : fX3_write N a1 v_size v_letters  = some ρ) (H : Heap) (locs : List Loc) (ls : Array Slot) (hw : WD D A (kwX3_write cI cZ cG q q_letters v_size v_letters) s.heap H locs) (hl : lv_has ls 2 [(0, .ref q), (1, .int a1)]) : W p l e R s m args below meth c H locs cells slots Q (F0 m 0 ls []) := by
  have hx := X.1.1
  have hb := X.1.2.1
  unfold fX3_write at h
  refine lv_aload_n hx hb dX3_write_0 rfl (lv_at hl 0 rfl) ?_
  refine kget (ci := 3) (v := .int v_size) X hw iX3 0 rfl rfl 1 (by decide) tw_85 rfl dX3_write_1 ?_
  refine lv_bipush (v := (32 : Int32)) hx hb dX3_write_4 (by decide) ?_
  refine lv_icmp_ge (tgt := 29) hx hb dX3_write_6 (by decide) (fun c_6 => ?_) (fun c_6 => ?_)
  · have h := ift c_6 h
    obtain rfl := Option.some.inj h
    exact ret _ _ _ _ dX3_write_29 hw
  · have h := iff_ c_6 h
    refine lv_aload_n hx hb dX3_write_9 rfl (lv_at hl 0 rfl) ?_
    refine kget (ci := 3) (v := .ref q_letters) X hw iX3 0 rfl rfl 0 (by decide) tw_94 rfl dX3_write_10 ?_
    refine lv_aload_n hx hb dX3_write_13 rfl (lv_at hl 0 rfl) ?_
    refine kget (ci := 3) (v := .int v_size) X hw iX3 0 rfl rfl 1 (by decide) tw_85 rfl dX3_write_14 ?_
    refine lv_iload_n hx hb dX3_write_17 rfl (lv_at hl 1 rfl) ?_
    obtain ⟨g_18, h⟩ := gd h
    refine kiast X hw 1 rfl rfl g_18 dX3_write_18 (fun H locs hw => ?_)
    have hw : WD D A (kwX3_write cI cZ cG q q_letters v_size (upd v_letters (v_size).toNatClampNeg a1)) s.heap H locs := hw
    refine lv_aload_n hx hb dX3_write_19 rfl (lv_at hl 0 rfl) ?_
    refine lv_dup hx hb dX3_write_20 rfl ?_
    refine kget (ci := 3) (v := .int v_size) X hw iX3 0 rfl rfl 1 (by decide) tw_85 rfl dX3_write_21 ?_
    refine lv_iconst (v := (1 : Int32)) hx hb dX3_write_24 (by decide) ?_
    refine lv_iadd hx hb dX3_write_25 ?_
    refine kput (ci := 3) (v := .int (v_size + (1 : Int32))) (ty := .int) X hw iX3 tyX3_ok nmX3 0 rfl rfl 1 (by decide) tw_85 rfl rfl rfl rfl (Nat.le_of_ble_eq_true rfl) dX3_write_26 (fun H locs hw => ?_)
    have hw : WD D A (kwX3_write cI cZ cG q q_letters (v_size + (1 : Int32)) (upd v_letters (v_size).toNatClampNeg a1)) s.heap H locs := hw
    obtain rfl := Option.some.inj h
    exact ret _ _ _ _ dX3_write_29 hw
set_option maxHeartbeats 4000000 in
set_option maxRecDepth 100000 in
theorem cX3_write_ct (l : Launch) (D : va_G) (cI cZ cG : ClassId) (q q_letters : Nat)  (v_size : Int32) (v_letters : (Nat → Int32)) (a1 : Int32) (N : Nat) (ρ : Int32 × (Nat → Int32)) (h : fX3_write N a1 v_size v_letters  = some ρ) (sz : Nat) : Met l yX3_write (wz yX3_write cX3_write 2 none) (cRm 0 0) (cPre D (TY cI cZ cG) [.ref q, .int a1] (kwX3_write cI cZ cG q q_letters v_size v_letters) sz) (cQv D (kwX3_write cI cZ cG q q_letters v_size v_letters) (kwX3_write cI cZ cG q q_letters (ρ.1) (ρ.2)) sz) 0 0 (va_A (kwX3_write cI cZ cG q q_letters v_size v_letters) sz) :=
  mk_v (by decide) (Nat.le_of_ble_eq_true rfl) (fun X hrm ret hw hl => wX3_write X hrm ret h _ _ _ hw hl)
theorem dJ0_isLatin1_aae02_0 : decode cJ0_isLatin1_aae02 0 = .ok (.getstatic 38, 3) := by decide +kernel
theorem dJ0_isLatin1_aae02_3 : decode cJ0_isLatin1_aae02 3 = .ok (.ifCond .eq 14, 3) := by decide +kernel
theorem dJ0_isLatin1_aae02_6 : decode cJ0_isLatin1_aae02 6 = .ok (.aload_n 0, 1) := by decide +kernel
theorem dJ0_isLatin1_aae02_7 : decode cJ0_isLatin1_aae02 7 = .ok (.getfield 15, 3) := by decide +kernel
theorem dJ0_isLatin1_aae02_10 : decode cJ0_isLatin1_aae02 10 = .ok (.ifCond .ne 7, 3) := by decide +kernel
theorem dJ0_isLatin1_aae02_13 : decode cJ0_isLatin1_aae02 13 = .ok (.iconst 1, 1) := by decide +kernel
theorem dJ0_isLatin1_aae02_14 : decode cJ0_isLatin1_aae02 14 = .ok (.goto 4, 3) := by decide +kernel
theorem dJ0_isLatin1_aae02_18 : decode cJ0_isLatin1_aae02 18 = .ok (.ireturn, 1) := by decide +kernel
abbrev kwJ0_isLatin1_aae02_oK (cI cZ cG : ClassId) : va_W := []
noncomputable def fJ0_isLatin1_aae02_oK (N : Nat)   : Option (Int32) := some (1 : Int32)
set_option maxHeartbeats 4000000 in
set_option maxRecDepth 100000 in
theorem wJ0_isLatin1_aae02_oK {p : Program} {l : Launch} {e : Env} {R : Room} {s : State} {m : MethodId} {args : Array Value} {below : List Frame} {meth : Method} {c : Code} {cells slots : Nat} {Q : State → Prop} {D : va_G} {A : Nat → Prop} {cI cZ cG : ClassId} {N : Nat} {ρ : Int32} (X : CX p s m args c cJ0_isLatin1_aae02 1 RJ0 D (TY cI cZ cG) A) (hrm : RM R 0 0 cells slots) (ret : ∀ (pc : Nat) (H : Heap) (locs : List Loc) (ls : Array Slot), narrow .boolean (.int ρ) = .int ρ → decode cJ0_isLatin1_aae02 pc = .ok (.ireturn, 1) → WD D A (kwJ0_isLatin1_aae02_oK cI cZ cG) s.heap H locs → W p l e R s m args below meth c H locs cells slots Q (F0 m pc ls [.int ρ])) (h : fJ0_isLatin1_aae02_oK N   = some ρ) (H : Heap) (locs : List Loc) (ls : Array Slot) (hw : WD D A (kwJ0_isLatin1_aae02_oK cI cZ cG) s.heap H locs) (hl : lv_has ls 1 [(0, .ref (D.2 100 1))]) : W p l e R s m args below meth c H locs cells slots Q (F0 m 0 ls []) := by
  have hx := X.1.1
  have hb := X.1.2.1
  unfold fJ0_isLatin1_aae02_oK at h
  refine va_gets hx hb X.2.2.2.2.2.2.2.2.2.2 hw.2.2 X.1.2.2.2.1 (X.1.2.2.2.2 _ tw_237) (fun _ h => h) dJ0_isLatin1_aae02_0 ?_
  refine lv_if_eq (tgt := 17) hx hb dJ0_isLatin1_aae02_3 (by decide) (fun c_3 => absurd c_3 (by decide)) (fun c_3 => ?_)
  refine lv_aload_n hx hb dJ0_isLatin1_aae02_6 rfl (lv_at hl 0 rfl) ?_
  refine vk_getf hx hb X.2.2.2.2.2.2.2.1 hw.2.2 X.1.2.2.2.1 (X.1.2.2.2.2 _ tw_238) (fun _ h => h) dJ0_isLatin1_aae02_7 ?_
  refine lv_if_ne (tgt := 17) hx hb dJ0_isLatin1_aae02_10 (by decide) (fun c_10 => absurd c_10 (by decide)) (fun c_10 => ?_)
  refine lv_iconst (v := (1 : Int32)) hx hb dJ0_isLatin1_aae02_13 (by decide) ?_
  refine lv_goto (tgt := 18) hx hb dJ0_isLatin1_aae02_14 (by decide) ?_
  obtain rfl := Option.some.inj h
  exact ret _ _ _ _ (show narrow .boolean (.int (1 : Int32)) = .int (1 : Int32) from rfl) dJ0_isLatin1_aae02_18 hw
set_option maxHeartbeats 4000000 in
set_option maxRecDepth 100000 in
theorem cJ0_isLatin1_aae02_oK_ct (l : Launch) (D : va_G) (cI cZ cG : ClassId)     (N : Nat) (ρ : Int32) (h : fJ0_isLatin1_aae02_oK N   = some ρ) (sz : Nat) : Met l yJ0_isLatin1_aae02 (wz yJ0_isLatin1_aae02 cJ0_isLatin1_aae02 1 (some .boolean)) (cRm 0 0) (cPre D (TY cI cZ cG) [.ref (D.2 100 1)] (kwJ0_isLatin1_aae02_oK cI cZ cG) sz) (cQi D (ρ) (kwJ0_isLatin1_aae02_oK cI cZ cG) (kwJ0_isLatin1_aae02_oK cI cZ cG) sz) 0 0 (va_A (kwJ0_isLatin1_aae02_oK cI cZ cG) sz) :=
  mk_z (by decide) (Nat.le_of_ble_eq_true rfl) (fun X hrm ret hw hl => wJ0_isLatin1_aae02_oK X hrm ret h _ _ _ hw hl)
theorem dJ0_coder_7d493_0 : decode cJ0_coder_7d493 0 = .ok (.getstatic 38, 3) := by decide +kernel
theorem dJ0_coder_7d493_3 : decode cJ0_coder_7d493 3 = .ok (.ifCond .eq 10, 3) := by decide +kernel
theorem dJ0_coder_7d493_6 : decode cJ0_coder_7d493 6 = .ok (.aload_n 0, 1) := by decide +kernel
theorem dJ0_coder_7d493_7 : decode cJ0_coder_7d493 7 = .ok (.getfield 15, 3) := by decide +kernel
theorem dJ0_coder_7d493_10 : decode cJ0_coder_7d493 10 = .ok (.goto 4, 3) := by decide +kernel
theorem dJ0_coder_7d493_14 : decode cJ0_coder_7d493 14 = .ok (.ireturn, 1) := by decide +kernel
abbrev kwJ0_coder_7d493_oK (cI cZ cG : ClassId) : va_W := []
noncomputable def fJ0_coder_7d493_oK (N : Nat)   : Option (Int32) := some (0 : Int32)
set_option maxHeartbeats 4000000 in
set_option maxRecDepth 100000 in
theorem wJ0_coder_7d493_oK {p : Program} {l : Launch} {e : Env} {R : Room} {s : State} {m : MethodId} {args : Array Value} {below : List Frame} {meth : Method} {c : Code} {cells slots : Nat} {Q : State → Prop} {D : va_G} {A : Nat → Prop} {cI cZ cG : ClassId} {N : Nat} {ρ : Int32} (X : CX p s m args c cJ0_coder_7d493 1 RJ0 D (TY cI cZ cG) A) (hrm : RM R 0 0 cells slots) (ret : ∀ (pc : Nat) (H : Heap) (locs : List Loc) (ls : Array Slot), narrow .byte (.int ρ) = .int ρ → decode cJ0_coder_7d493 pc = .ok (.ireturn, 1) → WD D A (kwJ0_coder_7d493_oK cI cZ cG) s.heap H locs → W p l e R s m args below meth c H locs cells slots Q (F0 m pc ls [.int ρ])) (h : fJ0_coder_7d493_oK N   = some ρ) (H : Heap) (locs : List Loc) (ls : Array Slot) (hw : WD D A (kwJ0_coder_7d493_oK cI cZ cG) s.heap H locs) (hl : lv_has ls 1 [(0, .ref (D.2 100 1))]) : W p l e R s m args below meth c H locs cells slots Q (F0 m 0 ls []) := by
  have hx := X.1.1
  have hb := X.1.2.1
  unfold fJ0_coder_7d493_oK at h
  refine va_gets hx hb X.2.2.2.2.2.2.2.2.2.2 hw.2.2 X.1.2.2.2.1 (X.1.2.2.2.2 _ tw_237) (fun _ h => h) dJ0_coder_7d493_0 ?_
  refine lv_if_eq (tgt := 13) hx hb dJ0_coder_7d493_3 (by decide) (fun c_3 => absurd c_3 (by decide)) (fun c_3 => ?_)
  refine lv_aload_n hx hb dJ0_coder_7d493_6 rfl (lv_at hl 0 rfl) ?_
  refine vk_getf hx hb X.2.2.2.2.2.2.2.1 hw.2.2 X.1.2.2.2.1 (X.1.2.2.2.2 _ tw_238) (fun _ h => h) dJ0_coder_7d493_7 ?_
  refine lv_goto (tgt := 14) hx hb dJ0_coder_7d493_10 (by decide) ?_
  obtain rfl := Option.some.inj h
  exact ret _ _ _ _ (show narrow .byte (.int (0 : Int32)) = .int (0 : Int32) from rfl) dJ0_coder_7d493_14 hw
set_option maxHeartbeats 4000000 in
set_option maxRecDepth 100000 in
theorem cJ0_coder_7d493_oK_ct (l : Launch) (D : va_G) (cI cZ cG : ClassId)     (N : Nat) (ρ : Int32) (h : fJ0_coder_7d493_oK N   = some ρ) (sz : Nat) : Met l yJ0_coder_7d493 (wz yJ0_coder_7d493 cJ0_coder_7d493 1 (some .byte)) (cRm 0 0) (cPre D (TY cI cZ cG) [.ref (D.2 100 1)] (kwJ0_coder_7d493_oK cI cZ cG) sz) (cQi D (ρ) (kwJ0_coder_7d493_oK cI cZ cG) (kwJ0_coder_7d493_oK cI cZ cG) sz) 0 0 (va_A (kwJ0_coder_7d493_oK cI cZ cG) sz) :=
  mk_b (by decide) (Nat.le_of_ble_eq_true rfl) (fun X hrm ret hw hl => wJ0_coder_7d493_oK X hrm ret h _ _ _ hw hl)
theorem dJ0_length_8abf5_0 : decode cJ0_length_8abf5 0 = .ok (.aload_n 0, 1) := by decide +kernel
theorem dJ0_length_8abf5_1 : decode cJ0_length_8abf5 1 = .ok (.getfield 9, 3) := by decide +kernel
theorem dJ0_length_8abf5_4 : decode cJ0_length_8abf5 4 = .ok (.arraylength, 1) := by decide +kernel
theorem dJ0_length_8abf5_5 : decode cJ0_length_8abf5 5 = .ok (.aload_n 0, 1) := by decide +kernel
theorem dJ0_length_8abf5_6 : decode cJ0_length_8abf5 6 = .ok (.invokevirtual 335, 3) := by decide +kernel
theorem dJ0_length_8abf5_9 : decode cJ0_length_8abf5 9 = .ok (.ishr, 1) := by decide +kernel
theorem dJ0_length_8abf5_10 : decode cJ0_length_8abf5 10 = .ok (.ireturn, 1) := by decide +kernel
abbrev kwJ0_length_8abf5_oK (cI cZ cG : ClassId) : va_W := []
noncomputable def fJ0_length_8abf5_oK (N : Nat)   : Option (Int32) := (fJ0_coder_7d493_oK N).bind (fun x_6 => some ((5 : Int32) >>> (x_6 &&& 31)))
set_option maxHeartbeats 4000000 in
set_option maxRecDepth 100000 in
theorem wJ0_length_8abf5_oK {p : Program} {l : Launch} {e : Env} {R : Room} {s : State} {m : MethodId} {args : Array Value} {below : List Frame} {meth : Method} {c : Code} {cells slots : Nat} {Q : State → Prop} {D : va_G} {A : Nat → Prop} {cI cZ cG : ClassId} {N : Nat} {ρ : Int32} (X : CX p s m args c cJ0_length_8abf5 1 RJ0 D (TY cI cZ cG) A) (hrm : RM R 1 20 cells slots) (ret : ∀ (pc : Nat) (H : Heap) (locs : List Loc) (ls : Array Slot), decode cJ0_length_8abf5 pc = .ok (.ireturn, 1) → WD D A (kwJ0_length_8abf5_oK cI cZ cG) s.heap H locs → W p l e R s m args below meth c H locs cells slots Q (F0 m pc ls [.int ρ])) (h : fJ0_length_8abf5_oK N   = some ρ) (H : Heap) (locs : List Loc) (ls : Array Slot) (hw : WD D A (kwJ0_length_8abf5_oK cI cZ cG) s.heap H locs) (hl : lv_has ls 1 [(0, .ref (D.2 100 1))]) : W p l e R s m args below meth c H locs cells slots Q (F0 m 0 ls []) := by
  have hx := X.1.1
  have hb := X.1.2.1
  unfold fJ0_length_8abf5_oK at h
  refine lv_aload_n hx hb dJ0_length_8abf5_0 rfl (lv_at hl 0 rfl) ?_
  refine vk_getf hx hb X.2.2.2.2.2.2.2.2.1 hw.2.2 X.1.2.2.2.1 (X.1.2.2.2.2 _ tw_246) (fun _ h => h) dJ0_length_8abf5_1 ?_
  refine va_tlen (v := 5) hx hb X.2.2.2.2.2.2.2.2.2.1 hw.2.2 (by decide) dJ0_length_8abf5_4 ?_
  refine lv_aload_n hx hb dJ0_length_8abf5_5 rfl (lv_at hl 0 rfl) ?_
  obtain ⟨x_6, hc_6, h⟩ := obd h
  refine ksK_i (ws2 := (kwJ0_length_8abf5_oK cI cZ cG)) (nW := 0) (As := []) (rest := [.int (5 : Int32)]) X hw (cJ0_coder_7d493_oK_ct l D cI cZ cG N x_6 hc_6 H.size) mJ0_coder_7d493 tw_247 (hrm.call (by decide) (by decide)) [] rfl (by decide) rfl (by decide) rfl trivial rfl hl.1 rfl (Nat.le_of_ble_eq_true rfl) dJ0_length_8abf5_6 ⟨hrm.2.2.1, hrm.2.2.2⟩ (fun H locs hw => ?_)
  refine lv_ishr hx hb dJ0_length_8abf5_9 ?_
  obtain rfl := Option.some.inj h
  exact ret _ _ _ _ dJ0_length_8abf5_10 hw
set_option maxHeartbeats 4000000 in
set_option maxRecDepth 100000 in
theorem cJ0_length_8abf5_oK_ct (l : Launch) (D : va_G) (cI cZ cG : ClassId)     (N : Nat) (ρ : Int32) (h : fJ0_length_8abf5_oK N   = some ρ) (sz : Nat) : Met l yJ0_length_8abf5 (wz yJ0_length_8abf5 cJ0_length_8abf5 1 (some .int)) (cRm 1 20) (cPre D (TY cI cZ cG) [.ref (D.2 100 1)] (kwJ0_length_8abf5_oK cI cZ cG) sz) (cQi D (ρ) (kwJ0_length_8abf5_oK cI cZ cG) (kwJ0_length_8abf5_oK cI cZ cG) sz) 0 0 (va_A (kwJ0_length_8abf5_oK cI cZ cG) sz) :=
  mk_i (by decide) (Nat.le_of_ble_eq_true rfl) (fun X hrm ret hw hl => wJ0_length_8abf5_oK X hrm ret h _ _ _ hw hl)
