theorem dX1_follow_0 : decode cX1_follow 0 = .ok (.iload_n 3, 1) := by decide +kernel
theorem dX1_follow_1 : decode cX1_follow 1 = .ok (.bipush 40, 2) := by decide +kernel
theorem dX1_follow_3 : decode cX1_follow 3 = .ok (.invokestatic 48, 3) := by decide +kernel
theorem dX1_follow_6 : decode cX1_follow 6 = .ok (.istore 4, 2) := by decide +kernel
theorem dX1_follow_8 : decode cX1_follow 8 = .ok (.iconst 0, 1) := by decide +kernel
theorem dX1_follow_9 : decode cX1_follow 9 = .ok (.istore 5, 2) := by decide +kernel
theorem dX1_follow_11 : decode cX1_follow 11 = .ok (.iload 5, 2) := by decide +kernel
theorem dX1_follow_13 : decode cX1_follow 13 = .ok (.iconst 5, 1) := by decide +kernel
theorem dX1_follow_14 : decode cX1_follow 14 = .ok (.if_icmp .ge 71, 3) := by decide +kernel
theorem dX1_follow_17 : decode cX1_follow 17 = .ok (.aload_n 0, 1) := by decide +kernel
theorem dX1_follow_18 : decode cX1_follow 18 = .ok (.getfield 19, 3) := by decide +kernel
theorem dX1_follow_21 : decode cX1_follow 21 = .ok (.aload_n 2, 1) := by decide +kernel
theorem dX1_follow_22 : decode cX1_follow 22 = .ok (.invokevirtual 53, 3) := by decide +kernel
theorem dX1_follow_25 : decode cX1_follow 25 = .ok (.aload_n 0, 1) := by decide +kernel
theorem dX1_follow_26 : decode cX1_follow 26 = .ok (.getfield 19, 3) := by decide +kernel
theorem dX1_follow_29 : decode cX1_follow 29 = .ok (.getfield 57, 3) := by decide +kernel
theorem dX1_follow_32 : decode cX1_follow 32 = .ok (.iload_n 1, 1) := by decide +kernel
theorem dX1_follow_33 : decode cX1_follow 33 = .ok (.iload 5, 2) := by decide +kernel
theorem dX1_follow_35 : decode cX1_follow 35 = .ok (.iastore, 1) := by decide +kernel
theorem dX1_follow_36 : decode cX1_follow 36 = .ok (.iconst 1, 1) := by decide +kernel
theorem dX1_follow_37 : decode cX1_follow 37 = .ok (.istore 6, 2) := by decide +kernel
theorem dX1_follow_39 : decode cX1_follow 39 = .ok (.iload 6, 2) := by decide +kernel
theorem dX1_follow_41 : decode cX1_follow 41 = .ok (.iload 4, 2) := by decide +kernel
theorem dX1_follow_43 : decode cX1_follow 43 = .ok (.if_icmp .gt 36, 3) := by decide +kernel
theorem dX1_follow_46 : decode cX1_follow 46 = .ok (.aload_n 0, 1) := by decide +kernel
theorem dX1_follow_47 : decode cX1_follow 47 = .ok (.getfield 19, 3) := by decide +kernel
theorem dX1_follow_50 : decode cX1_follow 50 = .ok (.invokevirtual 61, 3) := by decide +kernel
theorem dX1_follow_53 : decode cX1_follow 53 = .ok (.pop, 1) := by decide +kernel
theorem dX1_follow_54 : decode cX1_follow 54 = .ok (.aload_n 0, 1) := by decide +kernel
theorem dX1_follow_55 : decode cX1_follow 55 = .ok (.getfield 11, 3) := by decide +kernel
theorem dX1_follow_58 : decode cX1_follow 58 = .ok (.iload 5, 2) := by decide +kernel
theorem dX1_follow_79 : decode cX1_follow 79 = .ok (.iinc 5 1, 3) := by decide +kernel
theorem dX1_follow_82 : decode cX1_follow 82 = .ok (.goto (-71), 3) := by decide +kernel
theorem dX1_follow_85 : decode cX1_follow 85 = .ok (.return_, 1) := by decide +kernel
abbrev kwX1_follow (cI cZ : ClassId) (q q_track q_town q_town_kindOf q_town_plotOf q_town_row q_town_standsOn q2 q2_kindOf q2_plotOf q2_row q2_standsOn : Nat) (v_town_houses : Int32) (v_town_front : Int32) (v_town_downFor : Int32) (w2_houses : Int32) (w2_front : Int32) (w2_downFor : Int32) (w2_kindOf : (Nat → Int32)) (v_town_kindOf : (Nat → Int32)) (w2_plotOf : (Nat → Int32)) (v_town_plotOf : (Nat → Int32)) (w2_row : (Nat → Int32)) (v_town_row : (Nat → Int32)) (w2_standsOn : (Nat → Int32)) (v_town_standsOn : (Nat → Int32)) : va_W := [(q, .inr (1, [.ref q_track, .ref q_town])), (q_town, .inr (6, [.ref q_town_kindOf, .ref q_town_plotOf, .ref q_town_row, .ref q_town_standsOn, .int v_town_houses, .int v_town_front, .int v_town_downFor])), (q2, .inr (6, [.ref q2_kindOf, .ref q2_plotOf, .ref q2_row, .ref q2_standsOn, .int w2_houses, .int w2_front, .int w2_downFor])), (q2_kindOf, .inl (cI, 6, .inl w2_kindOf)), (q_town_kindOf, .inl (cI, 6, .inl v_town_kindOf)), (q2_plotOf, .inl (cI, 6, .inl w2_plotOf)), (q_town_plotOf, .inl (cI, 6, .inl v_town_plotOf)), (q2_row, .inl (cI, 6, .inl w2_row)), (q_town_row, .inl (cI, 6, .inl v_town_row)), (q2_standsOn, .inl (cI, 12, .inl w2_standsOn)), (q_town_standsOn, .inl (cI, 12, .inl v_town_standsOn))]
noncomputable def fX1_follow_11 (N : Nat) (w2_houses : Int32) (w2_front : Int32) (w2_downFor : Int32) (w2_kindOf : (Nat → Int32)) (w2_plotOf : (Nat → Int32)) (w2_row : (Nat → Int32)) (w2_standsOn : (Nat → Int32)) (a1 : Int32) (a3 : Int32)  (K_11 : Int32 → Int32 → Int32 → Int32 → Int32 → (Nat → Int32) → (Nat → Int32) → (Nat → Int32) → (Nat → Int32) → Option (Int32 × Int32 × Int32 × (Nat → Int32) × (Nat → Int32) × (Nat → Int32) × (Nat → Int32))) (l4 : Int32) (l5 : Int32) (v_town_houses : Int32) (v_town_front : Int32) (v_town_downFor : Int32) (v_town_kindOf : (Nat → Int32)) (v_town_plotOf : (Nat → Int32)) (v_town_row : (Nat → Int32)) (v_town_standsOn : (Nat → Int32)) : Option (Int32 × Int32 × Int32 × (Nat → Int32) × (Nat → Int32) × (Nat → Int32) × (Nat → Int32)) := if (5 : Int32) ≤ l5 then (some (v_town_houses, v_town_front, v_town_downFor, v_town_kindOf, v_town_plotOf, v_town_row, v_town_standsOn)) else ((fX6_copyFrom N w2_houses w2_front w2_downFor w2_kindOf w2_plotOf w2_row w2_standsOn v_town_houses v_town_front v_town_downFor v_town_kindOf v_town_plotOf v_town_row v_town_standsOn).bind (fun x_22 => if a1 < 0 ∨ 6 ≤ (a1).toNatClampNeg then none else (if l4 < (1 : Int32) then (K_11 l4 (l5 + (1 : Int32)) x_22.1 x_22.2.1 x_22.2.2.1 (upd x_22.2.2.2.1 (a1).toNatClampNeg l5) x_22.2.2.2.2.1 x_22.2.2.2.2.2.1 x_22.2.2.2.2.2.2) else ((fX6_turn N x_22.1 (upd x_22.2.2.2.1 (a1).toNatClampNeg l5) x_22.2.1 x_22.2.2.1 x_22.2.2.2.2.2.1 x_22.2.2.2.2.1 x_22.2.2.2.2.2.2).bind (fun x_50 => none)))))
noncomputable def fX1_follow (N : Nat) (w2_houses : Int32) (w2_front : Int32) (w2_downFor : Int32) (w2_kindOf : (Nat → Int32)) (w2_plotOf : (Nat → Int32)) (w2_row : (Nat → Int32)) (w2_standsOn : (Nat → Int32)) (a1 : Int32) (a3 : Int32) (v_town_houses : Int32) (v_town_front : Int32) (v_town_downFor : Int32) (v_town_kindOf : (Nat → Int32)) (v_town_plotOf : (Nat → Int32)) (v_town_row : (Nat → Int32)) (v_town_standsOn : (Nat → Int32))  : Option (Int32 × Int32 × Int32 × (Nat → Int32) × (Nat → Int32) × (Nat → Int32) × (Nat → Int32)) := lfix (fun (K : Int32 × Int32 × Int32 × Int32 × Int32 × (Nat → Int32) × (Nat → Int32) × (Nat → Int32) × (Nat → Int32) → Option (Int32 × Int32 × Int32 × (Nat → Int32) × (Nat → Int32) × (Nat → Int32) × (Nat → Int32))) (a : Int32 × Int32 × Int32 × Int32 × Int32 × (Nat → Int32) × (Nat → Int32) × (Nat → Int32) × (Nat → Int32)) => fX1_follow_11 N w2_houses w2_front w2_downFor w2_kindOf w2_plotOf w2_row w2_standsOn a1 a3 (fun (l4 : Int32) (l5 : Int32) (v_town_houses : Int32) (v_town_front : Int32) (v_town_downFor : Int32) (v_town_kindOf : (Nat → Int32)) (v_town_plotOf : (Nat → Int32)) (v_town_row : (Nat → Int32)) (v_town_standsOn : (Nat → Int32)) => K (l4, l5, v_town_houses, v_town_front, v_town_downFor, v_town_kindOf, v_town_plotOf, v_town_row, v_town_standsOn)) a.1 a.2.1 a.2.2.1 a.2.2.2.1 a.2.2.2.2.1 a.2.2.2.2.2.1 a.2.2.2.2.2.2.1 a.2.2.2.2.2.2.2.1 a.2.2.2.2.2.2.2.2) N ((if (40 : Int32) < a3 then (40 : Int32) else a3), (0 : Int32), v_town_houses, v_town_front, v_town_downFor, v_town_kindOf, v_town_plotOf, v_town_row, v_town_standsOn)
set_option maxHeartbeats 4000000 in
set_option maxRecDepth 100000 in
theorem wX1_follow_11 {p : Program} {l : Launch} {e : Env} {R : Room} {s : State} {m : MethodId} {args : Array Value} {below : List Frame} {meth : Method} {c : Code} {cells slots : Nat} {Q : State → Prop} {D : va_G} {A : Nat → Prop} {cI cZ cG : ClassId} {q q_track q_town q_town_kindOf q_town_plotOf q_town_row q_town_standsOn q2 q2_kindOf q2_plotOf q2_row q2_standsOn : Nat} {w2_houses : Int32} {w2_front : Int32} {w2_downFor : Int32} {w2_kindOf : (Nat → Int32)} {w2_plotOf : (Nat → Int32)} {w2_row : (Nat → Int32)} {w2_standsOn : (Nat → Int32)} {a1 : Int32} {a3 : Int32} {N : Nat} {ρ : Int32 × Int32 × Int32 × (Nat → Int32) × (Nat → Int32) × (Nat → Int32) × (Nat → Int32)} (X : CX p s m args c cX1_follow 7 RX1 D (TY cI cZ cG) A) (hrm : RM R 3 67 cells slots) (ret : ∀ (pc : Nat) (H : Heap) (locs : List Loc) (ls : Array Slot), decode cX1_follow pc = .ok (.return_, 1) → WD D A (kwX1_follow cI cZ q q_track q_town q_town_kindOf q_town_plotOf q_town_row q_town_standsOn q2 q2_kindOf q2_plotOf q2_row q2_standsOn (ρ.1) (ρ.2.1) (ρ.2.2.1) w2_houses w2_front w2_downFor w2_kindOf (ρ.2.2.2.1) w2_plotOf (ρ.2.2.2.2.1) w2_row (ρ.2.2.2.2.2.1) w2_standsOn (ρ.2.2.2.2.2.2)) s.heap H locs → W p l e R s m args below meth c H locs cells slots Q (F0 m pc ls []))  : ∀ (n : Nat) (a : Int32 × Int32 × Int32 × Int32 × Int32 × (Nat → Int32) × (Nat → Int32) × (Nat → Int32) × (Nat → Int32)), lfix (fun (K : Int32 × Int32 × Int32 × Int32 × Int32 × (Nat → Int32) × (Nat → Int32) × (Nat → Int32) × (Nat → Int32) → Option (Int32 × Int32 × Int32 × (Nat → Int32) × (Nat → Int32) × (Nat → Int32) × (Nat → Int32))) (a : Int32 × Int32 × Int32 × Int32 × Int32 × (Nat → Int32) × (Nat → Int32) × (Nat → Int32) × (Nat → Int32)) => fX1_follow_11 N w2_houses w2_front w2_downFor w2_kindOf w2_plotOf w2_row w2_standsOn a1 a3 (fun (l4 : Int32) (l5 : Int32) (v_town_houses : Int32) (v_town_front : Int32) (v_town_downFor : Int32) (v_town_kindOf : (Nat → Int32)) (v_town_plotOf : (Nat → Int32)) (v_town_row : (Nat → Int32)) (v_town_standsOn : (Nat → Int32)) => K (l4, l5, v_town_houses, v_town_front, v_town_downFor, v_town_kindOf, v_town_plotOf, v_town_row, v_town_standsOn)) a.1 a.2.1 a.2.2.1 a.2.2.2.1 a.2.2.2.2.1 a.2.2.2.2.2.1 a.2.2.2.2.2.2.1 a.2.2.2.2.2.2.2.1 a.2.2.2.2.2.2.2.2) n a = some ρ → (fun (l4 : Int32) (l5 : Int32) (v_town_houses : Int32) (v_town_front : Int32) (v_town_downFor : Int32) (v_town_kindOf : (Nat → Int32)) (v_town_plotOf : (Nat → Int32)) (v_town_row : (Nat → Int32)) (v_town_standsOn : (Nat → Int32)) => ∀ (H : Heap) (locs : List Loc) (ls : Array Slot), WD D A (kwX1_follow cI cZ q q_track q_town q_town_kindOf q_town_plotOf q_town_row q_town_standsOn q2 q2_kindOf q2_plotOf q2_row q2_standsOn v_town_houses v_town_front v_town_downFor w2_houses w2_front w2_downFor w2_kindOf v_town_kindOf w2_plotOf v_town_plotOf w2_row v_town_row w2_standsOn v_town_standsOn) s.heap H locs → lv_has ls 7 [(0, .ref q), (1, .int a1), (2, .ref q2), (4, .int l4), (5, .int l5)] → W p l e R s m args below meth c H locs cells slots Q (F0 m 11 ls [])) (a.1) (a.2.1) (a.2.2.1) (a.2.2.2.1) (a.2.2.2.2.1) (a.2.2.2.2.2.1) (a.2.2.2.2.2.2.1) (a.2.2.2.2.2.2.2.1) (a.2.2.2.2.2.2.2.2) := by
  have hx := X.1.1
  have hb := X.1.2.1
  refine lfix_W (fun K hK a h => ?_)
  obtain ⟨l4, l5, v_town_houses, v_town_front, v_town_downFor, v_town_kindOf, v_town_plotOf, v_town_row, v_town_standsOn⟩ := a
  intro H locs ls hw hl
  have h : fX1_follow_11 N w2_houses w2_front w2_downFor w2_kindOf w2_plotOf w2_row w2_standsOn a1 a3 (fun (l4 : Int32) (l5 : Int32) (v_town_houses : Int32) (v_town_front : Int32) (v_town_downFor : Int32) (v_town_kindOf : (Nat → Int32)) (v_town_plotOf : (Nat → Int32)) (v_town_row : (Nat → Int32)) (v_town_standsOn : (Nat → Int32)) => K (l4, l5, v_town_houses, v_town_front, v_town_downFor, v_town_kindOf, v_town_plotOf, v_town_row, v_town_standsOn)) l4 l5 v_town_houses v_town_front v_town_downFor v_town_kindOf v_town_plotOf v_town_row v_town_standsOn = some ρ := h
  have hK_11 : ∀ (l4 : Int32) (l5 : Int32) (v_town_houses : Int32) (v_town_front : Int32) (v_town_downFor : Int32) (v_town_kindOf : (Nat → Int32)) (v_town_plotOf : (Nat → Int32)) (v_town_row : (Nat → Int32)) (v_town_standsOn : (Nat → Int32)), (fun (l4 : Int32) (l5 : Int32) (v_town_houses : Int32) (v_town_front : Int32) (v_town_downFor : Int32) (v_town_kindOf : (Nat → Int32)) (v_town_plotOf : (Nat → Int32)) (v_town_row : (Nat → Int32)) (v_town_standsOn : (Nat → Int32)) => K (l4, l5, v_town_houses, v_town_front, v_town_downFor, v_town_kindOf, v_town_plotOf, v_town_row, v_town_standsOn)) l4 l5 v_town_houses v_town_front v_town_downFor v_town_kindOf v_town_plotOf v_town_row v_town_standsOn = some ρ → ∀ (H : Heap) (locs : List Loc) (ls : Array Slot), WD D A (kwX1_follow cI cZ q q_track q_town q_town_kindOf q_town_plotOf q_town_row q_town_standsOn q2 q2_kindOf q2_plotOf q2_row q2_standsOn v_town_houses v_town_front v_town_downFor w2_houses w2_front w2_downFor w2_kindOf v_town_kindOf w2_plotOf v_town_plotOf w2_row v_town_row w2_standsOn v_town_standsOn) s.heap H locs → lv_has ls 7 [(0, .ref q), (1, .int a1), (2, .ref q2), (4, .int l4), (5, .int l5)] → W p l e R s m args below meth c H locs cells slots Q (F0 m 11 ls []) := fun l4 l5 v_town_houses v_town_front v_town_downFor v_town_kindOf v_town_plotOf v_town_row v_town_standsOn h => hK (l4, l5, v_town_houses, v_town_front, v_town_downFor, v_town_kindOf, v_town_plotOf, v_town_row, v_town_standsOn) h
  generalize (fun (l4 : Int32) (l5 : Int32) (v_town_houses : Int32) (v_town_front : Int32) (v_town_downFor : Int32) (v_town_kindOf : (Nat → Int32)) (v_town_plotOf : (Nat → Int32)) (v_town_row : (Nat → Int32)) (v_town_standsOn : (Nat → Int32)) => K (l4, l5, v_town_houses, v_town_front, v_town_downFor, v_town_kindOf, v_town_plotOf, v_town_row, v_town_standsOn)) = K_11 at h hK_11
  have hw : WD D A (kwX1_follow cI cZ q q_track q_town q_town_kindOf q_town_plotOf q_town_row q_town_standsOn q2 q2_kindOf q2_plotOf q2_row q2_standsOn v_town_houses v_town_front v_town_downFor w2_houses w2_front w2_downFor w2_kindOf v_town_kindOf w2_plotOf v_town_plotOf w2_row v_town_row w2_standsOn v_town_standsOn) s.heap H locs := hw
  have hl : lv_has ls 7 [(0, .ref q), (1, .int a1), (2, .ref q2), (4, .int l4), (5, .int l5)] := hl
  unfold fX1_follow_11 at h
  refine lv_iload hx hb dX1_follow_11 (lv_at hl 4 rfl) ?_
  refine lv_iconst (v := (5 : Int32)) hx hb dX1_follow_13 (by decide) ?_
  refine lv_icmp_ge (tgt := 85) hx hb dX1_follow_14 (by decide) (fun c_14 => ?_) (fun c_14 => ?_)
  · have h := ift c_14 h
    obtain rfl := Option.some.inj h
    exact ret _ _ _ _ dX1_follow_85 hw
  · have h := iff_ c_14 h
    refine lv_aload_n hx hb dX1_follow_17 rfl (lv_at hl 0 rfl) ?_
    refine kget (ci := 1) (v := .ref q_town) X hw iX1 0 rfl rfl 1 (by decide) tw_172 rfl dX1_follow_18 ?_
    refine lv_aload_n hx hb dX1_follow_21 rfl (lv_at hl 2 rfl) ?_
    obtain ⟨x_22, hc_22, h⟩ := obd h
    refine ksV_v (ws2 := (kwX1_follow cI cZ q q_track q_town q_town_kindOf q_town_plotOf q_town_row q_town_standsOn q2 q2_kindOf q2_plotOf q2_row q2_standsOn x_22.1 x_22.2.1 x_22.2.2.1 w2_houses w2_front w2_downFor w2_kindOf x_22.2.2.2.1 w2_plotOf x_22.2.2.2.2.1 w2_row x_22.2.2.2.2.2.1 w2_standsOn x_22.2.2.2.2.2.2)) (nW := 11) (ci := 6) (As := [.ref q2]) (rest := []) X hw rfl rfl rfl (cX6_copyFrom_ct l D cI cZ cG q_town q_town_kindOf q_town_plotOf q_town_row q_town_standsOn q2 q2_kindOf q2_plotOf q2_row q2_standsOn v_town_houses v_town_front v_town_downFor w2_houses w2_front w2_downFor w2_kindOf v_town_kindOf w2_plotOf v_town_plotOf w2_row v_town_row w2_standsOn v_town_standsOn N x_22 hc_22 H.size) mX6_copyFrom tw_173 (hrm.call (by decide) (by decide)) [1, 2, 3, 4, 5, 6, 7, 8, 9, 10] rfl (by decide) rfl (by decide) rfl ⟨rfl, trivial⟩ rfl hl.1 rfl (Nat.le_of_ble_eq_true rfl) dX1_follow_22 ⟨hrm.2.2.1, hrm.2.2.2⟩ (fun H locs hw => ?_)
    refine lv_aload_n hx hb dX1_follow_25 rfl (lv_at hl 0 rfl) ?_
    refine kget (ci := 1) (v := .ref q_town) X hw iX1 0 rfl rfl 1 (by decide) tw_172 rfl dX1_follow_26 ?_
    refine kget (ci := 6) (v := .ref q_town_kindOf) X hw iX6 1 rfl rfl 0 (by decide) tw_174 rfl dX1_follow_29 ?_
    refine lv_iload_n hx hb dX1_follow_32 rfl (lv_at hl 1 rfl) ?_
    refine lv_iload hx hb dX1_follow_33 (lv_at hl 4 rfl) ?_
    obtain ⟨g_35, h⟩ := gd h
    refine kiast X hw 4 rfl rfl g_35 dX1_follow_35 (fun H locs hw => ?_)
    have hw : WD D A (kwX1_follow cI cZ q q_track q_town q_town_kindOf q_town_plotOf q_town_row q_town_standsOn q2 q2_kindOf q2_plotOf q2_row q2_standsOn x_22.1 x_22.2.1 x_22.2.2.1 w2_houses w2_front w2_downFor w2_kindOf (upd x_22.2.2.2.1 (a1).toNatClampNeg l5) w2_plotOf x_22.2.2.2.2.1 w2_row x_22.2.2.2.2.2.1 w2_standsOn x_22.2.2.2.2.2.2) s.heap H locs := hw
    refine lv_iconst (v := (1 : Int32)) hx hb dX1_follow_36 (by decide) ?_
    refine lv_istore (lv' := [(6, .int (1 : Int32)), (0, .ref q), (1, .int a1), (2, .ref q2), (4, .int l4), (5, .int l5)]) hx hb dX1_follow_37 hl (by decide) rfl (fun ls hl => ?_)
    refine lv_iload hx hb dX1_follow_39 (lv_at hl 0 rfl) ?_
    refine lv_iload hx hb dX1_follow_41 (lv_at hl 4 rfl) ?_
    refine lv_icmp_gt (tgt := 79) hx hb dX1_follow_43 (by decide) (fun c_43 => ?_) (fun c_43 => ?_)
    · have h := ift c_43 h
      refine lv_iinc (v := (l5 + (1 : Int32))) (lv' := [(5, .int (l5 + (1 : Int32))), (6, .int (1 : Int32)), (0, .ref q), (1, .int a1), (2, .ref q2), (4, .int l4)]) hx hb dX1_follow_79 hl (k := 5) rfl (congrArg (l5 + ·) (by decide)) (by decide) rfl (fun ls hl => ?_)
      refine lv_goto (tgt := 11) hx hb dX1_follow_82 (by decide) ?_
      exact hK_11 _ _ _ _ _ _ _ _ _ h _ _ _ hw (lv_sub hl [2, 3, 4, 5, 0] rfl)
    · have h := iff_ c_43 h
      refine lv_aload_n hx hb dX1_follow_46 rfl (lv_at hl 1 rfl) ?_
      refine kget (ci := 1) (v := .ref q_town) X hw iX1 0 rfl rfl 1 (by decide) tw_172 rfl dX1_follow_47 ?_
      obtain ⟨x_50, hc_50, h⟩ := obd h
      refine ksV_i (ws2 := (kwX1_follow cI cZ q q_track q_town q_town_kindOf q_town_plotOf q_town_row q_town_standsOn q2 q2_kindOf q2_plotOf q2_row q2_standsOn x_22.1 x_50.2.1 x_50.2.2.1 w2_houses w2_front w2_downFor w2_kindOf (upd x_22.2.2.2.1 (a1).toNatClampNeg l5) w2_plotOf x_50.2.2.2.2.1 w2_row x_50.2.2.2.1 w2_standsOn x_50.2.2.2.2.2)) (nW := 11) (ci := 6) (As := []) (rest := []) X hw rfl rfl rfl (cX6_turn_ct l D cI cZ cG q_town q_town_kindOf q_town_plotOf q_town_row q_town_standsOn x_22.1 x_22.2.1 x_22.2.2.1 x_22.2.2.2.2.2.1 (upd x_22.2.2.2.1 (a1).toNatClampNeg l5) x_22.2.2.2.2.1 x_22.2.2.2.2.2.2 N x_50 hc_50 H.size) mX6_turn tw_175 (hrm.call (by decide) (by decide)) [1, 8, 4, 6, 10] rfl (by decide) rfl (by decide) rfl ⟨rfl, ⟨rfl, ⟨rfl, ⟨rfl, ⟨rfl, ⟨rfl, trivial⟩⟩⟩⟩⟩⟩ rfl hl.1 rfl (Nat.le_of_ble_eq_true rfl) dX1_follow_50 ⟨hrm.2.2.1, hrm.2.2.2⟩ (fun H locs hw => ?_)
      refine lv_pop hx hb dX1_follow_53 rfl ?_
      refine lv_aload_n hx hb dX1_follow_54 rfl (lv_at hl 1 rfl) ?_
      refine kget (ci := 1) (v := .ref q_track) X hw iX1 0 rfl rfl 0 (by decide) tw_176 rfl dX1_follow_55 ?_
      refine lv_iload hx hb dX1_follow_58 (lv_at hl 5 rfl) ?_
      exact nn h
set_option maxHeartbeats 4000000 in
set_option maxRecDepth 100000 in
theorem wX1_follow {p : Program} {l : Launch} {e : Env} {R : Room} {s : State} {m : MethodId} {args : Array Value} {below : List Frame} {meth : Method} {c : Code} {cells slots : Nat} {Q : State → Prop} {D : va_G} {A : Nat → Prop} {cI cZ cG : ClassId} {q q_track q_town q_town_kindOf q_town_plotOf q_town_row q_town_standsOn q2 q2_kindOf q2_plotOf q2_row q2_standsOn : Nat} {v_town_houses : Int32} {v_town_front : Int32} {v_town_downFor : Int32} {w2_houses : Int32} {w2_front : Int32} {w2_downFor : Int32} {w2_kindOf : (Nat → Int32)} {v_town_kindOf : (Nat → Int32)} {w2_plotOf : (Nat → Int32)} {v_town_plotOf : (Nat → Int32)} {w2_row : (Nat → Int32)} {v_town_row : (Nat → Int32)} {w2_standsOn : (Nat → Int32)} {v_town_standsOn : (Nat → Int32)} {a1 : Int32} {a3 : Int32} {N : Nat} {ρ : Int32 × Int32 × Int32 × (Nat → Int32) × (Nat → Int32) × (Nat → Int32) × (Nat → Int32)} (X : CX p s m args c cX1_follow 7 RX1 D (TY cI cZ cG) A) (hrm : RM R 3 67 cells slots) (ret : ∀ (pc : Nat) (H : Heap) (locs : List Loc) (ls : Array Slot), decode cX1_follow pc = .ok (.return_, 1) → WD D A (kwX1_follow cI cZ q q_track q_town q_town_kindOf q_town_plotOf q_town_row q_town_standsOn q2 q2_kindOf q2_plotOf q2_row q2_standsOn (ρ.1) (ρ.2.1) (ρ.2.2.1) w2_houses w2_front w2_downFor w2_kindOf (ρ.2.2.2.1) w2_plotOf (ρ.2.2.2.2.1) w2_row (ρ.2.2.2.2.2.1) w2_standsOn (ρ.2.2.2.2.2.2)) s.heap H locs → W p l e R s m args below meth c H locs cells slots Q (F0 m pc ls [])) (h : fX1_follow N w2_houses w2_front w2_downFor w2_kindOf w2_plotOf w2_row w2_standsOn a1 a3 v_town_houses v_town_front v_town_downFor v_town_kindOf v_town_plotOf v_town_row v_town_standsOn  = some ρ) (H : Heap) (locs : List Loc) (ls : Array Slot) (hw : WD D A (kwX1_follow cI cZ q q_track q_town q_town_kindOf q_town_plotOf q_town_row q_town_standsOn q2 q2_kindOf q2_plotOf q2_row q2_standsOn v_town_houses v_town_front v_town_downFor w2_houses w2_front w2_downFor w2_kindOf v_town_kindOf w2_plotOf v_town_plotOf w2_row v_town_row w2_standsOn v_town_standsOn) s.heap H locs) (hl : lv_has ls 7 [(0, .ref q), (1, .int a1), (2, .ref q2), (3, .int a3)]) : W p l e R s m args below meth c H locs cells slots Q (F0 m 0 ls []) := by
  have hx := X.1.1
  have hb := X.1.2.1
  unfold fX1_follow at h
  refine lv_iload_n hx hb dX1_follow_0 rfl (lv_at hl 3 rfl) ?_
  refine lv_bipush (v := (40 : Int32)) hx hb dX1_follow_1 (by decide) ?_
  refine kmin X hl.1 tw_177 tw_87 tw_88 tw_89 (Nat.le_trans (by decide) hrm.1) (Nat.le_trans (Nat.le_of_ble_eq_true rfl) hrm.2.1) ⟨hrm.2.2.1, hrm.2.2.2⟩ dX1_follow_3 ?_
  refine lv_istore (lv' := [(4, .int (if (40 : Int32) < a3 then (40 : Int32) else a3)), (0, .ref q), (1, .int a1), (2, .ref q2), (3, .int a3)]) hx hb dX1_follow_6 hl (by decide) rfl (fun ls hl => ?_)
  refine lv_iconst (v := (0 : Int32)) hx hb dX1_follow_8 (by decide) ?_
  refine lv_istore (lv' := [(5, .int (0 : Int32)), (4, .int (if (40 : Int32) < a3 then (40 : Int32) else a3)), (0, .ref q), (1, .int a1), (2, .ref q2), (3, .int a3)]) hx hb dX1_follow_9 hl (by decide) rfl (fun ls hl => ?_)
  exact wX1_follow_11 X hrm ret  _ _ h _ _ _ hw (lv_sub hl [2, 3, 4, 1, 0] rfl)
set_option maxHeartbeats 4000000 in
set_option maxRecDepth 100000 in
theorem cX1_follow_ct (l : Launch) (D : va_G) (cI cZ cG : ClassId) (q q_track q_town q_town_kindOf q_town_plotOf q_town_row q_town_standsOn q2 q2_kindOf q2_plotOf q2_row q2_standsOn : Nat)  (v_town_houses : Int32) (v_town_front : Int32) (v_town_downFor : Int32) (w2_houses : Int32) (w2_front : Int32) (w2_downFor : Int32) (w2_kindOf : (Nat → Int32)) (v_town_kindOf : (Nat → Int32)) (w2_plotOf : (Nat → Int32)) (v_town_plotOf : (Nat → Int32)) (w2_row : (Nat → Int32)) (v_town_row : (Nat → Int32)) (w2_standsOn : (Nat → Int32)) (v_town_standsOn : (Nat → Int32)) (a1 : Int32) (a3 : Int32) (N : Nat) (ρ : Int32 × Int32 × Int32 × (Nat → Int32) × (Nat → Int32) × (Nat → Int32) × (Nat → Int32)) (h : fX1_follow N w2_houses w2_front w2_downFor w2_kindOf w2_plotOf w2_row w2_standsOn a1 a3 v_town_houses v_town_front v_town_downFor v_town_kindOf v_town_plotOf v_town_row v_town_standsOn  = some ρ) (sz : Nat) : Met l yX1_follow (wz yX1_follow cX1_follow 7 none) (cRm 3 67) (cPre D (TY cI cZ cG) [.ref q, .int a1, .ref q2, .int a3] (kwX1_follow cI cZ q q_track q_town q_town_kindOf q_town_plotOf q_town_row q_town_standsOn q2 q2_kindOf q2_plotOf q2_row q2_standsOn v_town_houses v_town_front v_town_downFor w2_houses w2_front w2_downFor w2_kindOf v_town_kindOf w2_plotOf v_town_plotOf w2_row v_town_row w2_standsOn v_town_standsOn) sz) (cQv D (kwX1_follow cI cZ q q_track q_town q_town_kindOf q_town_plotOf q_town_row q_town_standsOn q2 q2_kindOf q2_plotOf q2_row q2_standsOn v_town_houses v_town_front v_town_downFor w2_houses w2_front w2_downFor w2_kindOf v_town_kindOf w2_plotOf v_town_plotOf w2_row v_town_row w2_standsOn v_town_standsOn) (kwX1_follow cI cZ q q_track q_town q_town_kindOf q_town_plotOf q_town_row q_town_standsOn q2 q2_kindOf q2_plotOf q2_row q2_standsOn (ρ.1) (ρ.2.1) (ρ.2.2.1) w2_houses w2_front w2_downFor w2_kindOf (ρ.2.2.2.1) w2_plotOf (ρ.2.2.2.2.1) w2_row (ρ.2.2.2.2.2.1) w2_standsOn (ρ.2.2.2.2.2.2)) sz) 0 0 (va_A (kwX1_follow cI cZ q q_track q_town q_town_kindOf q_town_plotOf q_town_row q_town_standsOn q2 q2_kindOf q2_plotOf q2_row q2_standsOn v_town_houses v_town_front v_town_downFor w2_houses w2_front w2_downFor w2_kindOf v_town_kindOf w2_plotOf v_town_plotOf w2_row v_town_row w2_standsOn v_town_standsOn) sz) :=
  mk_v (by decide) (Nat.le_of_ble_eq_true rfl) (fun X hrm ret hw hl => wX1_follow X hrm ret h _ _ _ hw hl)
theorem dX1_agrees_0 : decode cX1_agrees 0 = .ok (.iconst 0, 1) := by decide +kernel
theorem dX1_agrees_1 : decode cX1_agrees 1 = .ok (.istore 4, 2) := by decide +kernel
theorem dX1_agrees_3 : decode cX1_agrees 3 = .ok (.iload 4, 2) := by decide +kernel
theorem dX1_agrees_5 : decode cX1_agrees 5 = .ok (.aload_n 3, 1) := by decide +kernel
theorem dX1_agrees_6 : decode cX1_agrees 6 = .ok (.getfield 71, 3) := by decide +kernel
theorem dX1_agrees_9 : decode cX1_agrees 9 = .ok (.if_icmp .ge 46, 3) := by decide +kernel
theorem dX1_agrees_12 : decode cX1_agrees 12 = .ok (.aload_n 3, 1) := by decide +kernel
theorem dX1_agrees_13 : decode cX1_agrees 13 = .ok (.getfield 75, 3) := by decide +kernel
theorem dX1_agrees_16 : decode cX1_agrees 16 = .ok (.iload 4, 2) := by decide +kernel
theorem dX1_agrees_18 : decode cX1_agrees 18 = .ok (.iaload, 1) := by decide +kernel
theorem dX1_agrees_19 : decode cX1_agrees 19 = .ok (.iload_n 2, 1) := by decide +kernel
theorem dX1_agrees_20 : decode cX1_agrees 20 = .ok (.if_icmp .ne 29, 3) := by decide +kernel
theorem dX1_agrees_23 : decode cX1_agrees 23 = .ok (.aload_n 0, 1) := by decide +kernel
theorem dX1_agrees_24 : decode cX1_agrees 24 = .ok (.getfield 11, 3) := by decide +kernel
theorem dX1_agrees_27 : decode cX1_agrees 27 = .ok (.iload_n 1, 1) := by decide +kernel
theorem dX1_agrees_49 : decode cX1_agrees 49 = .ok (.iinc 4 1, 3) := by decide +kernel
theorem dX1_agrees_52 : decode cX1_agrees 52 = .ok (.goto (-49), 3) := by decide +kernel
theorem dX1_agrees_55 : decode cX1_agrees 55 = .ok (.iconst 1, 1) := by decide +kernel
theorem dX1_agrees_56 : decode cX1_agrees 56 = .ok (.ireturn, 1) := by decide +kernel
abbrev kwX1_agrees (cI cZ : ClassId) (q q_track q_town q3 q3_house q3_plot q3_night n_a3 : Nat) (w3_size : Int32) (w3_house : (Nat → Int32)) : va_W := [(q, .inr (1, [.ref q_track, .ref q_town])), (q3, .inr (2, [.ref q3_house, .ref q3_plot, .ref q3_night, .int w3_size])), (q3_house, .inl (cI, n_a3, .inl w3_house))]
noncomputable def fX1_agrees_3 (N : Nat) (n_a3 : Nat) (w3_size : Int32) (w3_house : (Nat → Int32)) (a1 : Int32) (a2 : Int32)  (K_3 : Int32 → Option (Int32)) (l4 : Int32) : Option (Int32) := if w3_size ≤ l4 then (some (1 : Int32)) else (if l4 < 0 ∨ n_a3 ≤ (l4).toNatClampNeg then none else (if (w3_house (l4).toNatClampNeg) = a2 then (none) else (K_3 (l4 + (1 : Int32)))))
noncomputable def fX1_agrees (N : Nat) (n_a3 : Nat) (w3_size : Int32) (w3_house : (Nat → Int32)) (a1 : Int32) (a2 : Int32)   : Option (Int32) := lfix (fun (K : Int32 → Option (Int32)) (a : Int32) => fX1_agrees_3 N n_a3 w3_size w3_house a1 a2 (fun (l4 : Int32) => K l4) a) N (0 : Int32)
set_option maxHeartbeats 4000000 in
set_option maxRecDepth 100000 in
theorem wX1_agrees_3 {p : Program} {l : Launch} {e : Env} {R : Room} {s : State} {m : MethodId} {args : Array Value} {below : List Frame} {meth : Method} {c : Code} {cells slots : Nat} {Q : State → Prop} {D : va_G} {A : Nat → Prop} {cI cZ cG : ClassId} {q q_track q_town q3 q3_house q3_plot q3_night : Nat} {n_a3 : Nat} {w3_size : Int32} {w3_house : (Nat → Int32)} {a1 : Int32} {a2 : Int32} {N : Nat} {ρ : Int32} (X : CX p s m args c cX1_agrees 5 RX1 D (TY cI cZ cG) A) (hrm : RM R 0 0 cells slots) (ret : ∀ (pc : Nat) (H : Heap) (locs : List Loc) (ls : Array Slot), narrow .boolean (.int ρ) = .int ρ → decode cX1_agrees pc = .ok (.ireturn, 1) → WD D A (kwX1_agrees cI cZ q q_track q_town q3 q3_house q3_plot q3_night n_a3 w3_size w3_house) s.heap H locs → W p l e R s m args below meth c H locs cells slots Q (F0 m pc ls [.int ρ]))  : ∀ (n : Nat) (a : Int32), lfix (fun (K : Int32 → Option (Int32)) (a : Int32) => fX1_agrees_3 N n_a3 w3_size w3_house a1 a2 (fun (l4 : Int32) => K l4) a) n a = some ρ → (fun (l4 : Int32) => ∀ (H : Heap) (locs : List Loc) (ls : Array Slot), WD D A (kwX1_agrees cI cZ q q_track q_town q3 q3_house q3_plot q3_night n_a3 w3_size w3_house) s.heap H locs → lv_has ls 5 [(0, .ref q), (1, .int a1), (2, .int a2), (3, .ref q3), (4, .int l4)] → W p l e R s m args below meth c H locs cells slots Q (F0 m 3 ls [])) (a) := by
  have hx := X.1.1
  have hb := X.1.2.1
  refine lfix_W (fun K hK a h => ?_)
  obtain ⟨l4, rfl⟩ : ∃ z, z = a := ⟨_, rfl⟩
  intro H locs ls hw hl
  have h : fX1_agrees_3 N n_a3 w3_size w3_house a1 a2 (fun (l4 : Int32) => K l4) l4 = some ρ := h
  have hK_3 : ∀ (l4 : Int32), (fun (l4 : Int32) => K l4) l4 = some ρ → ∀ (H : Heap) (locs : List Loc) (ls : Array Slot), WD D A (kwX1_agrees cI cZ q q_track q_town q3 q3_house q3_plot q3_night n_a3 w3_size w3_house) s.heap H locs → lv_has ls 5 [(0, .ref q), (1, .int a1), (2, .int a2), (3, .ref q3), (4, .int l4)] → W p l e R s m args below meth c H locs cells slots Q (F0 m 3 ls []) := fun l4 h => hK l4 h
  generalize (fun (l4 : Int32) => K l4) = K_3 at h hK_3
  have hw : WD D A (kwX1_agrees cI cZ q q_track q_town q3 q3_house q3_plot q3_night n_a3 w3_size w3_house) s.heap H locs := hw
  have hl : lv_has ls 5 [(0, .ref q), (1, .int a1), (2, .int a2), (3, .ref q3), (4, .int l4)] := hl
  unfold fX1_agrees_3 at h
  refine lv_iload hx hb dX1_agrees_3 (lv_at hl 4 rfl) ?_
  refine lv_aload_n hx hb dX1_agrees_5 rfl (lv_at hl 3 rfl) ?_
  refine kget (ci := 2) (v := .int w3_size) X hw iX2 1 rfl rfl 3 (by decide) tw_182 rfl dX1_agrees_6 ?_
  refine lv_icmp_ge (tgt := 55) hx hb dX1_agrees_9 (by decide) (fun c_9 => ?_) (fun c_9 => ?_)
  · have h := ift c_9 h
    refine lv_iconst (v := (1 : Int32)) hx hb dX1_agrees_55 (by decide) ?_
    obtain rfl := Option.some.inj h
    exact ret _ _ _ _ (show narrow .boolean (.int (1 : Int32)) = .int (1 : Int32) from rfl) dX1_agrees_56 hw
  · have h := iff_ c_9 h
    refine lv_aload_n hx hb dX1_agrees_12 rfl (lv_at hl 3 rfl) ?_
    refine kget (ci := 2) (v := .ref q3_house) X hw iX2 1 rfl rfl 0 (by decide) tw_183 rfl dX1_agrees_13 ?_
    refine lv_iload hx hb dX1_agrees_16 (lv_at hl 4 rfl) ?_
    obtain ⟨g_18, h⟩ := gd h
    refine kiald X hw 2 rfl rfl g_18 dX1_agrees_18 ?_
    refine lv_iload_n hx hb dX1_agrees_19 rfl (lv_at hl 2 rfl) ?_
    refine lv_icmp_ne (tgt := 49) hx hb dX1_agrees_20 (by decide) (fun c_20 => ?_) (fun c_20 => ?_)
    · have h := iff_ c_20 h
      refine lv_iinc (v := (l4 + (1 : Int32))) (lv' := [(4, .int (l4 + (1 : Int32))), (0, .ref q), (1, .int a1), (2, .int a2), (3, .ref q3)]) hx hb dX1_agrees_49 hl (k := 4) rfl (congrArg (l4 + ·) (by decide)) (by decide) rfl (fun ls hl => ?_)
      refine lv_goto (tgt := 3) hx hb dX1_agrees_52 (by decide) ?_
      exact hK_3 _ h _ _ _ hw (lv_sub hl [1, 2, 3, 4, 0] rfl)
    · have h := ift c_20 h
      refine lv_aload_n hx hb dX1_agrees_23 rfl (lv_at hl 0 rfl) ?_
      refine kget (ci := 1) (v := .ref q_track) X hw iX1 0 rfl rfl 0 (by decide) tw_176 rfl dX1_agrees_24 ?_
      refine lv_iload_n hx hb dX1_agrees_27 rfl (lv_at hl 1 rfl) ?_
      exact nn h
set_option maxHeartbeats 4000000 in
set_option maxRecDepth 100000 in
theorem wX1_agrees {p : Program} {l : Launch} {e : Env} {R : Room} {s : State} {m : MethodId} {args : Array Value} {below : List Frame} {meth : Method} {c : Code} {cells slots : Nat} {Q : State → Prop} {D : va_G} {A : Nat → Prop} {cI cZ cG : ClassId} {q q_track q_town q3 q3_house q3_plot q3_night : Nat} {n_a3 : Nat} {w3_size : Int32} {w3_house : (Nat → Int32)} {a1 : Int32} {a2 : Int32} {N : Nat} {ρ : Int32} (X : CX p s m args c cX1_agrees 5 RX1 D (TY cI cZ cG) A) (hrm : RM R 0 0 cells slots) (ret : ∀ (pc : Nat) (H : Heap) (locs : List Loc) (ls : Array Slot), narrow .boolean (.int ρ) = .int ρ → decode cX1_agrees pc = .ok (.ireturn, 1) → WD D A (kwX1_agrees cI cZ q q_track q_town q3 q3_house q3_plot q3_night n_a3 w3_size w3_house) s.heap H locs → W p l e R s m args below meth c H locs cells slots Q (F0 m pc ls [.int ρ])) (h : fX1_agrees N n_a3 w3_size w3_house a1 a2   = some ρ) (H : Heap) (locs : List Loc) (ls : Array Slot) (hw : WD D A (kwX1_agrees cI cZ q q_track q_town q3 q3_house q3_plot q3_night n_a3 w3_size w3_house) s.heap H locs) (hl : lv_has ls 5 [(0, .ref q), (1, .int a1), (2, .int a2), (3, .ref q3)]) : W p l e R s m args below meth c H locs cells slots Q (F0 m 0 ls []) := by
  have hx := X.1.1
  have hb := X.1.2.1
  unfold fX1_agrees at h
  refine lv_iconst (v := (0 : Int32)) hx hb dX1_agrees_0 (by decide) ?_
  refine lv_istore (lv' := [(4, .int (0 : Int32)), (0, .ref q), (1, .int a1), (2, .int a2), (3, .ref q3)]) hx hb dX1_agrees_1 hl (by decide) rfl (fun ls hl => ?_)
  exact wX1_agrees_3 X hrm ret  _ _ h _ _ _ hw (lv_sub hl [1, 2, 3, 4, 0] rfl)
set_option maxHeartbeats 4000000 in
set_option maxRecDepth 100000 in
theorem cX1_agrees_ct (l : Launch) (D : va_G) (cI cZ cG : ClassId) (q q_track q_town q3 q3_house q3_plot q3_night : Nat) (n_a3 : Nat) (w3_size : Int32) (w3_house : (Nat → Int32)) (a1 : Int32) (a2 : Int32) (N : Nat) (ρ : Int32) (h : fX1_agrees N n_a3 w3_size w3_house a1 a2   = some ρ) (sz : Nat) : Met l yX1_agrees (wz yX1_agrees cX1_agrees 5 (some .boolean)) (cRm 0 0) (cPre D (TY cI cZ cG) [.ref q, .int a1, .int a2, .ref q3] (kwX1_agrees cI cZ q q_track q_town q3 q3_house q3_plot q3_night n_a3 w3_size w3_house) sz) (cQi D (ρ) (kwX1_agrees cI cZ q q_track q_town q3 q3_house q3_plot q3_night n_a3 w3_size w3_house) (kwX1_agrees cI cZ q q_track q_town q3 q3_house q3_plot q3_night n_a3 w3_size w3_house) sz) 0 0 (va_A (kwX1_agrees cI cZ q q_track q_town q3 q3_house q3_plot q3_night n_a3 w3_size w3_house) sz) :=
  mk_z (by decide) (Nat.le_of_ble_eq_true rfl) (fun X hrm ret hw hl => wX1_agrees X hrm ret h _ _ _ hw hl)
theorem dX1_kindsByTracks_0 : decode cX1_kindsByTracks 0 = .ok (.iconst 0, 1) := by decide +kernel
theorem dX1_kindsByTracks_1 : decode cX1_kindsByTracks 1 = .ok (.istore_n 3, 1) := by decide +kernel
theorem dX1_kindsByTracks_2 : decode cX1_kindsByTracks 2 = .ok (.iconst 0, 1) := by decide +kernel
theorem dX1_kindsByTracks_3 : decode cX1_kindsByTracks 3 = .ok (.istore 4, 2) := by decide +kernel
theorem dX1_kindsByTracks_5 : decode cX1_kindsByTracks 5 = .ok (.iload 4, 2) := by decide +kernel
theorem dX1_kindsByTracks_7 : decode cX1_kindsByTracks 7 = .ok (.iconst 5, 1) := by decide +kernel
theorem dX1_kindsByTracks_8 : decode cX1_kindsByTracks 8 = .ok (.if_icmp .ge 27, 3) := by decide +kernel
theorem dX1_kindsByTracks_11 : decode cX1_kindsByTracks 11 = .ok (.aload_n 0, 1) := by decide +kernel
theorem dX1_kindsByTracks_12 : decode cX1_kindsByTracks 12 = .ok (.iload 4, 2) := by decide +kernel
theorem dX1_kindsByTracks_14 : decode cX1_kindsByTracks 14 = .ok (.iload_n 1, 1) := by decide +kernel
theorem dX1_kindsByTracks_15 : decode cX1_kindsByTracks 15 = .ok (.aload_n 2, 1) := by decide +kernel
theorem dX1_kindsByTracks_16 : decode cX1_kindsByTracks 16 = .ok (.invokevirtual 67, 3) := by decide +kernel
theorem dX1_kindsByTracks_19 : decode cX1_kindsByTracks 19 = .ok (.ifCond .eq 10, 3) := by decide +kernel
theorem dX1_kindsByTracks_22 : decode cX1_kindsByTracks 22 = .ok (.iload_n 3, 1) := by decide +kernel
theorem dX1_kindsByTracks_23 : decode cX1_kindsByTracks 23 = .ok (.iconst 1, 1) := by decide +kernel
theorem dX1_kindsByTracks_24 : decode cX1_kindsByTracks 24 = .ok (.iload 4, 2) := by decide +kernel
theorem dX1_kindsByTracks_26 : decode cX1_kindsByTracks 26 = .ok (.ishl, 1) := by decide +kernel
theorem dX1_kindsByTracks_27 : decode cX1_kindsByTracks 27 = .ok (.ior, 1) := by decide +kernel
theorem dX1_kindsByTracks_28 : decode cX1_kindsByTracks 28 = .ok (.istore_n 3, 1) := by decide +kernel
theorem dX1_kindsByTracks_29 : decode cX1_kindsByTracks 29 = .ok (.iinc 4 1, 3) := by decide +kernel
theorem dX1_kindsByTracks_32 : decode cX1_kindsByTracks 32 = .ok (.goto (-27), 3) := by decide +kernel
theorem dX1_kindsByTracks_35 : decode cX1_kindsByTracks 35 = .ok (.iload_n 3, 1) := by decide +kernel
theorem dX1_kindsByTracks_36 : decode cX1_kindsByTracks 36 = .ok (.ireturn, 1) := by decide +kernel
abbrev kwX1_kindsByTracks (cI cZ : ClassId) (q q_track q_town q2 q2_house q2_plot q2_night n_a2 : Nat) (w2_size : Int32) (w2_house : (Nat → Int32)) : va_W := [(q, .inr (1, [.ref q_track, .ref q_town])), (q2, .inr (2, [.ref q2_house, .ref q2_plot, .ref q2_night, .int w2_size])), (q2_house, .inl (cI, n_a2, .inl w2_house))]
noncomputable def fX1_kindsByTracks_5 (N : Nat) (n_a2 : Nat) (w2_size : Int32) (w2_house : (Nat → Int32)) (a1 : Int32)  (K_5 : Int32 → Int32 → Option (Int32)) (l3 : Int32) (l4 : Int32) : Option (Int32) := if (5 : Int32) ≤ l4 then (some l3) else ((fX1_agrees N n_a2 w2_size w2_house l4 a1).bind (fun x_16 => if x_16 = 0 then (K_5 l3 (l4 + (1 : Int32))) else (K_5 (l3 ||| ((1 : Int32) <<< (l4 &&& 31))) (l4 + (1 : Int32)))))
noncomputable def fX1_kindsByTracks (N : Nat) (n_a2 : Nat) (w2_size : Int32) (w2_house : (Nat → Int32)) (a1 : Int32)   : Option (Int32) := lfix (fun (K : Int32 × Int32 → Option (Int32)) (a : Int32 × Int32) => fX1_kindsByTracks_5 N n_a2 w2_size w2_house a1 (fun (l3 : Int32) (l4 : Int32) => K (l3, l4)) a.1 a.2) N ((0 : Int32), (0 : Int32))
set_option maxHeartbeats 4000000 in
set_option maxRecDepth 100000 in
theorem wX1_kindsByTracks_5 {p : Program} {l : Launch} {e : Env} {R : Room} {s : State} {m : MethodId} {args : Array Value} {below : List Frame} {meth : Method} {c : Code} {cells slots : Nat} {Q : State → Prop} {D : va_G} {A : Nat → Prop} {cI cZ cG : ClassId} {q q_track q_town q2 q2_house q2_plot q2_night : Nat} {n_a2 : Nat} {w2_size : Int32} {w2_house : (Nat → Int32)} {a1 : Int32} {N : Nat} {ρ : Int32} (X : CX p s m args c cX1_kindsByTracks 5 RX1 D (TY cI cZ cG) A) (hrm : RM R 1 24 cells slots) (ret : ∀ (pc : Nat) (H : Heap) (locs : List Loc) (ls : Array Slot), decode cX1_kindsByTracks pc = .ok (.ireturn, 1) → WD D A (kwX1_kindsByTracks cI cZ q q_track q_town q2 q2_house q2_plot q2_night n_a2 w2_size w2_house) s.heap H locs → W p l e R s m args below meth c H locs cells slots Q (F0 m pc ls [.int ρ]))  : ∀ (n : Nat) (a : Int32 × Int32), lfix (fun (K : Int32 × Int32 → Option (Int32)) (a : Int32 × Int32) => fX1_kindsByTracks_5 N n_a2 w2_size w2_house a1 (fun (l3 : Int32) (l4 : Int32) => K (l3, l4)) a.1 a.2) n a = some ρ → (fun (l3 : Int32) (l4 : Int32) => ∀ (H : Heap) (locs : List Loc) (ls : Array Slot), WD D A (kwX1_kindsByTracks cI cZ q q_track q_town q2 q2_house q2_plot q2_night n_a2 w2_size w2_house) s.heap H locs → lv_has ls 5 [(0, .ref q), (1, .int a1), (2, .ref q2), (3, .int l3), (4, .int l4)] → W p l e R s m args below meth c H locs cells slots Q (F0 m 5 ls [])) (a.1) (a.2) := by
  have hx := X.1.1
  have hb := X.1.2.1
  refine lfix_W (fun K hK a h => ?_)
  obtain ⟨l3, l4⟩ := a
  intro H locs ls hw hl
  have h : fX1_kindsByTracks_5 N n_a2 w2_size w2_house a1 (fun (l3 : Int32) (l4 : Int32) => K (l3, l4)) l3 l4 = some ρ := h
  have hK_5 : ∀ (l3 : Int32) (l4 : Int32), (fun (l3 : Int32) (l4 : Int32) => K (l3, l4)) l3 l4 = some ρ → ∀ (H : Heap) (locs : List Loc) (ls : Array Slot), WD D A (kwX1_kindsByTracks cI cZ q q_track q_town q2 q2_house q2_plot q2_night n_a2 w2_size w2_house) s.heap H locs → lv_has ls 5 [(0, .ref q), (1, .int a1), (2, .ref q2), (3, .int l3), (4, .int l4)] → W p l e R s m args below meth c H locs cells slots Q (F0 m 5 ls []) := fun l3 l4 h => hK (l3, l4) h
  generalize (fun (l3 : Int32) (l4 : Int32) => K (l3, l4)) = K_5 at h hK_5
  have hw : WD D A (kwX1_kindsByTracks cI cZ q q_track q_town q2 q2_house q2_plot q2_night n_a2 w2_size w2_house) s.heap H locs := hw
  have hl : lv_has ls 5 [(0, .ref q), (1, .int a1), (2, .ref q2), (3, .int l3), (4, .int l4)] := hl
  unfold fX1_kindsByTracks_5 at h
  refine lv_iload hx hb dX1_kindsByTracks_5 (lv_at hl 4 rfl) ?_
  refine lv_iconst (v := (5 : Int32)) hx hb dX1_kindsByTracks_7 (by decide) ?_
  refine lv_icmp_ge (tgt := 35) hx hb dX1_kindsByTracks_8 (by decide) (fun c_8 => ?_) (fun c_8 => ?_)
  · have h := ift c_8 h
    refine lv_iload_n hx hb dX1_kindsByTracks_35 rfl (lv_at hl 3 rfl) ?_
    obtain rfl := Option.some.inj h
    exact ret _ _ _ _ dX1_kindsByTracks_36 hw
  · have h := iff_ c_8 h
    refine lv_aload_n hx hb dX1_kindsByTracks_11 rfl (lv_at hl 0 rfl) ?_
    refine lv_iload hx hb dX1_kindsByTracks_12 (lv_at hl 4 rfl) ?_
    refine lv_iload_n hx hb dX1_kindsByTracks_14 rfl (lv_at hl 1 rfl) ?_
    refine lv_aload_n hx hb dX1_kindsByTracks_15 rfl (lv_at hl 2 rfl) ?_
    obtain ⟨x_16, hc_16, h⟩ := obd h
    refine ksV_i (ws2 := (kwX1_kindsByTracks cI cZ q q_track q_town q2 q2_house q2_plot q2_night n_a2 w2_size w2_house)) (nW := 3) (ci := 1) (As := [.int l4, .int a1, .ref q2]) (rest := []) X hw rfl rfl rfl (cX1_agrees_ct l D cI cZ cG q q_track q_town q2 q2_house q2_plot q2_night n_a2 w2_size w2_house l4 a1 N x_16 hc_16 H.size) mX1_agrees tw_187 (hrm.call (by decide) (by decide)) [0, 1, 2] rfl (by decide) rfl (by decide) rfl trivial rfl hl.1 rfl (Nat.le_of_ble_eq_true rfl) dX1_kindsByTracks_16 ⟨hrm.2.2.1, hrm.2.2.2⟩ (fun H locs hw => ?_)
    refine lv_if_eq (tgt := 29) hx hb dX1_kindsByTracks_19 (by decide) (fun c_19 => ?_) (fun c_19 => ?_)
    · have h := ift c_19 h
      refine lv_iinc (v := (l4 + (1 : Int32))) (lv' := [(4, .int (l4 + (1 : Int32))), (0, .ref q), (1, .int a1), (2, .ref q2), (3, .int l3)]) hx hb dX1_kindsByTracks_29 hl (k := 4) rfl (congrArg (l4 + ·) (by decide)) (by decide) rfl (fun ls hl => ?_)
      refine lv_goto (tgt := 5) hx hb dX1_kindsByTracks_32 (by decide) ?_
      exact hK_5 _ _ h _ _ _ hw (lv_sub hl [1, 2, 3, 4, 0] rfl)
    · have h := iff_ c_19 h
      refine lv_iload_n hx hb dX1_kindsByTracks_22 rfl (lv_at hl 3 rfl) ?_
      refine lv_iconst (v := (1 : Int32)) hx hb dX1_kindsByTracks_23 (by decide) ?_
      refine lv_iload hx hb dX1_kindsByTracks_24 (lv_at hl 4 rfl) ?_
      refine lv_ishl hx hb dX1_kindsByTracks_26 ?_
      refine lv_ior hx hb dX1_kindsByTracks_27 ?_
      refine lv_istore_n (lv' := [(3, .int (l3 ||| ((1 : Int32) <<< (l4 &&& 31)))), (0, .ref q), (1, .int a1), (2, .ref q2), (4, .int l4)]) hx hb dX1_kindsByTracks_28 rfl hl (by decide) rfl (fun ls hl => ?_)
      refine lv_iinc (v := (l4 + (1 : Int32))) (lv' := [(4, .int (l4 + (1 : Int32))), (3, .int (l3 ||| ((1 : Int32) <<< (l4 &&& 31)))), (0, .ref q), (1, .int a1), (2, .ref q2)]) hx hb dX1_kindsByTracks_29 hl (k := 4) rfl (congrArg (l4 + ·) (by decide)) (by decide) rfl (fun ls hl => ?_)
      refine lv_goto (tgt := 5) hx hb dX1_kindsByTracks_32 (by decide) ?_
      exact hK_5 _ _ h _ _ _ hw (lv_sub hl [2, 3, 4, 1, 0] rfl)
set_option maxHeartbeats 4000000 in
set_option maxRecDepth 100000 in
theorem wX1_kindsByTracks {p : Program} {l : Launch} {e : Env} {R : Room} {s : State} {m : MethodId} {args : Array Value} {below : List Frame} {meth : Method} {c : Code} {cells slots : Nat} {Q : State → Prop} {D : va_G} {A : Nat → Prop} {cI cZ cG : ClassId} {q q_track q_town q2 q2_house q2_plot q2_night : Nat} {n_a2 : Nat} {w2_size : Int32} {w2_house : (Nat → Int32)} {a1 : Int32} {N : Nat} {ρ : Int32} (X : CX p s m args c cX1_kindsByTracks 5 RX1 D (TY cI cZ cG) A) (hrm : RM R 1 24 cells slots) (ret : ∀ (pc : Nat) (H : Heap) (locs : List Loc) (ls : Array Slot), decode cX1_kindsByTracks pc = .ok (.ireturn, 1) → WD D A (kwX1_kindsByTracks cI cZ q q_track q_town q2 q2_house q2_plot q2_night n_a2 w2_size w2_house) s.heap H locs → W p l e R s m args below meth c H locs cells slots Q (F0 m pc ls [.int ρ])) (h : fX1_kindsByTracks N n_a2 w2_size w2_house a1   = some ρ) (H : Heap) (locs : List Loc) (ls : Array Slot) (hw : WD D A (kwX1_kindsByTracks cI cZ q q_track q_town q2 q2_house q2_plot q2_night n_a2 w2_size w2_house) s.heap H locs) (hl : lv_has ls 5 [(0, .ref q), (1, .int a1), (2, .ref q2)]) : W p l e R s m args below meth c H locs cells slots Q (F0 m 0 ls []) := by
  have hx := X.1.1
  have hb := X.1.2.1
  unfold fX1_kindsByTracks at h
  refine lv_iconst (v := (0 : Int32)) hx hb dX1_kindsByTracks_0 (by decide) ?_
  refine lv_istore_n (lv' := [(3, .int (0 : Int32)), (0, .ref q), (1, .int a1), (2, .ref q2)]) hx hb dX1_kindsByTracks_1 rfl hl (by decide) rfl (fun ls hl => ?_)
  refine lv_iconst (v := (0 : Int32)) hx hb dX1_kindsByTracks_2 (by decide) ?_
  refine lv_istore (lv' := [(4, .int (0 : Int32)), (3, .int (0 : Int32)), (0, .ref q), (1, .int a1), (2, .ref q2)]) hx hb dX1_kindsByTracks_3 hl (by decide) rfl (fun ls hl => ?_)
  exact wX1_kindsByTracks_5 X hrm ret  _ _ h _ _ _ hw (lv_sub hl [2, 3, 4, 1, 0] rfl)
set_option maxHeartbeats 4000000 in
set_option maxRecDepth 100000 in
theorem cX1_kindsByTracks_ct (l : Launch) (D : va_G) (cI cZ cG : ClassId) (q q_track q_town q2 q2_house q2_plot q2_night : Nat) (n_a2 : Nat) (w2_size : Int32) (w2_house : (Nat → Int32)) (a1 : Int32) (N : Nat) (ρ : Int32) (h : fX1_kindsByTracks N n_a2 w2_size w2_house a1   = some ρ) (sz : Nat) : Met l yX1_kindsByTracks (wz yX1_kindsByTracks cX1_kindsByTracks 5 (some .int)) (cRm 1 24) (cPre D (TY cI cZ cG) [.ref q, .int a1, .ref q2] (kwX1_kindsByTracks cI cZ q q_track q_town q2 q2_house q2_plot q2_night n_a2 w2_size w2_house) sz) (cQi D (ρ) (kwX1_kindsByTracks cI cZ q q_track q_town q2 q2_house q2_plot q2_night n_a2 w2_size w2_house) (kwX1_kindsByTracks cI cZ q q_track q_town q2 q2_house q2_plot q2_night n_a2 w2_size w2_house) sz) 0 0 (va_A (kwX1_kindsByTracks cI cZ q q_track q_town q2 q2_house q2_plot q2_night n_a2 w2_size w2_house) sz) :=
  mk_i (by decide) (Nat.le_of_ble_eq_true rfl) (fun X hrm ret hw hl => wX1_kindsByTracks X hrm ret h _ _ _ hw hl)
theorem dX1_kindsOf_0 : decode cX1_kindsOf 0 = .ok (.aload_n 0, 1) := by decide +kernel
theorem dX1_kindsOf_1 : decode cX1_kindsOf 1 = .ok (.iload_n 1, 1) := by decide +kernel
theorem dX1_kindsOf_2 : decode cX1_kindsOf 2 = .ok (.aload_n 2, 1) := by decide +kernel
theorem dX1_kindsOf_3 : decode cX1_kindsOf 3 = .ok (.getfield 23, 3) := by decide +kernel
theorem dX1_kindsOf_6 : decode cX1_kindsOf 6 = .ok (.aload_n 2, 1) := by decide +kernel
theorem dX1_kindsOf_7 : decode cX1_kindsOf 7 = .ok (.getfield 26, 3) := by decide +kernel
theorem dX1_kindsOf_10 : decode cX1_kindsOf 10 = .ok (.invokevirtual 30, 3) := by decide +kernel
theorem dX1_kindsOf_13 : decode cX1_kindsOf 13 = .ok (.invokevirtual 36, 3) := by decide +kernel
theorem dX1_kindsOf_16 : decode cX1_kindsOf 16 = .ok (.aload_n 0, 1) := by decide +kernel
theorem dX1_kindsOf_17 : decode cX1_kindsOf 17 = .ok (.iload_n 1, 1) := by decide +kernel
theorem dX1_kindsOf_18 : decode cX1_kindsOf 18 = .ok (.aload_n 2, 1) := by decide +kernel
theorem dX1_kindsOf_19 : decode cX1_kindsOf 19 = .ok (.getfield 26, 3) := by decide +kernel
theorem dX1_kindsOf_22 : decode cX1_kindsOf 22 = .ok (.invokevirtual 40, 3) := by decide +kernel
theorem dX1_kindsOf_25 : decode cX1_kindsOf 25 = .ok (.ireturn, 1) := by decide +kernel
abbrev kwX1_kindsOf (cI cZ : ClassId) (q q_track q_town q2 q2_town q2_had q2_wishes q2_seen q2_seen_house q2_seen_plot q2_seen_night q_town_kindOf q_town_plotOf q_town_row q_town_standsOn q2_town_kindOf q2_town_plotOf q2_town_row q2_town_standsOn : Nat) (w2_nights : Int32) (w2_seen_size : Int32) (w2_seen_night : (Nat → Int32)) (v_town_houses : Int32) (v_town_front : Int32) (v_town_downFor : Int32) (w2_town_houses : Int32) (w2_town_front : Int32) (w2_town_downFor : Int32) (w2_town_kindOf : (Nat → Int32)) (v_town_kindOf : (Nat → Int32)) (w2_town_plotOf : (Nat → Int32)) (v_town_plotOf : (Nat → Int32)) (w2_town_row : (Nat → Int32)) (v_town_row : (Nat → Int32)) (w2_town_standsOn : (Nat → Int32)) (v_town_standsOn : (Nat → Int32)) (w2_seen_house : (Nat → Int32)) : va_W := [(q, .inr (1, [.ref q_track, .ref q_town])), (q2, .inr (5, [.ref q2_town, .ref q2_had, .ref q2_wishes, .ref q2_seen, .int w2_nights])), (q2_seen, .inr (2, [.ref q2_seen_house, .ref q2_seen_plot, .ref q2_seen_night, .int w2_seen_size])), (q2_seen_night, .inl (cI, 6, .inl w2_seen_night)), (q_town, .inr (6, [.ref q_town_kindOf, .ref q_town_plotOf, .ref q_town_row, .ref q_town_standsOn, .int v_town_houses, .int v_town_front, .int v_town_downFor])), (q2_town, .inr (6, [.ref q2_town_kindOf, .ref q2_town_plotOf, .ref q2_town_row, .ref q2_town_standsOn, .int w2_town_houses, .int w2_town_front, .int w2_town_downFor])), (q2_town_kindOf, .inl (cI, 6, .inl w2_town_kindOf)), (q_town_kindOf, .inl (cI, 6, .inl v_town_kindOf)), (q2_town_plotOf, .inl (cI, 6, .inl w2_town_plotOf)), (q_town_plotOf, .inl (cI, 6, .inl v_town_plotOf)), (q2_town_row, .inl (cI, 6, .inl w2_town_row)), (q_town_row, .inl (cI, 6, .inl v_town_row)), (q2_town_standsOn, .inl (cI, 12, .inl w2_town_standsOn)), (q_town_standsOn, .inl (cI, 12, .inl v_town_standsOn)), (q2_seen_house, .inl (cI, 6, .inl w2_seen_house))]
noncomputable def fX1_kindsOf (N : Nat) (w2_seen_size : Int32) (w2_seen_night : (Nat → Int32)) (w2_town_houses : Int32) (w2_town_front : Int32) (w2_town_downFor : Int32) (w2_town_kindOf : (Nat → Int32)) (w2_town_plotOf : (Nat → Int32)) (w2_town_row : (Nat → Int32)) (w2_town_standsOn : (Nat → Int32)) (w2_seen_house : (Nat → Int32)) (a1 : Int32) (v_town_houses : Int32) (v_town_front : Int32) (v_town_downFor : Int32) (v_town_kindOf : (Nat → Int32)) (v_town_plotOf : (Nat → Int32)) (v_town_row : (Nat → Int32)) (v_town_standsOn : (Nat → Int32))  : Option (Int32 × Int32 × Int32 × Int32 × (Nat → Int32) × (Nat → Int32) × (Nat → Int32) × (Nat → Int32)) := (fX2_lastNight N 6 w2_seen_size w2_seen_night).bind (fun x_10 => (fX1_follow N w2_town_houses w2_town_front w2_town_downFor w2_town_kindOf w2_town_plotOf w2_town_row w2_town_standsOn a1 x_10 v_town_houses v_town_front v_town_downFor v_town_kindOf v_town_plotOf v_town_row v_town_standsOn).bind (fun x_13 => (fX1_kindsByTracks N 6 w2_seen_size w2_seen_house a1).bind (fun x_22 => some (x_22, x_13.1, x_13.2.1, x_13.2.2.1, x_13.2.2.2.1, x_13.2.2.2.2.1, x_13.2.2.2.2.2.1, x_13.2.2.2.2.2.2))))
set_option maxHeartbeats 4000000 in
set_option maxRecDepth 100000 in
theorem wX1_kindsOf {p : Program} {l : Launch} {e : Env} {R : Room} {s : State} {m : MethodId} {args : Array Value} {below : List Frame} {meth : Method} {c : Code} {cells slots : Nat} {Q : State → Prop} {D : va_G} {A : Nat → Prop} {cI cZ cG : ClassId} {q q_track q_town q2 q2_town q2_had q2_wishes q2_seen q2_seen_house q2_seen_plot q2_seen_night q_town_kindOf q_town_plotOf q_town_row q_town_standsOn q2_town_kindOf q2_town_plotOf q2_town_row q2_town_standsOn : Nat} {w2_nights : Int32} {w2_seen_size : Int32} {w2_seen_night : (Nat → Int32)} {v_town_houses : Int32} {v_town_front : Int32} {v_town_downFor : Int32} {w2_town_houses : Int32} {w2_town_front : Int32} {w2_town_downFor : Int32} {w2_town_kindOf : (Nat → Int32)} {v_town_kindOf : (Nat → Int32)} {w2_town_plotOf : (Nat → Int32)} {v_town_plotOf : (Nat → Int32)} {w2_town_row : (Nat → Int32)} {v_town_row : (Nat → Int32)} {w2_town_standsOn : (Nat → Int32)} {v_town_standsOn : (Nat → Int32)} {w2_seen_house : (Nat → Int32)} {a1 : Int32} {N : Nat} {ρ : Int32 × Int32 × Int32 × Int32 × (Nat → Int32) × (Nat → Int32) × (Nat → Int32) × (Nat → Int32)} (X : CX p s m args c cX1_kindsOf 3 RX1 D (TY cI cZ cG) A) (hrm : RM R 4 93 cells slots) (ret : ∀ (pc : Nat) (H : Heap) (locs : List Loc) (ls : Array Slot), decode cX1_kindsOf pc = .ok (.ireturn, 1) → WD D A (kwX1_kindsOf cI cZ q q_track q_town q2 q2_town q2_had q2_wishes q2_seen q2_seen_house q2_seen_plot q2_seen_night q_town_kindOf q_town_plotOf q_town_row q_town_standsOn q2_town_kindOf q2_town_plotOf q2_town_row q2_town_standsOn w2_nights w2_seen_size w2_seen_night (ρ.2.1) (ρ.2.2.1) (ρ.2.2.2.1) w2_town_houses w2_town_front w2_town_downFor w2_town_kindOf (ρ.2.2.2.2.1) w2_town_plotOf (ρ.2.2.2.2.2.1) w2_town_row (ρ.2.2.2.2.2.2.1) w2_town_standsOn (ρ.2.2.2.2.2.2.2) w2_seen_house) s.heap H locs → W p l e R s m args below meth c H locs cells slots Q (F0 m pc ls [.int ρ.1])) (h : fX1_kindsOf N w2_seen_size w2_seen_night w2_town_houses w2_town_front w2_town_downFor w2_town_kindOf w2_town_plotOf w2_town_row w2_town_standsOn w2_seen_house a1 v_town_houses v_town_front v_town_downFor v_town_kindOf v_town_plotOf v_town_row v_town_standsOn  = some ρ) (H : Heap) (locs : List Loc) (ls : Array Slot) (hw : WD D A (kwX1_kindsOf cI cZ q q_track q_town q2 q2_town q2_had q2_wishes q2_seen q2_seen_house q2_seen_plot q2_seen_night q_town_kindOf q_town_plotOf q_town_row q_town_standsOn q2_town_kindOf q2_town_plotOf q2_town_row q2_town_standsOn w2_nights w2_seen_size w2_seen_night v_town_houses v_town_front v_town_downFor w2_town_houses w2_town_front w2_town_downFor w2_town_kindOf v_town_kindOf w2_town_plotOf v_town_plotOf w2_town_row v_town_row w2_town_standsOn v_town_standsOn w2_seen_house) s.heap H locs) (hl : lv_has ls 3 [(0, .ref q), (1, .int a1), (2, .ref q2)]) : W p l e R s m args below meth c H locs cells slots Q (F0 m 0 ls []) := by
  have hx := X.1.1
  have hb := X.1.2.1
  unfold fX1_kindsOf at h
  refine lv_aload_n hx hb dX1_kindsOf_0 rfl (lv_at hl 0 rfl) ?_
  refine lv_iload_n hx hb dX1_kindsOf_1 rfl (lv_at hl 1 rfl) ?_
  refine lv_aload_n hx hb dX1_kindsOf_2 rfl (lv_at hl 2 rfl) ?_
  refine kget (ci := 5) (v := .ref q2_town) X hw iX5 1 rfl rfl 0 (by decide) tw_191 rfl dX1_kindsOf_3 ?_
  refine lv_aload_n hx hb dX1_kindsOf_6 rfl (lv_at hl 2 rfl) ?_
  refine kget (ci := 5) (v := .ref q2_seen) X hw iX5 1 rfl rfl 3 (by decide) tw_192 rfl dX1_kindsOf_7 ?_
  obtain ⟨x_10, hc_10, h⟩ := obd h
  refine ksV_i (ws2 := (kwX1_kindsOf cI cZ q q_track q_town q2 q2_town q2_had q2_wishes q2_seen q2_seen_house q2_seen_plot q2_seen_night q_town_kindOf q_town_plotOf q_town_row q_town_standsOn q2_town_kindOf q2_town_plotOf q2_town_row q2_town_standsOn w2_nights w2_seen_size w2_seen_night v_town_houses v_town_front v_town_downFor w2_town_houses w2_town_front w2_town_downFor w2_town_kindOf v_town_kindOf w2_town_plotOf v_town_plotOf w2_town_row v_town_row w2_town_standsOn v_town_standsOn w2_seen_house)) (nW := 15) (ci := 2) (As := []) (rest := [.ref q2_town, .int a1, .ref q]) X hw rfl rfl rfl (cX2_lastNight_ct l D cI cZ cG q2_seen q2_seen_house q2_seen_plot q2_seen_night 6 w2_seen_size w2_seen_night N x_10 hc_10 H.size) mX2_lastNight tw_193 (hrm.call (by decide) (by decide)) [2, 3] rfl (by decide) rfl (by decide) rfl ⟨rfl, ⟨rfl, ⟨rfl, ⟨rfl, ⟨rfl, ⟨rfl, ⟨rfl, ⟨rfl, ⟨rfl, ⟨rfl, ⟨rfl, ⟨rfl, ⟨rfl, trivial⟩⟩⟩⟩⟩⟩⟩⟩⟩⟩⟩⟩⟩ rfl hl.1 rfl (Nat.le_of_ble_eq_true rfl) dX1_kindsOf_10 ⟨hrm.2.2.1, hrm.2.2.2⟩ (fun H locs hw => ?_)
  obtain ⟨x_13, hc_13, h⟩ := obd h
  refine ksV_v (ws2 := (kwX1_kindsOf cI cZ q q_track q_town q2 q2_town q2_had q2_wishes q2_seen q2_seen_house q2_seen_plot q2_seen_night q_town_kindOf q_town_plotOf q_town_row q_town_standsOn q2_town_kindOf q2_town_plotOf q2_town_row q2_town_standsOn w2_nights w2_seen_size w2_seen_night x_13.1 x_13.2.1 x_13.2.2.1 w2_town_houses w2_town_front w2_town_downFor w2_town_kindOf x_13.2.2.2.1 w2_town_plotOf x_13.2.2.2.2.1 w2_town_row x_13.2.2.2.2.2.1 w2_town_standsOn x_13.2.2.2.2.2.2 w2_seen_house)) (nW := 15) (ci := 1) (As := [.int a1, .ref q2_town, .int x_10]) (rest := []) X hw rfl rfl rfl (cX1_follow_ct l D cI cZ cG q q_track q_town q_town_kindOf q_town_plotOf q_town_row q_town_standsOn q2_town q2_town_kindOf q2_town_plotOf q2_town_row q2_town_standsOn v_town_houses v_town_front v_town_downFor w2_town_houses w2_town_front w2_town_downFor w2_town_kindOf v_town_kindOf w2_town_plotOf v_town_plotOf w2_town_row v_town_row w2_town_standsOn v_town_standsOn a1 x_10 N x_13 hc_13 H.size) mX1_follow tw_194 (hrm.call (by decide) (by decide)) [0, 4, 5, 6, 7, 8, 9, 10, 11, 12, 13] rfl (by decide) rfl (by decide) rfl ⟨rfl, ⟨rfl, ⟨rfl, ⟨rfl, trivial⟩⟩⟩⟩ rfl hl.1 rfl (Nat.le_of_ble_eq_true rfl) dX1_kindsOf_13 ⟨hrm.2.2.1, hrm.2.2.2⟩ (fun H locs hw => ?_)
  refine lv_aload_n hx hb dX1_kindsOf_16 rfl (lv_at hl 0 rfl) ?_
  refine lv_iload_n hx hb dX1_kindsOf_17 rfl (lv_at hl 1 rfl) ?_
  refine lv_aload_n hx hb dX1_kindsOf_18 rfl (lv_at hl 2 rfl) ?_
  refine kget (ci := 5) (v := .ref q2_seen) X hw iX5 1 rfl rfl 3 (by decide) tw_192 rfl dX1_kindsOf_19 ?_
  obtain ⟨x_22, hc_22, h⟩ := obd h
  refine ksV_i (ws2 := (kwX1_kindsOf cI cZ q q_track q_town q2 q2_town q2_had q2_wishes q2_seen q2_seen_house q2_seen_plot q2_seen_night q_town_kindOf q_town_plotOf q_town_row q_town_standsOn q2_town_kindOf q2_town_plotOf q2_town_row q2_town_standsOn w2_nights w2_seen_size w2_seen_night x_13.1 x_13.2.1 x_13.2.2.1 w2_town_houses w2_town_front w2_town_downFor w2_town_kindOf x_13.2.2.2.1 w2_town_plotOf x_13.2.2.2.2.1 w2_town_row x_13.2.2.2.2.2.1 w2_town_standsOn x_13.2.2.2.2.2.2 w2_seen_house)) (nW := 15) (ci := 1) (As := [.int a1, .ref q2_seen]) (rest := []) X hw rfl rfl rfl (cX1_kindsByTracks_ct l D cI cZ cG q q_track q_town q2_seen q2_seen_house q2_seen_plot q2_seen_night 6 w2_seen_size w2_seen_house a1 N x_22 hc_22 H.size) mX1_kindsByTracks tw_195 (hrm.call (by decide) (by decide)) [0, 2, 14] rfl (by decide) rfl (by decide) rfl ⟨rfl, ⟨rfl, ⟨rfl, ⟨rfl, ⟨rfl, ⟨rfl, ⟨rfl, ⟨rfl, ⟨rfl, ⟨rfl, ⟨rfl, ⟨rfl, trivial⟩⟩⟩⟩⟩⟩⟩⟩⟩⟩⟩⟩ rfl hl.1 rfl (Nat.le_of_ble_eq_true rfl) dX1_kindsOf_22 ⟨hrm.2.2.1, hrm.2.2.2⟩ (fun H locs hw => ?_)
  obtain rfl := Option.some.inj h
  exact ret _ _ _ _ dX1_kindsOf_25 hw
set_option maxHeartbeats 4000000 in
set_option maxRecDepth 100000 in
theorem cX1_kindsOf_ct (l : Launch) (D : va_G) (cI cZ cG : ClassId) (q q_track q_town q2 q2_town q2_had q2_wishes q2_seen q2_seen_house q2_seen_plot q2_seen_night q_town_kindOf q_town_plotOf q_town_row q_town_standsOn q2_town_kindOf q2_town_plotOf q2_town_row q2_town_standsOn : Nat)  (w2_nights : Int32) (w2_seen_size : Int32) (w2_seen_night : (Nat → Int32)) (v_town_houses : Int32) (v_town_front : Int32) (v_town_downFor : Int32) (w2_town_houses : Int32) (w2_town_front : Int32) (w2_town_downFor : Int32) (w2_town_kindOf : (Nat → Int32)) (v_town_kindOf : (Nat → Int32)) (w2_town_plotOf : (Nat → Int32)) (v_town_plotOf : (Nat → Int32)) (w2_town_row : (Nat → Int32)) (v_town_row : (Nat → Int32)) (w2_town_standsOn : (Nat → Int32)) (v_town_standsOn : (Nat → Int32)) (w2_seen_house : (Nat → Int32)) (a1 : Int32) (N : Nat) (ρ : Int32 × Int32 × Int32 × Int32 × (Nat → Int32) × (Nat → Int32) × (Nat → Int32) × (Nat → Int32)) (h : fX1_kindsOf N w2_seen_size w2_seen_night w2_town_houses w2_town_front w2_town_downFor w2_town_kindOf w2_town_plotOf w2_town_row w2_town_standsOn w2_seen_house a1 v_town_houses v_town_front v_town_downFor v_town_kindOf v_town_plotOf v_town_row v_town_standsOn  = some ρ) (sz : Nat) : Met l yX1_kindsOf (wz yX1_kindsOf cX1_kindsOf 3 (some .int)) (cRm 4 93) (cPre D (TY cI cZ cG) [.ref q, .int a1, .ref q2] (kwX1_kindsOf cI cZ q q_track q_town q2 q2_town q2_had q2_wishes q2_seen q2_seen_house q2_seen_plot q2_seen_night q_town_kindOf q_town_plotOf q_town_row q_town_standsOn q2_town_kindOf q2_town_plotOf q2_town_row q2_town_standsOn w2_nights w2_seen_size w2_seen_night v_town_houses v_town_front v_town_downFor w2_town_houses w2_town_front w2_town_downFor w2_town_kindOf v_town_kindOf w2_town_plotOf v_town_plotOf w2_town_row v_town_row w2_town_standsOn v_town_standsOn w2_seen_house) sz) (cQi D (ρ.1) (kwX1_kindsOf cI cZ q q_track q_town q2 q2_town q2_had q2_wishes q2_seen q2_seen_house q2_seen_plot q2_seen_night q_town_kindOf q_town_plotOf q_town_row q_town_standsOn q2_town_kindOf q2_town_plotOf q2_town_row q2_town_standsOn w2_nights w2_seen_size w2_seen_night v_town_houses v_town_front v_town_downFor w2_town_houses w2_town_front w2_town_downFor w2_town_kindOf v_town_kindOf w2_town_plotOf v_town_plotOf w2_town_row v_town_row w2_town_standsOn v_town_standsOn w2_seen_house) (kwX1_kindsOf cI cZ q q_track q_town q2 q2_town q2_had q2_wishes q2_seen q2_seen_house q2_seen_plot q2_seen_night q_town_kindOf q_town_plotOf q_town_row q_town_standsOn q2_town_kindOf q2_town_plotOf q2_town_row q2_town_standsOn w2_nights w2_seen_size w2_seen_night (ρ.2.1) (ρ.2.2.1) (ρ.2.2.2.1) w2_town_houses w2_town_front w2_town_downFor w2_town_kindOf (ρ.2.2.2.2.1) w2_town_plotOf (ρ.2.2.2.2.2.1) w2_town_row (ρ.2.2.2.2.2.2.1) w2_town_standsOn (ρ.2.2.2.2.2.2.2) w2_seen_house) sz) 0 0 (va_A (kwX1_kindsOf cI cZ q q_track q_town q2 q2_town q2_had q2_wishes q2_seen q2_seen_house q2_seen_plot q2_seen_night q_town_kindOf q_town_plotOf q_town_row q_town_standsOn q2_town_kindOf q2_town_plotOf q2_town_row q2_town_standsOn w2_nights w2_seen_size w2_seen_night v_town_houses v_town_front v_town_downFor w2_town_houses w2_town_front w2_town_downFor w2_town_kindOf v_town_kindOf w2_town_plotOf v_town_plotOf w2_town_row v_town_row w2_town_standsOn v_town_standsOn w2_seen_house) sz) :=
  mk_i (by decide) (Nat.le_of_ble_eq_true rfl) (fun X hrm ret hw hl => wX1_kindsOf X hrm ret h _ _ _ hw hl)
theorem dX1_has_0 : decode cX1_has 0 = .ok (.iload_n 0, 1) := by decide +kernel
theorem dX1_has_1 : decode cX1_has 1 = .ok (.iload_n 1, 1) := by decide +kernel
theorem dX1_has_2 : decode cX1_has 2 = .ok (.ishr, 1) := by decide +kernel
theorem dX1_has_3 : decode cX1_has 3 = .ok (.iconst 1, 1) := by decide +kernel
theorem dX1_has_4 : decode cX1_has 4 = .ok (.iand, 1) := by decide +kernel
theorem dX1_has_5 : decode cX1_has 5 = .ok (.ifCond .eq 7, 3) := by decide +kernel
theorem dX1_has_8 : decode cX1_has 8 = .ok (.iconst 1, 1) := by decide +kernel
theorem dX1_has_9 : decode cX1_has 9 = .ok (.goto 4, 3) := by decide +kernel
theorem dX1_has_12 : decode cX1_has 12 = .ok (.iconst 0, 1) := by decide +kernel
theorem dX1_has_13 : decode cX1_has 13 = .ok (.ireturn, 1) := by decide +kernel
abbrev kwX1_has (cI cZ : ClassId) : va_W := []
noncomputable def fX1_has (N : Nat) (a0 : Int32) (a1 : Int32)   : Option (Int32) := if ((a0 >>> (a1 &&& 31)) &&& (1 : Int32)) = 0 then (some (0 : Int32)) else (some (1 : Int32))
set_option maxHeartbeats 4000000 in
set_option maxRecDepth 100000 in
theorem wX1_has {p : Program} {l : Launch} {e : Env} {R : Room} {s : State} {m : MethodId} {args : Array Value} {below : List Frame} {meth : Method} {c : Code} {cells slots : Nat} {Q : State → Prop} {D : va_G} {A : Nat → Prop} {cI cZ cG : ClassId} {a0 : Int32} {a1 : Int32} {N : Nat} {ρ : Int32} (X : CX p s m args c cX1_has 2 RX1 D (TY cI cZ cG) A) (hrm : RM R 0 0 cells slots) (ret : ∀ (pc : Nat) (H : Heap) (locs : List Loc) (ls : Array Slot), narrow .boolean (.int ρ) = .int ρ → decode cX1_has pc = .ok (.ireturn, 1) → WD D A (kwX1_has cI cZ) s.heap H locs → W p l e R s m args below meth c H locs cells slots Q (F0 m pc ls [.int ρ])) (h : fX1_has N a0 a1   = some ρ) (H : Heap) (locs : List Loc) (ls : Array Slot) (hw : WD D A (kwX1_has cI cZ) s.heap H locs) (hl : lv_has ls 2 [(0, .int a0), (1, .int a1)]) : W p l e R s m args below meth c H locs cells slots Q (F0 m 0 ls []) := by
  have hx := X.1.1
  have hb := X.1.2.1
  unfold fX1_has at h
  refine lv_iload_n hx hb dX1_has_0 rfl (lv_at hl 0 rfl) ?_
  refine lv_iload_n hx hb dX1_has_1 rfl (lv_at hl 1 rfl) ?_
  refine lv_ishr hx hb dX1_has_2 ?_
  refine lv_iconst (v := (1 : Int32)) hx hb dX1_has_3 (by decide) ?_
  refine lv_iand hx hb dX1_has_4 ?_
  refine lv_if_eq (tgt := 12) hx hb dX1_has_5 (by decide) (fun c_5 => ?_) (fun c_5 => ?_)
  · have h := ift c_5 h
    refine lv_iconst (v := (0 : Int32)) hx hb dX1_has_12 (by decide) ?_
    obtain rfl := Option.some.inj h
    exact ret _ _ _ _ (show narrow .boolean (.int (0 : Int32)) = .int (0 : Int32) from rfl) dX1_has_13 hw
  · have h := iff_ c_5 h
    refine lv_iconst (v := (1 : Int32)) hx hb dX1_has_8 (by decide) ?_
    refine lv_goto (tgt := 13) hx hb dX1_has_9 (by decide) ?_
    obtain rfl := Option.some.inj h
    exact ret _ _ _ _ (show narrow .boolean (.int (1 : Int32)) = .int (1 : Int32) from rfl) dX1_has_13 hw
set_option maxHeartbeats 4000000 in
set_option maxRecDepth 100000 in
theorem cX1_has_ct (l : Launch) (D : va_G) (cI cZ cG : ClassId)    (a0 : Int32) (a1 : Int32) (N : Nat) (ρ : Int32) (h : fX1_has N a0 a1   = some ρ) (sz : Nat) : Met l yX1_has (wz yX1_has cX1_has 2 (some .boolean)) (cRm 0 0) (cPre D (TY cI cZ cG) [.int a0, .int a1] (kwX1_has cI cZ) sz) (cQi D (ρ) (kwX1_has cI cZ) (kwX1_has cI cZ) sz) 0 0 (va_A (kwX1_has cI cZ) sz) :=
  mk_z (by decide) (Nat.le_of_ble_eq_true rfl) (fun X hrm ret hw hl => wX1_has X hrm ret h _ _ _ hw hl)
theorem dX1_seenAlike_0 : decode cX1_seenAlike 0 = .ok (.iconst 0, 1) := by decide +kernel
theorem dX1_seenAlike_1 : decode cX1_seenAlike 1 = .ok (.istore 4, 2) := by decide +kernel
theorem dX1_seenAlike_3 : decode cX1_seenAlike 3 = .ok (.iconst 0, 1) := by decide +kernel
theorem dX1_seenAlike_4 : decode cX1_seenAlike 4 = .ok (.istore 5, 2) := by decide +kernel
theorem dX1_seenAlike_6 : decode cX1_seenAlike 6 = .ok (.iload 5, 2) := by decide +kernel
theorem dX1_seenAlike_8 : decode cX1_seenAlike 8 = .ok (.iconst 5, 1) := by decide +kernel
theorem dX1_seenAlike_9 : decode cX1_seenAlike 9 = .ok (.if_icmp .ge 41, 3) := by decide +kernel
theorem dX1_seenAlike_12 : decode cX1_seenAlike 12 = .ok (.iload_n 1, 1) := by decide +kernel
theorem dX1_seenAlike_13 : decode cX1_seenAlike 13 = .ok (.iload 5, 2) := by decide +kernel
theorem dX1_seenAlike_15 : decode cX1_seenAlike 15 = .ok (.invokestatic 84, 3) := by decide +kernel
theorem dX1_seenAlike_18 : decode cX1_seenAlike 18 = .ok (.ifCond .eq 26, 3) := by decide +kernel
theorem dX1_seenAlike_21 : decode cX1_seenAlike 21 = .ok (.aload_n 0, 1) := by decide +kernel
theorem dX1_seenAlike_22 : decode cX1_seenAlike 22 = .ok (.getfield 11, 3) := by decide +kernel
theorem dX1_seenAlike_25 : decode cX1_seenAlike 25 = .ok (.iload 5, 2) := by decide +kernel
theorem dX1_seenAlike_44 : decode cX1_seenAlike 44 = .ok (.iinc 5 1, 3) := by decide +kernel
theorem dX1_seenAlike_47 : decode cX1_seenAlike 47 = .ok (.goto (-41), 3) := by decide +kernel
theorem dX1_seenAlike_50 : decode cX1_seenAlike 50 = .ok (.iload 4, 2) := by decide +kernel
theorem dX1_seenAlike_52 : decode cX1_seenAlike 52 = .ok (.ireturn, 1) := by decide +kernel
abbrev kwX1_seenAlike (cI cZ : ClassId) (q q_track q_town : Nat) : va_W := [(q, .inr (1, [.ref q_track, .ref q_town]))]
noncomputable def fX1_seenAlike_6 (N : Nat) (a1 : Int32) (a2 : Int32) (a3 : Int32)  (K_6 : Int32 → Int32 → Option (Int32)) (l4 : Int32) (l5 : Int32) : Option (Int32) := if (5 : Int32) ≤ l5 then (some l4) else ((fX1_has N a1 l5).bind (fun x_15 => if x_15 = 0 then (K_6 l4 (l5 + (1 : Int32))) else (none)))
noncomputable def fX1_seenAlike (N : Nat) (a1 : Int32) (a2 : Int32) (a3 : Int32)   : Option (Int32) := lfix (fun (K : Int32 × Int32 → Option (Int32)) (a : Int32 × Int32) => fX1_seenAlike_6 N a1 a2 a3 (fun (l4 : Int32) (l5 : Int32) => K (l4, l5)) a.1 a.2) N ((0 : Int32), (0 : Int32))
set_option maxHeartbeats 4000000 in
set_option maxRecDepth 100000 in
theorem wX1_seenAlike_6 {p : Program} {l : Launch} {e : Env} {R : Room} {s : State} {m : MethodId} {args : Array Value} {below : List Frame} {meth : Method} {c : Code} {cells slots : Nat} {Q : State → Prop} {D : va_G} {A : Nat → Prop} {cI cZ cG : ClassId} {q q_track q_town : Nat} {a1 : Int32} {a2 : Int32} {a3 : Int32} {N : Nat} {ρ : Int32} (X : CX p s m args c cX1_seenAlike 6 RX1 D (TY cI cZ cG) A) (hrm : RM R 1 21 cells slots) (ret : ∀ (pc : Nat) (H : Heap) (locs : List Loc) (ls : Array Slot), decode cX1_seenAlike pc = .ok (.ireturn, 1) → WD D A (kwX1_seenAlike cI cZ q q_track q_town) s.heap H locs → W p l e R s m args below meth c H locs cells slots Q (F0 m pc ls [.int ρ]))  : ∀ (n : Nat) (a : Int32 × Int32), lfix (fun (K : Int32 × Int32 → Option (Int32)) (a : Int32 × Int32) => fX1_seenAlike_6 N a1 a2 a3 (fun (l4 : Int32) (l5 : Int32) => K (l4, l5)) a.1 a.2) n a = some ρ → (fun (l4 : Int32) (l5 : Int32) => ∀ (H : Heap) (locs : List Loc) (ls : Array Slot), WD D A (kwX1_seenAlike cI cZ q q_track q_town) s.heap H locs → lv_has ls 6 [(0, .ref q), (1, .int a1), (4, .int l4), (5, .int l5)] → W p l e R s m args below meth c H locs cells slots Q (F0 m 6 ls [])) (a.1) (a.2) := by
  have hx := X.1.1
  have hb := X.1.2.1
  refine lfix_W (fun K hK a h => ?_)
  obtain ⟨l4, l5⟩ := a
  intro H locs ls hw hl
  have h : fX1_seenAlike_6 N a1 a2 a3 (fun (l4 : Int32) (l5 : Int32) => K (l4, l5)) l4 l5 = some ρ := h
  have hK_6 : ∀ (l4 : Int32) (l5 : Int32), (fun (l4 : Int32) (l5 : Int32) => K (l4, l5)) l4 l5 = some ρ → ∀ (H : Heap) (locs : List Loc) (ls : Array Slot), WD D A (kwX1_seenAlike cI cZ q q_track q_town) s.heap H locs → lv_has ls 6 [(0, .ref q), (1, .int a1), (4, .int l4), (5, .int l5)] → W p l e R s m args below meth c H locs cells slots Q (F0 m 6 ls []) := fun l4 l5 h => hK (l4, l5) h
  generalize (fun (l4 : Int32) (l5 : Int32) => K (l4, l5)) = K_6 at h hK_6
  have hw : WD D A (kwX1_seenAlike cI cZ q q_track q_town) s.heap H locs := hw
  have hl : lv_has ls 6 [(0, .ref q), (1, .int a1), (4, .int l4), (5, .int l5)] := hl
  unfold fX1_seenAlike_6 at h
  refine lv_iload hx hb dX1_seenAlike_6 (lv_at hl 3 rfl) ?_
  refine lv_iconst (v := (5 : Int32)) hx hb dX1_seenAlike_8 (by decide) ?_
  refine lv_icmp_ge (tgt := 50) hx hb dX1_seenAlike_9 (by decide) (fun c_9 => ?_) (fun c_9 => ?_)
  · have h := ift c_9 h
    refine lv_iload hx hb dX1_seenAlike_50 (lv_at hl 2 rfl) ?_
    obtain rfl := Option.some.inj h
    exact ret _ _ _ _ dX1_seenAlike_52 hw
  · have h := iff_ c_9 h
    refine lv_iload_n hx hb dX1_seenAlike_12 rfl (lv_at hl 1 rfl) ?_
    refine lv_iload hx hb dX1_seenAlike_13 (lv_at hl 3 rfl) ?_
    obtain ⟨x_15, hc_15, h⟩ := obd h
    refine ksS_i (ws2 := (kwX1_seenAlike cI cZ q q_track q_town)) (nW := 1) (As := [.int a1, .int l5]) (rest := []) X hw (cX1_has_ct l D cI cZ cG a1 l5 N x_15 hc_15 H.size) mX1_has tw_201 (hrm.call (by decide) (by decide)) [] rfl (by decide) rfl (by decide) rfl ⟨rfl, trivial⟩ rfl hl.1 rfl (Nat.le_of_ble_eq_true rfl) dX1_seenAlike_15 ⟨hrm.2.2.1, hrm.2.2.2⟩ (fun H locs hw => ?_)
    refine lv_if_eq (tgt := 44) hx hb dX1_seenAlike_18 (by decide) (fun c_18 => ?_) (fun c_18 => ?_)
    · have h := ift c_18 h
      refine lv_iinc (v := (l5 + (1 : Int32))) (lv' := [(5, .int (l5 + (1 : Int32))), (0, .ref q), (1, .int a1), (4, .int l4)]) hx hb dX1_seenAlike_44 hl (k := 3) rfl (congrArg (l5 + ·) (by decide)) (by decide) rfl (fun ls hl => ?_)
      refine lv_goto (tgt := 6) hx hb dX1_seenAlike_47 (by decide) ?_
      exact hK_6 _ _ h _ _ _ hw (lv_sub hl [1, 2, 3, 0] rfl)
    · have h := iff_ c_18 h
      refine lv_aload_n hx hb dX1_seenAlike_21 rfl (lv_at hl 0 rfl) ?_
      refine kget (ci := 1) (v := .ref q_track) X hw iX1 0 rfl rfl 0 (by decide) tw_176 rfl dX1_seenAlike_22 ?_
      refine lv_iload hx hb dX1_seenAlike_25 (lv_at hl 3 rfl) ?_
      exact nn h
set_option maxHeartbeats 4000000 in
set_option maxRecDepth 100000 in
theorem wX1_seenAlike {p : Program} {l : Launch} {e : Env} {R : Room} {s : State} {m : MethodId} {args : Array Value} {below : List Frame} {meth : Method} {c : Code} {cells slots : Nat} {Q : State → Prop} {D : va_G} {A : Nat → Prop} {cI cZ cG : ClassId} {q q_track q_town : Nat} {a1 : Int32} {a2 : Int32} {a3 : Int32} {N : Nat} {ρ : Int32} (X : CX p s m args c cX1_seenAlike 6 RX1 D (TY cI cZ cG) A) (hrm : RM R 1 21 cells slots) (ret : ∀ (pc : Nat) (H : Heap) (locs : List Loc) (ls : Array Slot), decode cX1_seenAlike pc = .ok (.ireturn, 1) → WD D A (kwX1_seenAlike cI cZ q q_track q_town) s.heap H locs → W p l e R s m args below meth c H locs cells slots Q (F0 m pc ls [.int ρ])) (h : fX1_seenAlike N a1 a2 a3   = some ρ) (H : Heap) (locs : List Loc) (ls : Array Slot) (hw : WD D A (kwX1_seenAlike cI cZ q q_track q_town) s.heap H locs) (hl : lv_has ls 6 [(0, .ref q), (1, .int a1), (2, .int a2), (3, .int a3)]) : W p l e R s m args below meth c H locs cells slots Q (F0 m 0 ls []) := by
  have hx := X.1.1
  have hb := X.1.2.1
  unfold fX1_seenAlike at h
  refine lv_iconst (v := (0 : Int32)) hx hb dX1_seenAlike_0 (by decide) ?_
  refine lv_istore (lv' := [(4, .int (0 : Int32)), (0, .ref q), (1, .int a1), (2, .int a2), (3, .int a3)]) hx hb dX1_seenAlike_1 hl (by decide) rfl (fun ls hl => ?_)
  refine lv_iconst (v := (0 : Int32)) hx hb dX1_seenAlike_3 (by decide) ?_
  refine lv_istore (lv' := [(5, .int (0 : Int32)), (4, .int (0 : Int32)), (0, .ref q), (1, .int a1), (2, .int a2), (3, .int a3)]) hx hb dX1_seenAlike_4 hl (by decide) rfl (fun ls hl => ?_)
  exact wX1_seenAlike_6 X hrm ret  _ _ h _ _ _ hw (lv_sub hl [2, 3, 1, 0] rfl)
set_option maxHeartbeats 4000000 in
set_option maxRecDepth 100000 in
theorem cX1_seenAlike_ct (l : Launch) (D : va_G) (cI cZ cG : ClassId) (q q_track q_town : Nat)   (a1 : Int32) (a2 : Int32) (a3 : Int32) (N : Nat) (ρ : Int32) (h : fX1_seenAlike N a1 a2 a3   = some ρ) (sz : Nat) : Met l yX1_seenAlike (wz yX1_seenAlike cX1_seenAlike 6 (some .int)) (cRm 1 21) (cPre D (TY cI cZ cG) [.ref q, .int a1, .int a2, .int a3] (kwX1_seenAlike cI cZ q q_track q_town) sz) (cQi D (ρ) (kwX1_seenAlike cI cZ q q_track q_town) (kwX1_seenAlike cI cZ q q_track q_town) sz) 0 0 (va_A (kwX1_seenAlike cI cZ q q_track q_town) sz) :=
  mk_i (by decide) (Nat.le_of_ble_eq_true rfl) (fun X hrm ret hw hl => wX1_seenAlike X hrm ret h _ _ _ hw hl)
theorem dX1_leftAtWorst_0 : decode cX1_leftAtWorst 0 = .ok (.iconst 0, 1) := by decide +kernel
theorem dX1_leftAtWorst_1 : decode cX1_leftAtWorst 1 = .ok (.istore_n 3, 1) := by decide +kernel
theorem dX1_leftAtWorst_2 : decode cX1_leftAtWorst 2 = .ok (.iconst 0, 1) := by decide +kernel
theorem dX1_leftAtWorst_3 : decode cX1_leftAtWorst 3 = .ok (.istore 4, 2) := by decide +kernel
theorem dX1_leftAtWorst_5 : decode cX1_leftAtWorst 5 = .ok (.iload 4, 2) := by decide +kernel
theorem dX1_leftAtWorst_7 : decode cX1_leftAtWorst 7 = .ok (.iconst 5, 1) := by decide +kernel
theorem dX1_leftAtWorst_8 : decode cX1_leftAtWorst 8 = .ok (.if_icmp .ge 31, 3) := by decide +kernel
theorem dX1_leftAtWorst_11 : decode cX1_leftAtWorst 11 = .ok (.iload_n 1, 1) := by decide +kernel
theorem dX1_leftAtWorst_12 : decode cX1_leftAtWorst 12 = .ok (.iload 4, 2) := by decide +kernel
theorem dX1_leftAtWorst_14 : decode cX1_leftAtWorst 14 = .ok (.invokestatic 84, 3) := by decide +kernel
theorem dX1_leftAtWorst_17 : decode cX1_leftAtWorst 17 = .ok (.ifCond .eq 16, 3) := by decide +kernel
theorem dX1_leftAtWorst_20 : decode cX1_leftAtWorst 20 = .ok (.iload_n 3, 1) := by decide +kernel
theorem dX1_leftAtWorst_21 : decode cX1_leftAtWorst 21 = .ok (.aload_n 0, 1) := by decide +kernel
theorem dX1_leftAtWorst_22 : decode cX1_leftAtWorst 22 = .ok (.iload_n 1, 1) := by decide +kernel
theorem dX1_leftAtWorst_23 : decode cX1_leftAtWorst 23 = .ok (.iload 4, 2) := by decide +kernel
theorem dX1_leftAtWorst_25 : decode cX1_leftAtWorst 25 = .ok (.iload_n 2, 1) := by decide +kernel
theorem dX1_leftAtWorst_26 : decode cX1_leftAtWorst 26 = .ok (.invokevirtual 88, 3) := by decide +kernel
theorem dX1_leftAtWorst_29 : decode cX1_leftAtWorst 29 = .ok (.invokestatic 92, 3) := by decide +kernel
theorem dX1_leftAtWorst_32 : decode cX1_leftAtWorst 32 = .ok (.istore_n 3, 1) := by decide +kernel
theorem dX1_leftAtWorst_33 : decode cX1_leftAtWorst 33 = .ok (.iinc 4 1, 3) := by decide +kernel
theorem dX1_leftAtWorst_36 : decode cX1_leftAtWorst 36 = .ok (.goto (-31), 3) := by decide +kernel
theorem dX1_leftAtWorst_39 : decode cX1_leftAtWorst 39 = .ok (.iload_n 3, 1) := by decide +kernel
theorem dX1_leftAtWorst_40 : decode cX1_leftAtWorst 40 = .ok (.ireturn, 1) := by decide +kernel
abbrev kwX1_leftAtWorst (cI cZ : ClassId) (q q_track q_town : Nat) : va_W := [(q, .inr (1, [.ref q_track, .ref q_town]))]
noncomputable def fX1_leftAtWorst_5 (N : Nat) (a1 : Int32) (a2 : Int32)  (K_5 : Int32 → Int32 → Option (Int32)) (l3 : Int32) (l4 : Int32) : Option (Int32) := if (5 : Int32) ≤ l4 then (some l3) else ((fX1_has N a1 l4).bind (fun x_14 => if x_14 = 0 then (K_5 l3 (l4 + (1 : Int32))) else ((fX1_seenAlike N a1 l4 a2).bind (fun x_26 => K_5 (if l3 < x_26 then x_26 else l3) (l4 + (1 : Int32))))))
noncomputable def fX1_leftAtWorst (N : Nat) (a1 : Int32) (a2 : Int32)   : Option (Int32) := lfix (fun (K : Int32 × Int32 → Option (Int32)) (a : Int32 × Int32) => fX1_leftAtWorst_5 N a1 a2 (fun (l3 : Int32) (l4 : Int32) => K (l3, l4)) a.1 a.2) N ((0 : Int32), (0 : Int32))
set_option maxHeartbeats 4000000 in
set_option maxRecDepth 100000 in
theorem wX1_leftAtWorst_5 {p : Program} {l : Launch} {e : Env} {R : Room} {s : State} {m : MethodId} {args : Array Value} {below : List Frame} {meth : Method} {c : Code} {cells slots : Nat} {Q : State → Prop} {D : va_G} {A : Nat → Prop} {cI cZ cG : ClassId} {q q_track q_town : Nat} {a1 : Int32} {a2 : Int32} {N : Nat} {ρ : Int32} (X : CX p s m args c cX1_leftAtWorst 5 RX1 D (TY cI cZ cG) A) (hrm : RM R 2 46 cells slots) (ret : ∀ (pc : Nat) (H : Heap) (locs : List Loc) (ls : Array Slot), decode cX1_leftAtWorst pc = .ok (.ireturn, 1) → WD D A (kwX1_leftAtWorst cI cZ q q_track q_town) s.heap H locs → W p l e R s m args below meth c H locs cells slots Q (F0 m pc ls [.int ρ]))  : ∀ (n : Nat) (a : Int32 × Int32), lfix (fun (K : Int32 × Int32 → Option (Int32)) (a : Int32 × Int32) => fX1_leftAtWorst_5 N a1 a2 (fun (l3 : Int32) (l4 : Int32) => K (l3, l4)) a.1 a.2) n a = some ρ → (fun (l3 : Int32) (l4 : Int32) => ∀ (H : Heap) (locs : List Loc) (ls : Array Slot), WD D A (kwX1_leftAtWorst cI cZ q q_track q_town) s.heap H locs → lv_has ls 5 [(0, .ref q), (1, .int a1), (2, .int a2), (3, .int l3), (4, .int l4)] → W p l e R s m args below meth c H locs cells slots Q (F0 m 5 ls [])) (a.1) (a.2) := by
  have hx := X.1.1
  have hb := X.1.2.1
  refine lfix_W (fun K hK a h => ?_)
  obtain ⟨l3, l4⟩ := a
  intro H locs ls hw hl
  have h : fX1_leftAtWorst_5 N a1 a2 (fun (l3 : Int32) (l4 : Int32) => K (l3, l4)) l3 l4 = some ρ := h
  have hK_5 : ∀ (l3 : Int32) (l4 : Int32), (fun (l3 : Int32) (l4 : Int32) => K (l3, l4)) l3 l4 = some ρ → ∀ (H : Heap) (locs : List Loc) (ls : Array Slot), WD D A (kwX1_leftAtWorst cI cZ q q_track q_town) s.heap H locs → lv_has ls 5 [(0, .ref q), (1, .int a1), (2, .int a2), (3, .int l3), (4, .int l4)] → W p l e R s m args below meth c H locs cells slots Q (F0 m 5 ls []) := fun l3 l4 h => hK (l3, l4) h
  generalize (fun (l3 : Int32) (l4 : Int32) => K (l3, l4)) = K_5 at h hK_5
  have hw : WD D A (kwX1_leftAtWorst cI cZ q q_track q_town) s.heap H locs := hw
  have hl : lv_has ls 5 [(0, .ref q), (1, .int a1), (2, .int a2), (3, .int l3), (4, .int l4)] := hl
  unfold fX1_leftAtWorst_5 at h
  refine lv_iload hx hb dX1_leftAtWorst_5 (lv_at hl 4 rfl) ?_
  refine lv_iconst (v := (5 : Int32)) hx hb dX1_leftAtWorst_7 (by decide) ?_
  refine lv_icmp_ge (tgt := 39) hx hb dX1_leftAtWorst_8 (by decide) (fun c_8 => ?_) (fun c_8 => ?_)
  · have h := ift c_8 h
    refine lv_iload_n hx hb dX1_leftAtWorst_39 rfl (lv_at hl 3 rfl) ?_
    obtain rfl := Option.some.inj h
    exact ret _ _ _ _ dX1_leftAtWorst_40 hw
  · have h := iff_ c_8 h
    refine lv_iload_n hx hb dX1_leftAtWorst_11 rfl (lv_at hl 1 rfl) ?_
    refine lv_iload hx hb dX1_leftAtWorst_12 (lv_at hl 4 rfl) ?_
    obtain ⟨x_14, hc_14, h⟩ := obd h
    refine ksS_i (ws2 := (kwX1_leftAtWorst cI cZ q q_track q_town)) (nW := 1) (As := [.int a1, .int l4]) (rest := []) X hw (cX1_has_ct l D cI cZ cG a1 l4 N x_14 hc_14 H.size) mX1_has tw_201 (hrm.call (by decide) (by decide)) [] rfl (by decide) rfl (by decide) rfl ⟨rfl, trivial⟩ rfl hl.1 rfl (Nat.le_of_ble_eq_true rfl) dX1_leftAtWorst_14 ⟨hrm.2.2.1, hrm.2.2.2⟩ (fun H locs hw => ?_)
    refine lv_if_eq (tgt := 33) hx hb dX1_leftAtWorst_17 (by decide) (fun c_17 => ?_) (fun c_17 => ?_)
    · have h := ift c_17 h
      refine lv_iinc (v := (l4 + (1 : Int32))) (lv' := [(4, .int (l4 + (1 : Int32))), (0, .ref q), (1, .int a1), (2, .int a2), (3, .int l3)]) hx hb dX1_leftAtWorst_33 hl (k := 4) rfl (congrArg (l4 + ·) (by decide)) (by decide) rfl (fun ls hl => ?_)
      refine lv_goto (tgt := 5) hx hb dX1_leftAtWorst_36 (by decide) ?_
      exact hK_5 _ _ h _ _ _ hw (lv_sub hl [1, 2, 3, 4, 0] rfl)
    · have h := iff_ c_17 h
      refine lv_iload_n hx hb dX1_leftAtWorst_20 rfl (lv_at hl 3 rfl) ?_
      refine lv_aload_n hx hb dX1_leftAtWorst_21 rfl (lv_at hl 0 rfl) ?_
      refine lv_iload_n hx hb dX1_leftAtWorst_22 rfl (lv_at hl 1 rfl) ?_
      refine lv_iload hx hb dX1_leftAtWorst_23 (lv_at hl 4 rfl) ?_
      refine lv_iload_n hx hb dX1_leftAtWorst_25 rfl (lv_at hl 2 rfl) ?_
      obtain ⟨x_26, hc_26, h⟩ := obd h
      refine ksV_i (ws2 := (kwX1_leftAtWorst cI cZ q q_track q_town)) (nW := 1) (ci := 1) (As := [.int a1, .int l4, .int a2]) (rest := [.int l3]) X hw rfl rfl rfl (cX1_seenAlike_ct l D cI cZ cG q q_track q_town a1 l4 a2 N x_26 hc_26 H.size) mX1_seenAlike tw_205 (hrm.call (by decide) (by decide)) [0] rfl (by decide) rfl (by decide) rfl trivial rfl hl.1 rfl (Nat.le_of_ble_eq_true rfl) dX1_leftAtWorst_26 ⟨hrm.2.2.1, hrm.2.2.2⟩ (fun H locs hw => ?_)
      refine kmax X hl.1 tw_206 tw_131 tw_88 tw_132 (Nat.le_trans (by decide) hrm.1) (Nat.le_trans (Nat.le_of_ble_eq_true rfl) hrm.2.1) ⟨hrm.2.2.1, hrm.2.2.2⟩ dX1_leftAtWorst_29 ?_
      refine lv_istore_n (lv' := [(3, .int (if l3 < x_26 then x_26 else l3)), (0, .ref q), (1, .int a1), (2, .int a2), (4, .int l4)]) hx hb dX1_leftAtWorst_32 rfl hl (by decide) rfl (fun ls hl => ?_)
      refine lv_iinc (v := (l4 + (1 : Int32))) (lv' := [(4, .int (l4 + (1 : Int32))), (3, .int (if l3 < x_26 then x_26 else l3)), (0, .ref q), (1, .int a1), (2, .int a2)]) hx hb dX1_leftAtWorst_33 hl (k := 4) rfl (congrArg (l4 + ·) (by decide)) (by decide) rfl (fun ls hl => ?_)
      refine lv_goto (tgt := 5) hx hb dX1_leftAtWorst_36 (by decide) ?_
      exact hK_5 _ _ h _ _ _ hw (lv_sub hl [2, 3, 4, 1, 0] rfl)
set_option maxHeartbeats 4000000 in
set_option maxRecDepth 100000 in
theorem wX1_leftAtWorst {p : Program} {l : Launch} {e : Env} {R : Room} {s : State} {m : MethodId} {args : Array Value} {below : List Frame} {meth : Method} {c : Code} {cells slots : Nat} {Q : State → Prop} {D : va_G} {A : Nat → Prop} {cI cZ cG : ClassId} {q q_track q_town : Nat} {a1 : Int32} {a2 : Int32} {N : Nat} {ρ : Int32} (X : CX p s m args c cX1_leftAtWorst 5 RX1 D (TY cI cZ cG) A) (hrm : RM R 2 46 cells slots) (ret : ∀ (pc : Nat) (H : Heap) (locs : List Loc) (ls : Array Slot), decode cX1_leftAtWorst pc = .ok (.ireturn, 1) → WD D A (kwX1_leftAtWorst cI cZ q q_track q_town) s.heap H locs → W p l e R s m args below meth c H locs cells slots Q (F0 m pc ls [.int ρ])) (h : fX1_leftAtWorst N a1 a2   = some ρ) (H : Heap) (locs : List Loc) (ls : Array Slot) (hw : WD D A (kwX1_leftAtWorst cI cZ q q_track q_town) s.heap H locs) (hl : lv_has ls 5 [(0, .ref q), (1, .int a1), (2, .int a2)]) : W p l e R s m args below meth c H locs cells slots Q (F0 m 0 ls []) := by
  have hx := X.1.1
  have hb := X.1.2.1
  unfold fX1_leftAtWorst at h
  refine lv_iconst (v := (0 : Int32)) hx hb dX1_leftAtWorst_0 (by decide) ?_
  refine lv_istore_n (lv' := [(3, .int (0 : Int32)), (0, .ref q), (1, .int a1), (2, .int a2)]) hx hb dX1_leftAtWorst_1 rfl hl (by decide) rfl (fun ls hl => ?_)
  refine lv_iconst (v := (0 : Int32)) hx hb dX1_leftAtWorst_2 (by decide) ?_
  refine lv_istore (lv' := [(4, .int (0 : Int32)), (3, .int (0 : Int32)), (0, .ref q), (1, .int a1), (2, .int a2)]) hx hb dX1_leftAtWorst_3 hl (by decide) rfl (fun ls hl => ?_)
  exact wX1_leftAtWorst_5 X hrm ret  _ _ h _ _ _ hw (lv_sub hl [2, 3, 4, 1, 0] rfl)
set_option maxHeartbeats 4000000 in
set_option maxRecDepth 100000 in
theorem cX1_leftAtWorst_ct (l : Launch) (D : va_G) (cI cZ cG : ClassId) (q q_track q_town : Nat)   (a1 : Int32) (a2 : Int32) (N : Nat) (ρ : Int32) (h : fX1_leftAtWorst N a1 a2   = some ρ) (sz : Nat) : Met l yX1_leftAtWorst (wz yX1_leftAtWorst cX1_leftAtWorst 5 (some .int)) (cRm 2 46) (cPre D (TY cI cZ cG) [.ref q, .int a1, .int a2] (kwX1_leftAtWorst cI cZ q q_track q_town) sz) (cQi D (ρ) (kwX1_leftAtWorst cI cZ q q_track q_town) (kwX1_leftAtWorst cI cZ q q_track q_town) sz) 0 0 (va_A (kwX1_leftAtWorst cI cZ q q_track q_town) sz) :=
  mk_i (by decide) (Nat.le_of_ble_eq_true rfl) (fun X hrm ret hw hl => wX1_leftAtWorst X hrm ret h _ _ _ hw hl)
theorem dX1_nightToLook_0 : decode cX1_nightToLook 0 = .ok (.aload_n 0, 1) := by decide +kernel
theorem dX1_nightToLook_1 : decode cX1_nightToLook 1 = .ok (.iload_n 1, 1) := by decide +kernel
theorem dX1_nightToLook_2 : decode cX1_nightToLook 2 = .ok (.aload_n 2, 1) := by decide +kernel
theorem dX1_nightToLook_3 : decode cX1_nightToLook 3 = .ok (.getfield 23, 3) := by decide +kernel
theorem dX1_nightToLook_6 : decode cX1_nightToLook 6 = .ok (.bipush 40, 2) := by decide +kernel
theorem dX1_nightToLook_8 : decode cX1_nightToLook 8 = .ok (.invokevirtual 36, 3) := by decide +kernel
theorem dX1_nightToLook_11 : decode cX1_nightToLook 11 = .ok (.aload_n 0, 1) := by decide +kernel
theorem dX1_nightToLook_12 : decode cX1_nightToLook 12 = .ok (.iload_n 1, 1) := by decide +kernel
theorem dX1_nightToLook_13 : decode cX1_nightToLook 13 = .ok (.aload_n 2, 1) := by decide +kernel
theorem dX1_nightToLook_14 : decode cX1_nightToLook 14 = .ok (.getfield 26, 3) := by decide +kernel
theorem dX1_nightToLook_17 : decode cX1_nightToLook 17 = .ok (.invokevirtual 40, 3) := by decide +kernel
theorem dX1_nightToLook_20 : decode cX1_nightToLook 20 = .ok (.istore_n 3, 1) := by decide +kernel
theorem dX1_nightToLook_21 : decode cX1_nightToLook 21 = .ok (.iload_n 3, 1) := by decide +kernel
theorem dX1_nightToLook_22 : decode cX1_nightToLook 22 = .ok (.ifCond .ne 5, 3) := by decide +kernel
theorem dX1_nightToLook_25 : decode cX1_nightToLook 25 = .ok (.iconst (-1), 1) := by decide +kernel
theorem dX1_nightToLook_26 : decode cX1_nightToLook 26 = .ok (.ireturn, 1) := by decide +kernel
theorem dX1_nightToLook_27 : decode cX1_nightToLook 27 = .ok (.iconst (-1), 1) := by decide +kernel
theorem dX1_nightToLook_28 : decode cX1_nightToLook 28 = .ok (.istore 4, 2) := by decide +kernel
theorem dX1_nightToLook_30 : decode cX1_nightToLook 30 = .ok (.bipush 6, 2) := by decide +kernel
theorem dX1_nightToLook_32 : decode cX1_nightToLook 32 = .ok (.istore 5, 2) := by decide +kernel
theorem dX1_nightToLook_34 : decode cX1_nightToLook 34 = .ok (.iconst 1, 1) := by decide +kernel
theorem dX1_nightToLook_35 : decode cX1_nightToLook 35 = .ok (.istore 6, 2) := by decide +kernel
theorem dX1_nightToLook_37 : decode cX1_nightToLook 37 = .ok (.iload 6, 2) := by decide +kernel
theorem dX1_nightToLook_39 : decode cX1_nightToLook 39 = .ok (.bipush 40, 2) := by decide +kernel
theorem dX1_nightToLook_41 : decode cX1_nightToLook 41 = .ok (.if_icmp .gt 33, 3) := by decide +kernel
theorem dX1_nightToLook_44 : decode cX1_nightToLook 44 = .ok (.aload_n 0, 1) := by decide +kernel
theorem dX1_nightToLook_45 : decode cX1_nightToLook 45 = .ok (.iload_n 3, 1) := by decide +kernel
theorem dX1_nightToLook_46 : decode cX1_nightToLook 46 = .ok (.iload 6, 2) := by decide +kernel
theorem dX1_nightToLook_48 : decode cX1_nightToLook 48 = .ok (.invokevirtual 44, 3) := by decide +kernel
theorem dX1_nightToLook_51 : decode cX1_nightToLook 51 = .ok (.istore 7, 2) := by decide +kernel
theorem dX1_nightToLook_53 : decode cX1_nightToLook 53 = .ok (.iload 7, 2) := by decide +kernel
theorem dX1_nightToLook_55 : decode cX1_nightToLook 55 = .ok (.iload 5, 2) := by decide +kernel
theorem dX1_nightToLook_57 : decode cX1_nightToLook 57 = .ok (.if_icmp .ge 11, 3) := by decide +kernel
theorem dX1_nightToLook_60 : decode cX1_nightToLook 60 = .ok (.iload 7, 2) := by decide +kernel
theorem dX1_nightToLook_62 : decode cX1_nightToLook 62 = .ok (.istore 5, 2) := by decide +kernel
theorem dX1_nightToLook_64 : decode cX1_nightToLook 64 = .ok (.iload 6, 2) := by decide +kernel
theorem dX1_nightToLook_66 : decode cX1_nightToLook 66 = .ok (.istore 4, 2) := by decide +kernel
theorem dX1_nightToLook_68 : decode cX1_nightToLook 68 = .ok (.iinc 6 1, 3) := by decide +kernel
theorem dX1_nightToLook_71 : decode cX1_nightToLook 71 = .ok (.goto (-34), 3) := by decide +kernel
theorem dX1_nightToLook_74 : decode cX1_nightToLook 74 = .ok (.iload 4, 2) := by decide +kernel
theorem dX1_nightToLook_76 : decode cX1_nightToLook 76 = .ok (.ireturn, 1) := by decide +kernel
abbrev kwX1_nightToLook (cI cZ : ClassId) (q q_track q_town q2 q2_town q2_had q2_wishes q2_seen q_town_kindOf q_town_plotOf q_town_row q_town_standsOn q2_town_kindOf q2_town_plotOf q2_town_row q2_town_standsOn q2_seen_house q2_seen_plot q2_seen_night : Nat) (w2_nights : Int32) (v_town_houses : Int32) (v_town_front : Int32) (v_town_downFor : Int32) (w2_town_houses : Int32) (w2_town_front : Int32) (w2_town_downFor : Int32) (w2_town_kindOf : (Nat → Int32)) (v_town_kindOf : (Nat → Int32)) (w2_town_plotOf : (Nat → Int32)) (v_town_plotOf : (Nat → Int32)) (w2_town_row : (Nat → Int32)) (v_town_row : (Nat → Int32)) (w2_town_standsOn : (Nat → Int32)) (v_town_standsOn : (Nat → Int32)) (w2_seen_size : Int32) (w2_seen_house : (Nat → Int32)) : va_W := [(q, .inr (1, [.ref q_track, .ref q_town])), (q2, .inr (5, [.ref q2_town, .ref q2_had, .ref q2_wishes, .ref q2_seen, .int w2_nights])), (q_town, .inr (6, [.ref q_town_kindOf, .ref q_town_plotOf, .ref q_town_row, .ref q_town_standsOn, .int v_town_houses, .int v_town_front, .int v_town_downFor])), (q2_town, .inr (6, [.ref q2_town_kindOf, .ref q2_town_plotOf, .ref q2_town_row, .ref q2_town_standsOn, .int w2_town_houses, .int w2_town_front, .int w2_town_downFor])), (q2_town_kindOf, .inl (cI, 6, .inl w2_town_kindOf)), (q_town_kindOf, .inl (cI, 6, .inl v_town_kindOf)), (q2_town_plotOf, .inl (cI, 6, .inl w2_town_plotOf)), (q_town_plotOf, .inl (cI, 6, .inl v_town_plotOf)), (q2_town_row, .inl (cI, 6, .inl w2_town_row)), (q_town_row, .inl (cI, 6, .inl v_town_row)), (q2_town_standsOn, .inl (cI, 12, .inl w2_town_standsOn)), (q_town_standsOn, .inl (cI, 12, .inl v_town_standsOn)), (q2_seen, .inr (2, [.ref q2_seen_house, .ref q2_seen_plot, .ref q2_seen_night, .int w2_seen_size])), (q2_seen_house, .inl (cI, 6, .inl w2_seen_house))]
noncomputable def fX1_nightToLook_37 (N : Nat) (w2_town_houses : Int32) (w2_town_front : Int32) (w2_town_downFor : Int32) (w2_town_kindOf : (Nat → Int32)) (w2_town_plotOf : (Nat → Int32)) (w2_town_row : (Nat → Int32)) (w2_town_standsOn : (Nat → Int32)) (w2_seen_size : Int32) (w2_seen_house : (Nat → Int32)) (a1 : Int32)  (K_37 : Int32 → Int32 → Int32 → Int32 → Int32 → Int32 → Int32 → (Nat → Int32) → (Nat → Int32) → (Nat → Int32) → (Nat → Int32) → Option (Int32 × Int32 × Int32 × Int32 × (Nat → Int32) × (Nat → Int32) × (Nat → Int32) × (Nat → Int32))) (l3 : Int32) (l4 : Int32) (l5 : Int32) (l6 : Int32) (v_town_houses : Int32) (v_town_front : Int32) (v_town_downFor : Int32) (v_town_kindOf : (Nat → Int32)) (v_town_plotOf : (Nat → Int32)) (v_town_row : (Nat → Int32)) (v_town_standsOn : (Nat → Int32)) : Option (Int32 × Int32 × Int32 × Int32 × (Nat → Int32) × (Nat → Int32) × (Nat → Int32) × (Nat → Int32)) := if (40 : Int32) < l6 then (some (l4, v_town_houses, v_town_front, v_town_downFor, v_town_kindOf, v_town_plotOf, v_town_row, v_town_standsOn)) else ((fX1_leftAtWorst N l3 l6).bind (fun x_48 => if l5 ≤ x_48 then (K_37 l3 l4 l5 (l6 + (1 : Int32)) v_town_houses v_town_front v_town_downFor v_town_kindOf v_town_plotOf v_town_row v_town_standsOn) else (K_37 l3 l6 x_48 (l6 + (1 : Int32)) v_town_houses v_town_front v_town_downFor v_town_kindOf v_town_plotOf v_town_row v_town_standsOn)))
noncomputable def fX1_nightToLook (N : Nat) (w2_town_houses : Int32) (w2_town_front : Int32) (w2_town_downFor : Int32) (w2_town_kindOf : (Nat → Int32)) (w2_town_plotOf : (Nat → Int32)) (w2_town_row : (Nat → Int32)) (w2_town_standsOn : (Nat → Int32)) (w2_seen_size : Int32) (w2_seen_house : (Nat → Int32)) (a1 : Int32) (v_town_houses : Int32) (v_town_front : Int32) (v_town_downFor : Int32) (v_town_kindOf : (Nat → Int32)) (v_town_plotOf : (Nat → Int32)) (v_town_row : (Nat → Int32)) (v_town_standsOn : (Nat → Int32))  : Option (Int32 × Int32 × Int32 × Int32 × (Nat → Int32) × (Nat → Int32) × (Nat → Int32) × (Nat → Int32)) := (fX1_follow N w2_town_houses w2_town_front w2_town_downFor w2_town_kindOf w2_town_plotOf w2_town_row w2_town_standsOn a1 (40 : Int32) v_town_houses v_town_front v_town_downFor v_town_kindOf v_town_plotOf v_town_row v_town_standsOn).bind (fun x_8 => (fX1_kindsByTracks N 6 w2_seen_size w2_seen_house a1).bind (fun x_17 => if x_17 = 0 then (some ((-1 : Int32), x_8.1, x_8.2.1, x_8.2.2.1, x_8.2.2.2.1, x_8.2.2.2.2.1, x_8.2.2.2.2.2.1, x_8.2.2.2.2.2.2)) else (lfix (fun (K : Int32 × Int32 × Int32 × Int32 × Int32 × Int32 × Int32 × (Nat → Int32) × (Nat → Int32) × (Nat → Int32) × (Nat → Int32) → Option (Int32 × Int32 × Int32 × Int32 × (Nat → Int32) × (Nat → Int32) × (Nat → Int32) × (Nat → Int32))) (a : Int32 × Int32 × Int32 × Int32 × Int32 × Int32 × Int32 × (Nat → Int32) × (Nat → Int32) × (Nat → Int32) × (Nat → Int32)) => fX1_nightToLook_37 N w2_town_houses w2_town_front w2_town_downFor w2_town_kindOf w2_town_plotOf w2_town_row w2_town_standsOn w2_seen_size w2_seen_house a1 (fun (l3 : Int32) (l4 : Int32) (l5 : Int32) (l6 : Int32) (v_town_houses : Int32) (v_town_front : Int32) (v_town_downFor : Int32) (v_town_kindOf : (Nat → Int32)) (v_town_plotOf : (Nat → Int32)) (v_town_row : (Nat → Int32)) (v_town_standsOn : (Nat → Int32)) => K (l3, l4, l5, l6, v_town_houses, v_town_front, v_town_downFor, v_town_kindOf, v_town_plotOf, v_town_row, v_town_standsOn)) a.1 a.2.1 a.2.2.1 a.2.2.2.1 a.2.2.2.2.1 a.2.2.2.2.2.1 a.2.2.2.2.2.2.1 a.2.2.2.2.2.2.2.1 a.2.2.2.2.2.2.2.2.1 a.2.2.2.2.2.2.2.2.2.1 a.2.2.2.2.2.2.2.2.2.2) N (x_17, (-1 : Int32), (6 : Int32), (1 : Int32), x_8.1, x_8.2.1, x_8.2.2.1, x_8.2.2.2.1, x_8.2.2.2.2.1, x_8.2.2.2.2.2.1, x_8.2.2.2.2.2.2))))
set_option maxHeartbeats 4000000 in
set_option maxRecDepth 100000 in
theorem wX1_nightToLook_37 {p : Program} {l : Launch} {e : Env} {R : Room} {s : State} {m : MethodId} {args : Array Value} {below : List Frame} {meth : Method} {c : Code} {cells slots : Nat} {Q : State → Prop} {D : va_G} {A : Nat → Prop} {cI cZ cG : ClassId} {q q_track q_town q2 q2_town q2_had q2_wishes q2_seen q_town_kindOf q_town_plotOf q_town_row q_town_standsOn q2_town_kindOf q2_town_plotOf q2_town_row q2_town_standsOn q2_seen_house q2_seen_plot q2_seen_night : Nat} {w2_nights : Int32} {w2_town_houses : Int32} {w2_town_front : Int32} {w2_town_downFor : Int32} {w2_town_kindOf : (Nat → Int32)} {w2_town_plotOf : (Nat → Int32)} {w2_town_row : (Nat → Int32)} {w2_town_standsOn : (Nat → Int32)} {w2_seen_size : Int32} {w2_seen_house : (Nat → Int32)} {a1 : Int32} {N : Nat} {ρ : Int32 × Int32 × Int32 × Int32 × (Nat → Int32) × (Nat → Int32) × (Nat → Int32) × (Nat → Int32)} (X : CX p s m args c cX1_nightToLook 8 RX1 D (TY cI cZ cG) A) (hrm : RM R 4 93 cells slots) (ret : ∀ (pc : Nat) (H : Heap) (locs : List Loc) (ls : Array Slot), decode cX1_nightToLook pc = .ok (.ireturn, 1) → WD D A (kwX1_nightToLook cI cZ q q_track q_town q2 q2_town q2_had q2_wishes q2_seen q_town_kindOf q_town_plotOf q_town_row q_town_standsOn q2_town_kindOf q2_town_plotOf q2_town_row q2_town_standsOn q2_seen_house q2_seen_plot q2_seen_night w2_nights (ρ.2.1) (ρ.2.2.1) (ρ.2.2.2.1) w2_town_houses w2_town_front w2_town_downFor w2_town_kindOf (ρ.2.2.2.2.1) w2_town_plotOf (ρ.2.2.2.2.2.1) w2_town_row (ρ.2.2.2.2.2.2.1) w2_town_standsOn (ρ.2.2.2.2.2.2.2) w2_seen_size w2_seen_house) s.heap H locs → W p l e R s m args below meth c H locs cells slots Q (F0 m pc ls [.int ρ.1]))  : ∀ (n : Nat) (a : Int32 × Int32 × Int32 × Int32 × Int32 × Int32 × Int32 × (Nat → Int32) × (Nat → Int32) × (Nat → Int32) × (Nat → Int32)), lfix (fun (K : Int32 × Int32 × Int32 × Int32 × Int32 × Int32 × Int32 × (Nat → Int32) × (Nat → Int32) × (Nat → Int32) × (Nat → Int32) → Option (Int32 × Int32 × Int32 × Int32 × (Nat → Int32) × (Nat → Int32) × (Nat → Int32) × (Nat → Int32))) (a : Int32 × Int32 × Int32 × Int32 × Int32 × Int32 × Int32 × (Nat → Int32) × (Nat → Int32) × (Nat → Int32) × (Nat → Int32)) => fX1_nightToLook_37 N w2_town_houses w2_town_front w2_town_downFor w2_town_kindOf w2_town_plotOf w2_town_row w2_town_standsOn w2_seen_size w2_seen_house a1 (fun (l3 : Int32) (l4 : Int32) (l5 : Int32) (l6 : Int32) (v_town_houses : Int32) (v_town_front : Int32) (v_town_downFor : Int32) (v_town_kindOf : (Nat → Int32)) (v_town_plotOf : (Nat → Int32)) (v_town_row : (Nat → Int32)) (v_town_standsOn : (Nat → Int32)) => K (l3, l4, l5, l6, v_town_houses, v_town_front, v_town_downFor, v_town_kindOf, v_town_plotOf, v_town_row, v_town_standsOn)) a.1 a.2.1 a.2.2.1 a.2.2.2.1 a.2.2.2.2.1 a.2.2.2.2.2.1 a.2.2.2.2.2.2.1 a.2.2.2.2.2.2.2.1 a.2.2.2.2.2.2.2.2.1 a.2.2.2.2.2.2.2.2.2.1 a.2.2.2.2.2.2.2.2.2.2) n a = some ρ → (fun (l3 : Int32) (l4 : Int32) (l5 : Int32) (l6 : Int32) (v_town_houses : Int32) (v_town_front : Int32) (v_town_downFor : Int32) (v_town_kindOf : (Nat → Int32)) (v_town_plotOf : (Nat → Int32)) (v_town_row : (Nat → Int32)) (v_town_standsOn : (Nat → Int32)) => ∀ (H : Heap) (locs : List Loc) (ls : Array Slot), WD D A (kwX1_nightToLook cI cZ q q_track q_town q2 q2_town q2_had q2_wishes q2_seen q_town_kindOf q_town_plotOf q_town_row q_town_standsOn q2_town_kindOf q2_town_plotOf q2_town_row q2_town_standsOn q2_seen_house q2_seen_plot q2_seen_night w2_nights v_town_houses v_town_front v_town_downFor w2_town_houses w2_town_front w2_town_downFor w2_town_kindOf v_town_kindOf w2_town_plotOf v_town_plotOf w2_town_row v_town_row w2_town_standsOn v_town_standsOn w2_seen_size w2_seen_house) s.heap H locs → lv_has ls 8 [(0, .ref q), (3, .int l3), (4, .int l4), (5, .int l5), (6, .int l6)] → W p l e R s m args below meth c H locs cells slots Q (F0 m 37 ls [])) (a.1) (a.2.1) (a.2.2.1) (a.2.2.2.1) (a.2.2.2.2.1) (a.2.2.2.2.2.1) (a.2.2.2.2.2.2.1) (a.2.2.2.2.2.2.2.1) (a.2.2.2.2.2.2.2.2.1) (a.2.2.2.2.2.2.2.2.2.1) (a.2.2.2.2.2.2.2.2.2.2) := by
  have hx := X.1.1
  have hb := X.1.2.1
  refine lfix_W (fun K hK a h => ?_)
  obtain ⟨l3, l4, l5, l6, v_town_houses, v_town_front, v_town_downFor, v_town_kindOf, v_town_plotOf, v_town_row, v_town_standsOn⟩ := a
  intro H locs ls hw hl
  have h : fX1_nightToLook_37 N w2_town_houses w2_town_front w2_town_downFor w2_town_kindOf w2_town_plotOf w2_town_row w2_town_standsOn w2_seen_size w2_seen_house a1 (fun (l3 : Int32) (l4 : Int32) (l5 : Int32) (l6 : Int32) (v_town_houses : Int32) (v_town_front : Int32) (v_town_downFor : Int32) (v_town_kindOf : (Nat → Int32)) (v_town_plotOf : (Nat → Int32)) (v_town_row : (Nat → Int32)) (v_town_standsOn : (Nat → Int32)) => K (l3, l4, l5, l6, v_town_houses, v_town_front, v_town_downFor, v_town_kindOf, v_town_plotOf, v_town_row, v_town_standsOn)) l3 l4 l5 l6 v_town_houses v_town_front v_town_downFor v_town_kindOf v_town_plotOf v_town_row v_town_standsOn = some ρ := h
  have hK_37 : ∀ (l3 : Int32) (l4 : Int32) (l5 : Int32) (l6 : Int32) (v_town_houses : Int32) (v_town_front : Int32) (v_town_downFor : Int32) (v_town_kindOf : (Nat → Int32)) (v_town_plotOf : (Nat → Int32)) (v_town_row : (Nat → Int32)) (v_town_standsOn : (Nat → Int32)), (fun (l3 : Int32) (l4 : Int32) (l5 : Int32) (l6 : Int32) (v_town_houses : Int32) (v_town_front : Int32) (v_town_downFor : Int32) (v_town_kindOf : (Nat → Int32)) (v_town_plotOf : (Nat → Int32)) (v_town_row : (Nat → Int32)) (v_town_standsOn : (Nat → Int32)) => K (l3, l4, l5, l6, v_town_houses, v_town_front, v_town_downFor, v_town_kindOf, v_town_plotOf, v_town_row, v_town_standsOn)) l3 l4 l5 l6 v_town_houses v_town_front v_town_downFor v_town_kindOf v_town_plotOf v_town_row v_town_standsOn = some ρ → ∀ (H : Heap) (locs : List Loc) (ls : Array Slot), WD D A (kwX1_nightToLook cI cZ q q_track q_town q2 q2_town q2_had q2_wishes q2_seen q_town_kindOf q_town_plotOf q_town_row q_town_standsOn q2_town_kindOf q2_town_plotOf q2_town_row q2_town_standsOn q2_seen_house q2_seen_plot q2_seen_night w2_nights v_town_houses v_town_front v_town_downFor w2_town_houses w2_town_front w2_town_downFor w2_town_kindOf v_town_kindOf w2_town_plotOf v_town_plotOf w2_town_row v_town_row w2_town_standsOn v_town_standsOn w2_seen_size w2_seen_house) s.heap H locs → lv_has ls 8 [(0, .ref q), (3, .int l3), (4, .int l4), (5, .int l5), (6, .int l6)] → W p l e R s m args below meth c H locs cells slots Q (F0 m 37 ls []) := fun l3 l4 l5 l6 v_town_houses v_town_front v_town_downFor v_town_kindOf v_town_plotOf v_town_row v_town_standsOn h => hK (l3, l4, l5, l6, v_town_houses, v_town_front, v_town_downFor, v_town_kindOf, v_town_plotOf, v_town_row, v_town_standsOn) h
  generalize (fun (l3 : Int32) (l4 : Int32) (l5 : Int32) (l6 : Int32) (v_town_houses : Int32) (v_town_front : Int32) (v_town_downFor : Int32) (v_town_kindOf : (Nat → Int32)) (v_town_plotOf : (Nat → Int32)) (v_town_row : (Nat → Int32)) (v_town_standsOn : (Nat → Int32)) => K (l3, l4, l5, l6, v_town_houses, v_town_front, v_town_downFor, v_town_kindOf, v_town_plotOf, v_town_row, v_town_standsOn)) = K_37 at h hK_37
  have hw : WD D A (kwX1_nightToLook cI cZ q q_track q_town q2 q2_town q2_had q2_wishes q2_seen q_town_kindOf q_town_plotOf q_town_row q_town_standsOn q2_town_kindOf q2_town_plotOf q2_town_row q2_town_standsOn q2_seen_house q2_seen_plot q2_seen_night w2_nights v_town_houses v_town_front v_town_downFor w2_town_houses w2_town_front w2_town_downFor w2_town_kindOf v_town_kindOf w2_town_plotOf v_town_plotOf w2_town_row v_town_row w2_town_standsOn v_town_standsOn w2_seen_size w2_seen_house) s.heap H locs := hw
  have hl : lv_has ls 8 [(0, .ref q), (3, .int l3), (4, .int l4), (5, .int l5), (6, .int l6)] := hl
  unfold fX1_nightToLook_37 at h
  refine lv_iload hx hb dX1_nightToLook_37 (lv_at hl 4 rfl) ?_
  refine lv_bipush (v := (40 : Int32)) hx hb dX1_nightToLook_39 (by decide) ?_
  refine lv_icmp_gt (tgt := 74) hx hb dX1_nightToLook_41 (by decide) (fun c_41 => ?_) (fun c_41 => ?_)
  · have h := ift c_41 h
    refine lv_iload hx hb dX1_nightToLook_74 (lv_at hl 2 rfl) ?_
    obtain rfl := Option.some.inj h
    exact ret _ _ _ _ dX1_nightToLook_76 hw
  · have h := iff_ c_41 h
    refine lv_aload_n hx hb dX1_nightToLook_44 rfl (lv_at hl 0 rfl) ?_
    refine lv_iload_n hx hb dX1_nightToLook_45 rfl (lv_at hl 1 rfl) ?_
    refine lv_iload hx hb dX1_nightToLook_46 (lv_at hl 4 rfl) ?_
    obtain ⟨x_48, hc_48, h⟩ := obd h
    refine ksV_i (ws2 := (kwX1_nightToLook cI cZ q q_track q_town q2 q2_town q2_had q2_wishes q2_seen q_town_kindOf q_town_plotOf q_town_row q_town_standsOn q2_town_kindOf q2_town_plotOf q2_town_row q2_town_standsOn q2_seen_house q2_seen_plot q2_seen_night w2_nights v_town_houses v_town_front v_town_downFor w2_town_houses w2_town_front w2_town_downFor w2_town_kindOf v_town_kindOf w2_town_plotOf v_town_plotOf w2_town_row v_town_row w2_town_standsOn v_town_standsOn w2_seen_size w2_seen_house)) (nW := 14) (ci := 1) (As := [.int l3, .int l6]) (rest := []) X hw rfl rfl rfl (cX1_leftAtWorst_ct l D cI cZ cG q q_track q_town l3 l6 N x_48 hc_48 H.size) mX1_leftAtWorst tw_210 (hrm.call (by decide) (by decide)) [0] rfl (by decide) rfl (by decide) rfl ⟨rfl, ⟨rfl, ⟨rfl, ⟨rfl, ⟨rfl, ⟨rfl, ⟨rfl, ⟨rfl, ⟨rfl, ⟨rfl, ⟨rfl, ⟨rfl, ⟨rfl, trivial⟩⟩⟩⟩⟩⟩⟩⟩⟩⟩⟩⟩⟩ rfl hl.1 rfl (Nat.le_of_ble_eq_true rfl) dX1_nightToLook_48 ⟨hrm.2.2.1, hrm.2.2.2⟩ (fun H locs hw => ?_)
    refine lv_istore (lv' := [(7, .int x_48), (0, .ref q), (3, .int l3), (4, .int l4), (5, .int l5), (6, .int l6)]) hx hb dX1_nightToLook_51 hl (by decide) rfl (fun ls hl => ?_)
    refine lv_iload hx hb dX1_nightToLook_53 (lv_at hl 0 rfl) ?_
    refine lv_iload hx hb dX1_nightToLook_55 (lv_at hl 4 rfl) ?_
    refine lv_icmp_ge (tgt := 68) hx hb dX1_nightToLook_57 (by decide) (fun c_57 => ?_) (fun c_57 => ?_)
    · have h := ift c_57 h
      refine lv_iinc (v := (l6 + (1 : Int32))) (lv' := [(6, .int (l6 + (1 : Int32))), (7, .int x_48), (0, .ref q), (3, .int l3), (4, .int l4), (5, .int l5)]) hx hb dX1_nightToLook_68 hl (k := 5) rfl (congrArg (l6 + ·) (by decide)) (by decide) rfl (fun ls hl => ?_)
      refine lv_goto (tgt := 37) hx hb dX1_nightToLook_71 (by decide) ?_
      exact hK_37 _ _ _ _ _ _ _ _ _ _ _ h _ _ _ hw (lv_sub hl [2, 3, 4, 5, 0] rfl)
    · have h := iff_ c_57 h
      refine lv_iload hx hb dX1_nightToLook_60 (lv_at hl 0 rfl) ?_
      refine lv_istore (lv' := [(5, .int x_48), (7, .int x_48), (0, .ref q), (3, .int l3), (4, .int l4), (6, .int l6)]) hx hb dX1_nightToLook_62 hl (by decide) rfl (fun ls hl => ?_)
      refine lv_iload hx hb dX1_nightToLook_64 (lv_at hl 5 rfl) ?_
      refine lv_istore (lv' := [(4, .int l6), (5, .int x_48), (7, .int x_48), (0, .ref q), (3, .int l3), (6, .int l6)]) hx hb dX1_nightToLook_66 hl (by decide) rfl (fun ls hl => ?_)
      refine lv_iinc (v := (l6 + (1 : Int32))) (lv' := [(6, .int (l6 + (1 : Int32))), (4, .int l6), (5, .int x_48), (7, .int x_48), (0, .ref q), (3, .int l3)]) hx hb dX1_nightToLook_68 hl (k := 5) rfl (congrArg (l6 + ·) (by decide)) (by decide) rfl (fun ls hl => ?_)
      refine lv_goto (tgt := 37) hx hb dX1_nightToLook_71 (by decide) ?_
      exact hK_37 _ _ _ _ _ _ _ _ _ _ _ h _ _ _ hw (lv_sub hl [4, 5, 1, 2, 0] rfl)
set_option maxHeartbeats 4000000 in
set_option maxRecDepth 100000 in
theorem wX1_nightToLook {p : Program} {l : Launch} {e : Env} {R : Room} {s : State} {m : MethodId} {args : Array Value} {below : List Frame} {meth : Method} {c : Code} {cells slots : Nat} {Q : State → Prop} {D : va_G} {A : Nat → Prop} {cI cZ cG : ClassId} {q q_track q_town q2 q2_town q2_had q2_wishes q2_seen q_town_kindOf q_town_plotOf q_town_row q_town_standsOn q2_town_kindOf q2_town_plotOf q2_town_row q2_town_standsOn q2_seen_house q2_seen_plot q2_seen_night : Nat} {w2_nights : Int32} {v_town_houses : Int32} {v_town_front : Int32} {v_town_downFor : Int32} {w2_town_houses : Int32} {w2_town_front : Int32} {w2_town_downFor : Int32} {w2_town_kindOf : (Nat → Int32)} {v_town_kindOf : (Nat → Int32)} {w2_town_plotOf : (Nat → Int32)} {v_town_plotOf : (Nat → Int32)} {w2_town_row : (Nat → Int32)} {v_town_row : (Nat → Int32)} {w2_town_standsOn : (Nat → Int32)} {v_town_standsOn : (Nat → Int32)} {w2_seen_size : Int32} {w2_seen_house : (Nat → Int32)} {a1 : Int32} {N : Nat} {ρ : Int32 × Int32 × Int32 × Int32 × (Nat → Int32) × (Nat → Int32) × (Nat → Int32) × (Nat → Int32)} (X : CX p s m args c cX1_nightToLook 8 RX1 D (TY cI cZ cG) A) (hrm : RM R 4 93 cells slots) (ret : ∀ (pc : Nat) (H : Heap) (locs : List Loc) (ls : Array Slot), decode cX1_nightToLook pc = .ok (.ireturn, 1) → WD D A (kwX1_nightToLook cI cZ q q_track q_town q2 q2_town q2_had q2_wishes q2_seen q_town_kindOf q_town_plotOf q_town_row q_town_standsOn q2_town_kindOf q2_town_plotOf q2_town_row q2_town_standsOn q2_seen_house q2_seen_plot q2_seen_night w2_nights (ρ.2.1) (ρ.2.2.1) (ρ.2.2.2.1) w2_town_houses w2_town_front w2_town_downFor w2_town_kindOf (ρ.2.2.2.2.1) w2_town_plotOf (ρ.2.2.2.2.2.1) w2_town_row (ρ.2.2.2.2.2.2.1) w2_town_standsOn (ρ.2.2.2.2.2.2.2) w2_seen_size w2_seen_house) s.heap H locs → W p l e R s m args below meth c H locs cells slots Q (F0 m pc ls [.int ρ.1])) (h : fX1_nightToLook N w2_town_houses w2_town_front w2_town_downFor w2_town_kindOf w2_town_plotOf w2_town_row w2_town_standsOn w2_seen_size w2_seen_house a1 v_town_houses v_town_front v_town_downFor v_town_kindOf v_town_plotOf v_town_row v_town_standsOn  = some ρ) (H : Heap) (locs : List Loc) (ls : Array Slot) (hw : WD D A (kwX1_nightToLook cI cZ q q_track q_town q2 q2_town q2_had q2_wishes q2_seen q_town_kindOf q_town_plotOf q_town_row q_town_standsOn q2_town_kindOf q2_town_plotOf q2_town_row q2_town_standsOn q2_seen_house q2_seen_plot q2_seen_night w2_nights v_town_houses v_town_front v_town_downFor w2_town_houses w2_town_front w2_town_downFor w2_town_kindOf v_town_kindOf w2_town_plotOf v_town_plotOf w2_town_row v_town_row w2_town_standsOn v_town_standsOn w2_seen_size w2_seen_house) s.heap H locs) (hl : lv_has ls 8 [(0, .ref q), (1, .int a1), (2, .ref q2)]) : W p l e R s m args below meth c H locs cells slots Q (F0 m 0 ls []) := by
  have hx := X.1.1
  have hb := X.1.2.1
  unfold fX1_nightToLook at h
  refine lv_aload_n hx hb dX1_nightToLook_0 rfl (lv_at hl 0 rfl) ?_
  refine lv_iload_n hx hb dX1_nightToLook_1 rfl (lv_at hl 1 rfl) ?_
  refine lv_aload_n hx hb dX1_nightToLook_2 rfl (lv_at hl 2 rfl) ?_
  refine kget (ci := 5) (v := .ref q2_town) X hw iX5 1 rfl rfl 0 (by decide) tw_191 rfl dX1_nightToLook_3 ?_
  refine lv_bipush (v := (40 : Int32)) hx hb dX1_nightToLook_6 (by decide) ?_
  obtain ⟨x_8, hc_8, h⟩ := obd h
  refine ksV_v (ws2 := (kwX1_nightToLook cI cZ q q_track q_town q2 q2_town q2_had q2_wishes q2_seen q_town_kindOf q_town_plotOf q_town_row q_town_standsOn q2_town_kindOf q2_town_plotOf q2_town_row q2_town_standsOn q2_seen_house q2_seen_plot q2_seen_night w2_nights x_8.1 x_8.2.1 x_8.2.2.1 w2_town_houses w2_town_front w2_town_downFor w2_town_kindOf x_8.2.2.2.1 w2_town_plotOf x_8.2.2.2.2.1 w2_town_row x_8.2.2.2.2.2.1 w2_town_standsOn x_8.2.2.2.2.2.2 w2_seen_size w2_seen_house)) (nW := 14) (ci := 1) (As := [.int a1, .ref q2_town, .int (40 : Int32)]) (rest := []) X hw rfl rfl rfl (cX1_follow_ct l D cI cZ cG q q_track q_town q_town_kindOf q_town_plotOf q_town_row q_town_standsOn q2_town q2_town_kindOf q2_town_plotOf q2_town_row q2_town_standsOn v_town_houses v_town_front v_town_downFor w2_town_houses w2_town_front w2_town_downFor w2_town_kindOf v_town_kindOf w2_town_plotOf v_town_plotOf w2_town_row v_town_row w2_town_standsOn v_town_standsOn a1 (40 : Int32) N x_8 hc_8 H.size) mX1_follow tw_194 (hrm.call (by decide) (by decide)) [0, 2, 3, 4, 5, 6, 7, 8, 9, 10, 11] rfl (by decide) rfl (by decide) rfl ⟨rfl, ⟨rfl, ⟨rfl, trivial⟩⟩⟩ rfl hl.1 rfl (Nat.le_of_ble_eq_true rfl) dX1_nightToLook_8 ⟨hrm.2.2.1, hrm.2.2.2⟩ (fun H locs hw => ?_)
  refine lv_aload_n hx hb dX1_nightToLook_11 rfl (lv_at hl 0 rfl) ?_
  refine lv_iload_n hx hb dX1_nightToLook_12 rfl (lv_at hl 1 rfl) ?_
  refine lv_aload_n hx hb dX1_nightToLook_13 rfl (lv_at hl 2 rfl) ?_
  refine kget (ci := 5) (v := .ref q2_seen) X hw iX5 1 rfl rfl 3 (by decide) tw_192 rfl dX1_nightToLook_14 ?_
  obtain ⟨x_17, hc_17, h⟩ := obd h
  refine ksV_i (ws2 := (kwX1_nightToLook cI cZ q q_track q_town q2 q2_town q2_had q2_wishes q2_seen q_town_kindOf q_town_plotOf q_town_row q_town_standsOn q2_town_kindOf q2_town_plotOf q2_town_row q2_town_standsOn q2_seen_house q2_seen_plot q2_seen_night w2_nights x_8.1 x_8.2.1 x_8.2.2.1 w2_town_houses w2_town_front w2_town_downFor w2_town_kindOf x_8.2.2.2.1 w2_town_plotOf x_8.2.2.2.2.1 w2_town_row x_8.2.2.2.2.2.1 w2_town_standsOn x_8.2.2.2.2.2.2 w2_seen_size w2_seen_house)) (nW := 14) (ci := 1) (As := [.int a1, .ref q2_seen]) (rest := []) X hw rfl rfl rfl (cX1_kindsByTracks_ct l D cI cZ cG q q_track q_town q2_seen q2_seen_house q2_seen_plot q2_seen_night 6 w2_seen_size w2_seen_house a1 N x_17 hc_17 H.size) mX1_kindsByTracks tw_195 (hrm.call (by decide) (by decide)) [0, 12, 13] rfl (by decide) rfl (by decide) rfl ⟨rfl, ⟨rfl, ⟨rfl, ⟨rfl, ⟨rfl, ⟨rfl, ⟨rfl, ⟨rfl, ⟨rfl, ⟨rfl, ⟨rfl, trivial⟩⟩⟩⟩⟩⟩⟩⟩⟩⟩⟩ rfl hl.1 rfl (Nat.le_of_ble_eq_true rfl) dX1_nightToLook_17 ⟨hrm.2.2.1, hrm.2.2.2⟩ (fun H locs hw => ?_)
  refine lv_istore_n (lv' := [(3, .int x_17), (0, .ref q), (1, .int a1), (2, .ref q2)]) hx hb dX1_nightToLook_20 rfl hl (by decide) rfl (fun ls hl => ?_)
  refine lv_iload_n hx hb dX1_nightToLook_21 rfl (lv_at hl 0 rfl) ?_
  refine lv_if_ne (tgt := 27) hx hb dX1_nightToLook_22 (by decide) (fun c_22 => ?_) (fun c_22 => ?_)
  · have h := iff_ c_22 h
    refine lv_iconst (v := (-1 : Int32)) hx hb dX1_nightToLook_27 (by decide) ?_
    refine lv_istore (lv' := [(4, .int (-1 : Int32)), (3, .int x_17), (0, .ref q), (1, .int a1), (2, .ref q2)]) hx hb dX1_nightToLook_28 hl (by decide) rfl (fun ls hl => ?_)
    refine lv_bipush (v := (6 : Int32)) hx hb dX1_nightToLook_30 (by decide) ?_
    refine lv_istore (lv' := [(5, .int (6 : Int32)), (4, .int (-1 : Int32)), (3, .int x_17), (0, .ref q), (1, .int a1), (2, .ref q2)]) hx hb dX1_nightToLook_32 hl (by decide) rfl (fun ls hl => ?_)
    refine lv_iconst (v := (1 : Int32)) hx hb dX1_nightToLook_34 (by decide) ?_
    refine lv_istore (lv' := [(6, .int (1 : Int32)), (5, .int (6 : Int32)), (4, .int (-1 : Int32)), (3, .int x_17), (0, .ref q), (1, .int a1), (2, .ref q2)]) hx hb dX1_nightToLook_35 hl (by decide) rfl (fun ls hl => ?_)
    exact wX1_nightToLook_37 X hrm ret  _ _ h _ _ _ hw (lv_sub hl [4, 3, 2, 1, 0] rfl)
  · have h := ift c_22 h
    refine lv_iconst (v := (-1 : Int32)) hx hb dX1_nightToLook_25 (by decide) ?_
    obtain rfl := Option.some.inj h
    exact ret _ _ _ _ dX1_nightToLook_26 hw
set_option maxHeartbeats 4000000 in
set_option maxRecDepth 100000 in
theorem cX1_nightToLook_ct (l : Launch) (D : va_G) (cI cZ cG : ClassId) (q q_track q_town q2 q2_town q2_had q2_wishes q2_seen q_town_kindOf q_town_plotOf q_town_row q_town_standsOn q2_town_kindOf q2_town_plotOf q2_town_row q2_town_standsOn q2_seen_house q2_seen_plot q2_seen_night : Nat)  (w2_nights : Int32) (v_town_houses : Int32) (v_town_front : Int32) (v_town_downFor : Int32) (w2_town_houses : Int32) (w2_town_front : Int32) (w2_town_downFor : Int32) (w2_town_kindOf : (Nat → Int32)) (v_town_kindOf : (Nat → Int32)) (w2_town_plotOf : (Nat → Int32)) (v_town_plotOf : (Nat → Int32)) (w2_town_row : (Nat → Int32)) (v_town_row : (Nat → Int32)) (w2_town_standsOn : (Nat → Int32)) (v_town_standsOn : (Nat → Int32)) (w2_seen_size : Int32) (w2_seen_house : (Nat → Int32)) (a1 : Int32) (N : Nat) (ρ : Int32 × Int32 × Int32 × Int32 × (Nat → Int32) × (Nat → Int32) × (Nat → Int32) × (Nat → Int32)) (h : fX1_nightToLook N w2_town_houses w2_town_front w2_town_downFor w2_town_kindOf w2_town_plotOf w2_town_row w2_town_standsOn w2_seen_size w2_seen_house a1 v_town_houses v_town_front v_town_downFor v_town_kindOf v_town_plotOf v_town_row v_town_standsOn  = some ρ) (sz : Nat) : Met l yX1_nightToLook (wz yX1_nightToLook cX1_nightToLook 8 (some .int)) (cRm 4 93) (cPre D (TY cI cZ cG) [.ref q, .int a1, .ref q2] (kwX1_nightToLook cI cZ q q_track q_town q2 q2_town q2_had q2_wishes q2_seen q_town_kindOf q_town_plotOf q_town_row q_town_standsOn q2_town_kindOf q2_town_plotOf q2_town_row q2_town_standsOn q2_seen_house q2_seen_plot q2_seen_night w2_nights v_town_houses v_town_front v_town_downFor w2_town_houses w2_town_front w2_town_downFor w2_town_kindOf v_town_kindOf w2_town_plotOf v_town_plotOf w2_town_row v_town_row w2_town_standsOn v_town_standsOn w2_seen_size w2_seen_house) sz) (cQi D (ρ.1) (kwX1_nightToLook cI cZ q q_track q_town q2 q2_town q2_had q2_wishes q2_seen q_town_kindOf q_town_plotOf q_town_row q_town_standsOn q2_town_kindOf q2_town_plotOf q2_town_row q2_town_standsOn q2_seen_house q2_seen_plot q2_seen_night w2_nights v_town_houses v_town_front v_town_downFor w2_town_houses w2_town_front w2_town_downFor w2_town_kindOf v_town_kindOf w2_town_plotOf v_town_plotOf w2_town_row v_town_row w2_town_standsOn v_town_standsOn w2_seen_size w2_seen_house) (kwX1_nightToLook cI cZ q q_track q_town q2 q2_town q2_had q2_wishes q2_seen q_town_kindOf q_town_plotOf q_town_row q_town_standsOn q2_town_kindOf q2_town_plotOf q2_town_row q2_town_standsOn q2_seen_house q2_seen_plot q2_seen_night w2_nights (ρ.2.1) (ρ.2.2.1) (ρ.2.2.2.1) w2_town_houses w2_town_front w2_town_downFor w2_town_kindOf (ρ.2.2.2.2.1) w2_town_plotOf (ρ.2.2.2.2.2.1) w2_town_row (ρ.2.2.2.2.2.2.1) w2_town_standsOn (ρ.2.2.2.2.2.2.2) w2_seen_size w2_seen_house) sz) 0 0 (va_A (kwX1_nightToLook cI cZ q q_track q_town q2 q2_town q2_had q2_wishes q2_seen q_town_kindOf q_town_plotOf q_town_row q_town_standsOn q2_town_kindOf q2_town_plotOf q2_town_row q2_town_standsOn q2_seen_house q2_seen_plot q2_seen_night w2_nights v_town_houses v_town_front v_town_downFor w2_town_houses w2_town_front w2_town_downFor w2_town_kindOf v_town_kindOf w2_town_plotOf v_town_plotOf w2_town_row v_town_row w2_town_standsOn v_town_standsOn w2_seen_size w2_seen_house) sz) :=
  mk_i (by decide) (Nat.le_of_ble_eq_true rfl) (fun X hrm ret hw hl => wX1_nightToLook X hrm ret h _ _ _ hw hl)
theorem dX2_add_0 : decode cX2_add 0 = .ok (.aload_n 0, 1) := by decide +kernel
theorem dX2_add_1 : decode cX2_add 1 = .ok (.getfield 27, 3) := by decide +kernel
theorem dX2_add_4 : decode cX2_add 4 = .ok (.aload_n 0, 1) := by decide +kernel
theorem dX2_add_5 : decode cX2_add 5 = .ok (.getfield 15, 3) := by decide +kernel
theorem dX2_add_8 : decode cX2_add 8 = .ok (.arraylength, 1) := by decide +kernel
theorem dX2_add_9 : decode cX2_add 9 = .ok (.if_icmp .lt 6, 3) := by decide +kernel
theorem dX2_add_12 : decode cX2_add 12 = .ok (.bipush (-104), 2) := by decide +kernel
theorem dX2_add_14 : decode cX2_add 14 = .ok (.ireturn, 1) := by decide +kernel
theorem dX2_add_15 : decode cX2_add 15 = .ok (.aload_n 0, 1) := by decide +kernel
theorem dX2_add_16 : decode cX2_add 16 = .ok (.getfield 15, 3) := by decide +kernel
theorem dX2_add_19 : decode cX2_add 19 = .ok (.aload_n 0, 1) := by decide +kernel
theorem dX2_add_20 : decode cX2_add 20 = .ok (.getfield 27, 3) := by decide +kernel
theorem dX2_add_23 : decode cX2_add 23 = .ok (.iload_n 1, 1) := by decide +kernel
theorem dX2_add_24 : decode cX2_add 24 = .ok (.iastore, 1) := by decide +kernel
theorem dX2_add_25 : decode cX2_add 25 = .ok (.aload_n 0, 1) := by decide +kernel
theorem dX2_add_26 : decode cX2_add 26 = .ok (.getfield 21, 3) := by decide +kernel
theorem dX2_add_29 : decode cX2_add 29 = .ok (.aload_n 0, 1) := by decide +kernel
theorem dX2_add_30 : decode cX2_add 30 = .ok (.getfield 27, 3) := by decide +kernel
theorem dX2_add_33 : decode cX2_add 33 = .ok (.iload_n 2, 1) := by decide +kernel
theorem dX2_add_34 : decode cX2_add 34 = .ok (.iastore, 1) := by decide +kernel
theorem dX2_add_35 : decode cX2_add 35 = .ok (.aload_n 0, 1) := by decide +kernel
theorem dX2_add_36 : decode cX2_add 36 = .ok (.getfield 24, 3) := by decide +kernel
theorem dX2_add_39 : decode cX2_add 39 = .ok (.aload_n 0, 1) := by decide +kernel
theorem dX2_add_40 : decode cX2_add 40 = .ok (.getfield 27, 3) := by decide +kernel
theorem dX2_add_43 : decode cX2_add 43 = .ok (.iload_n 3, 1) := by decide +kernel
theorem dX2_add_44 : decode cX2_add 44 = .ok (.iastore, 1) := by decide +kernel
theorem dX2_add_45 : decode cX2_add 45 = .ok (.aload_n 0, 1) := by decide +kernel
theorem dX2_add_46 : decode cX2_add 46 = .ok (.dup, 1) := by decide +kernel
theorem dX2_add_47 : decode cX2_add 47 = .ok (.getfield 27, 3) := by decide +kernel
theorem dX2_add_50 : decode cX2_add 50 = .ok (.iconst 1, 1) := by decide +kernel
theorem dX2_add_51 : decode cX2_add 51 = .ok (.iadd, 1) := by decide +kernel
theorem dX2_add_52 : decode cX2_add 52 = .ok (.putfield 27, 3) := by decide +kernel
theorem dX2_add_55 : decode cX2_add 55 = .ok (.aload_n 0, 1) := by decide +kernel
theorem dX2_add_56 : decode cX2_add 56 = .ok (.getfield 27, 3) := by decide +kernel
theorem dX2_add_59 : decode cX2_add 59 = .ok (.ireturn, 1) := by decide +kernel
abbrev kwX2_add (cI cZ : ClassId) (q q_house q_plot q_night n_o : Nat) (v_size : Int32) (v_house : (Nat → Int32)) (v_plot : (Nat → Int32)) (v_night : (Nat → Int32)) : va_W := [(q, .inr (2, [.ref q_house, .ref q_plot, .ref q_night, .int v_size])), (q_house, .inl (cI, n_o, .inl v_house)), (q_plot, .inl (cI, n_o, .inl v_plot)), (q_night, .inl (cI, n_o, .inl v_night))]
noncomputable def fX2_add (N : Nat) (n_o : Nat) (a1 : Int32) (a2 : Int32) (a3 : Int32) (v_size : Int32) (v_house : (Nat → Int32)) (v_plot : (Nat → Int32)) (v_night : (Nat → Int32))  : Option (Int32 × Int32 × (Nat → Int32) × (Nat → Int32) × (Nat → Int32)) := if v_size < (Int32.ofNat n_o) then (if v_size < 0 ∨ n_o ≤ (v_size).toNatClampNeg then none else (if v_size < 0 ∨ n_o ≤ (v_size).toNatClampNeg then none else (if v_size < 0 ∨ n_o ≤ (v_size).toNatClampNeg then none else (some ((v_size + (1 : Int32)), (v_size + (1 : Int32)), (upd v_house (v_size).toNatClampNeg a1), (upd v_plot (v_size).toNatClampNeg a2), (upd v_night (v_size).toNatClampNeg a3)))))) else (some ((-104 : Int32), v_size, v_house, v_plot, v_night))
set_option maxHeartbeats 4000000 in
set_option maxRecDepth 100000 in
theorem wX2_add {p : Program} {l : Launch} {e : Env} {R : Room} {s : State} {m : MethodId} {args : Array Value} {below : List Frame} {meth : Method} {c : Code} {cells slots : Nat} {Q : State → Prop} {D : va_G} {A : Nat → Prop} {cI cZ cG : ClassId} {q q_house q_plot q_night : Nat} {n_o : Nat} {v_size : Int32} {v_house : (Nat → Int32)} {v_plot : (Nat → Int32)} {v_night : (Nat → Int32)} {a1 : Int32} {a2 : Int32} {a3 : Int32} {N : Nat} {ρ : Int32 × Int32 × (Nat → Int32) × (Nat → Int32) × (Nat → Int32)} (X : CX p s m args c cX2_add 4 RX2 D (TY cI cZ cG) A) (hrm : RM R 0 0 cells slots) (ret : ∀ (pc : Nat) (H : Heap) (locs : List Loc) (ls : Array Slot), decode cX2_add pc = .ok (.ireturn, 1) → WD D A (kwX2_add cI cZ q q_house q_plot q_night n_o (ρ.2.1) (ρ.2.2.1) (ρ.2.2.2.1) (ρ.2.2.2.2)) s.heap H locs → W p l e R s m args below meth c H locs cells slots Q (F0 m pc ls [.int ρ.1])) (h : fX2_add N n_o a1 a2 a3 v_size v_house v_plot v_night  = some ρ) (H : Heap) (locs : List Loc) (ls : Array Slot) (hw : WD D A (kwX2_add cI cZ q q_house q_plot q_night n_o v_size v_house v_plot v_night) s.heap H locs) (hl : lv_has ls 4 [(0, .ref q), (1, .int a1), (2, .int a2), (3, .int a3)]) : W p l e R s m args below meth c H locs cells slots Q (F0 m 0 ls []) := by
  have hx := X.1.1
  have hb := X.1.2.1
  unfold fX2_add at h
  refine lv_aload_n hx hb dX2_add_0 rfl (lv_at hl 0 rfl) ?_
  refine kget (ci := 2) (v := .int v_size) X hw iX2 0 rfl rfl 3 (by decide) tw_128 rfl dX2_add_1 ?_
  refine lv_aload_n hx hb dX2_add_4 rfl (lv_at hl 0 rfl) ?_
  refine kget (ci := 2) (v := .ref q_house) X hw iX2 0 rfl rfl 0 (by decide) tw_214 rfl dX2_add_5 ?_
  refine kalen (v := (Int32.ofNat n_o)) X hw 1 rfl rfl rfl dX2_add_8 ?_
  refine lv_icmp_lt (tgt := 15) hx hb dX2_add_9 (by decide) (fun c_9 => ?_) (fun c_9 => ?_)
  · have h := ift c_9 h
    refine lv_aload_n hx hb dX2_add_15 rfl (lv_at hl 0 rfl) ?_
    refine kget (ci := 2) (v := .ref q_house) X hw iX2 0 rfl rfl 0 (by decide) tw_214 rfl dX2_add_16 ?_
    refine lv_aload_n hx hb dX2_add_19 rfl (lv_at hl 0 rfl) ?_
    refine kget (ci := 2) (v := .int v_size) X hw iX2 0 rfl rfl 3 (by decide) tw_128 rfl dX2_add_20 ?_
    refine lv_iload_n hx hb dX2_add_23 rfl (lv_at hl 1 rfl) ?_
    obtain ⟨g_24, h⟩ := gd h
    refine kiast X hw 1 rfl rfl g_24 dX2_add_24 (fun H locs hw => ?_)
    have hw : WD D A (kwX2_add cI cZ q q_house q_plot q_night n_o v_size (upd v_house (v_size).toNatClampNeg a1) v_plot v_night) s.heap H locs := hw
    refine lv_aload_n hx hb dX2_add_25 rfl (lv_at hl 0 rfl) ?_
    refine kget (ci := 2) (v := .ref q_plot) X hw iX2 0 rfl rfl 1 (by decide) tw_215 rfl dX2_add_26 ?_
    refine lv_aload_n hx hb dX2_add_29 rfl (lv_at hl 0 rfl) ?_
    refine kget (ci := 2) (v := .int v_size) X hw iX2 0 rfl rfl 3 (by decide) tw_128 rfl dX2_add_30 ?_
    refine lv_iload_n hx hb dX2_add_33 rfl (lv_at hl 2 rfl) ?_
    obtain ⟨g_34, h⟩ := gd h
    refine kiast X hw 2 rfl rfl g_34 dX2_add_34 (fun H locs hw => ?_)
    have hw : WD D A (kwX2_add cI cZ q q_house q_plot q_night n_o v_size (upd v_house (v_size).toNatClampNeg a1) (upd v_plot (v_size).toNatClampNeg a2) v_night) s.heap H locs := hw
    refine lv_aload_n hx hb dX2_add_35 rfl (lv_at hl 0 rfl) ?_
    refine kget (ci := 2) (v := .ref q_night) X hw iX2 0 rfl rfl 2 (by decide) tw_129 rfl dX2_add_36 ?_
    refine lv_aload_n hx hb dX2_add_39 rfl (lv_at hl 0 rfl) ?_
    refine kget (ci := 2) (v := .int v_size) X hw iX2 0 rfl rfl 3 (by decide) tw_128 rfl dX2_add_40 ?_
    refine lv_iload_n hx hb dX2_add_43 rfl (lv_at hl 3 rfl) ?_
    obtain ⟨g_44, h⟩ := gd h
    refine kiast X hw 3 rfl rfl g_44 dX2_add_44 (fun H locs hw => ?_)
    have hw : WD D A (kwX2_add cI cZ q q_house q_plot q_night n_o v_size (upd v_house (v_size).toNatClampNeg a1) (upd v_plot (v_size).toNatClampNeg a2) (upd v_night (v_size).toNatClampNeg a3)) s.heap H locs := hw
    refine lv_aload_n hx hb dX2_add_45 rfl (lv_at hl 0 rfl) ?_
    refine lv_dup hx hb dX2_add_46 rfl ?_
    refine kget (ci := 2) (v := .int v_size) X hw iX2 0 rfl rfl 3 (by decide) tw_128 rfl dX2_add_47 ?_
    refine lv_iconst (v := (1 : Int32)) hx hb dX2_add_50 (by decide) ?_
    refine lv_iadd hx hb dX2_add_51 ?_
    refine kput (ci := 2) (v := .int (v_size + (1 : Int32))) (ty := .int) X hw iX2 tyX2_ok nmX2 0 rfl rfl 3 (by decide) tw_128 rfl rfl rfl rfl (Nat.le_of_ble_eq_true rfl) dX2_add_52 (fun H locs hw => ?_)
    have hw : WD D A (kwX2_add cI cZ q q_house q_plot q_night n_o (v_size + (1 : Int32)) (upd v_house (v_size).toNatClampNeg a1) (upd v_plot (v_size).toNatClampNeg a2) (upd v_night (v_size).toNatClampNeg a3)) s.heap H locs := hw
    refine lv_aload_n hx hb dX2_add_55 rfl (lv_at hl 0 rfl) ?_
    refine kget (ci := 2) (v := .int (v_size + (1 : Int32))) X hw iX2 0 rfl rfl 3 (by decide) tw_128 rfl dX2_add_56 ?_
    obtain rfl := Option.some.inj h
    exact ret _ _ _ _ dX2_add_59 hw
  · have h := iff_ c_9 h
    refine lv_bipush (v := (-104 : Int32)) hx hb dX2_add_12 (by decide) ?_
    obtain rfl := Option.some.inj h
    exact ret _ _ _ _ dX2_add_14 hw
set_option maxHeartbeats 4000000 in
set_option maxRecDepth 100000 in
theorem cX2_add_ct (l : Launch) (D : va_G) (cI cZ cG : ClassId) (q q_house q_plot q_night : Nat) (n_o : Nat) (v_size : Int32) (v_house : (Nat → Int32)) (v_plot : (Nat → Int32)) (v_night : (Nat → Int32)) (a1 : Int32) (a2 : Int32) (a3 : Int32) (N : Nat) (ρ : Int32 × Int32 × (Nat → Int32) × (Nat → Int32) × (Nat → Int32)) (h : fX2_add N n_o a1 a2 a3 v_size v_house v_plot v_night  = some ρ) (sz : Nat) : Met l yX2_add (wz yX2_add cX2_add 4 (some .int)) (cRm 0 0) (cPre D (TY cI cZ cG) [.ref q, .int a1, .int a2, .int a3] (kwX2_add cI cZ q q_house q_plot q_night n_o v_size v_house v_plot v_night) sz) (cQi D (ρ.1) (kwX2_add cI cZ q q_house q_plot q_night n_o v_size v_house v_plot v_night) (kwX2_add cI cZ q q_house q_plot q_night n_o (ρ.2.1) (ρ.2.2.1) (ρ.2.2.2.1) (ρ.2.2.2.2)) sz) 0 0 (va_A (kwX2_add cI cZ q q_house q_plot q_night n_o v_size v_house v_plot v_night) sz) :=
  mk_i (by decide) (Nat.le_of_ble_eq_true rfl) (fun X hrm ret hw hl => wX2_add X hrm ret h _ _ _ hw hl)
theorem dX2_clear_0 : decode cX2_clear 0 = .ok (.aload_n 0, 1) := by decide +kernel
theorem dX2_clear_1 : decode cX2_clear 1 = .ok (.getfield 27, 3) := by decide +kernel
theorem dX2_clear_4 : decode cX2_clear 4 = .ok (.istore_n 1, 1) := by decide +kernel
theorem dX2_clear_5 : decode cX2_clear 5 = .ok (.aload_n 0, 1) := by decide +kernel
theorem dX2_clear_6 : decode cX2_clear 6 = .ok (.iconst 0, 1) := by decide +kernel
theorem dX2_clear_7 : decode cX2_clear 7 = .ok (.putfield 27, 3) := by decide +kernel
theorem dX2_clear_10 : decode cX2_clear 10 = .ok (.iload_n 1, 1) := by decide +kernel
theorem dX2_clear_11 : decode cX2_clear 11 = .ok (.ireturn, 1) := by decide +kernel
abbrev kwX2_clear (cI cZ : ClassId) (q q_house q_plot q_night : Nat) (v_size : Int32) : va_W := [(q, .inr (2, [.ref q_house, .ref q_plot, .ref q_night, .int v_size]))]
noncomputable def fX2_clear (N : Nat) (v_size : Int32)  : Option (Int32 × Int32) := some (v_size, (0 : Int32))
set_option maxHeartbeats 4000000 in
set_option maxRecDepth 100000 in
theorem wX2_clear {p : Program} {l : Launch} {e : Env} {R : Room} {s : State} {m : MethodId} {args : Array Value} {below : List Frame} {meth : Method} {c : Code} {cells slots : Nat} {Q : State → Prop} {D : va_G} {A : Nat → Prop} {cI cZ cG : ClassId} {q q_house q_plot q_night : Nat} {v_size : Int32} {N : Nat} {ρ : Int32 × Int32} (X : CX p s m args c cX2_clear 2 RX2 D (TY cI cZ cG) A) (hrm : RM R 0 0 cells slots) (ret : ∀ (pc : Nat) (H : Heap) (locs : List Loc) (ls : Array Slot), decode cX2_clear pc = .ok (.ireturn, 1) → WD D A (kwX2_clear cI cZ q q_house q_plot q_night (ρ.2)) s.heap H locs → W p l e R s m args below meth c H locs cells slots Q (F0 m pc ls [.int ρ.1])) (h : fX2_clear N v_size  = some ρ) (H : Heap) (locs : List Loc) (ls : Array Slot) (hw : WD D A (kwX2_clear cI cZ q q_house q_plot q_night v_size) s.heap H locs) (hl : lv_has ls 2 [(0, .ref q)]) : W p l e R s m args below meth c H locs cells slots Q (F0 m 0 ls []) := by
  have hx := X.1.1
  have hb := X.1.2.1
  unfold fX2_clear at h
  refine lv_aload_n hx hb dX2_clear_0 rfl (lv_at hl 0 rfl) ?_
  refine kget (ci := 2) (v := .int v_size) X hw iX2 0 rfl rfl 3 (by decide) tw_128 rfl dX2_clear_1 ?_
  refine lv_istore_n (lv' := [(1, .int v_size), (0, .ref q)]) hx hb dX2_clear_4 rfl hl (by decide) rfl (fun ls hl => ?_)
  refine lv_aload_n hx hb dX2_clear_5 rfl (lv_at hl 1 rfl) ?_
  refine lv_iconst (v := (0 : Int32)) hx hb dX2_clear_6 (by decide) ?_
  refine kput (ci := 2) (v := .int (0 : Int32)) (ty := .int) X hw iX2 tyX2_ok nmX2 0 rfl rfl 3 (by decide) tw_128 rfl rfl rfl rfl (Nat.le_of_ble_eq_true rfl) dX2_clear_7 (fun H locs hw => ?_)
  have hw : WD D A (kwX2_clear cI cZ q q_house q_plot q_night (0 : Int32)) s.heap H locs := hw
  refine lv_iload_n hx hb dX2_clear_10 rfl (lv_at hl 0 rfl) ?_
  obtain rfl := Option.some.inj h
  exact ret _ _ _ _ dX2_clear_11 hw
set_option maxHeartbeats 4000000 in
set_option maxRecDepth 100000 in
theorem cX2_clear_ct (l : Launch) (D : va_G) (cI cZ cG : ClassId) (q q_house q_plot q_night : Nat)  (v_size : Int32)  (N : Nat) (ρ : Int32 × Int32) (h : fX2_clear N v_size  = some ρ) (sz : Nat) : Met l yX2_clear (wz yX2_clear cX2_clear 2 (some .int)) (cRm 0 0) (cPre D (TY cI cZ cG) [.ref q] (kwX2_clear cI cZ q q_house q_plot q_night v_size) sz) (cQi D (ρ.1) (kwX2_clear cI cZ q q_house q_plot q_night v_size) (kwX2_clear cI cZ q q_house q_plot q_night (ρ.2)) sz) 0 0 (va_A (kwX2_clear cI cZ q q_house q_plot q_night v_size) sz) :=
  mk_i (by decide) (Nat.le_of_ble_eq_true rfl) (fun X hrm ret hw hl => wX2_clear X hrm ret h _ _ _ hw hl)
theorem dX2_copyFrom_0 : decode cX2_copyFrom 0 = .ok (.aload_n 0, 1) := by decide +kernel
theorem dX2_copyFrom_1 : decode cX2_copyFrom 1 = .ok (.aload_n 1, 1) := by decide +kernel
theorem dX2_copyFrom_2 : decode cX2_copyFrom 2 = .ok (.getfield 27, 3) := by decide +kernel
theorem dX2_copyFrom_5 : decode cX2_copyFrom 5 = .ok (.aload_n 0, 1) := by decide +kernel
theorem dX2_copyFrom_6 : decode cX2_copyFrom 6 = .ok (.getfield 15, 3) := by decide +kernel
theorem dX2_copyFrom_9 : decode cX2_copyFrom 9 = .ok (.arraylength, 1) := by decide +kernel
theorem dX2_copyFrom_10 : decode cX2_copyFrom 10 = .ok (.invokestatic 31, 3) := by decide +kernel
theorem dX2_copyFrom_13 : decode cX2_copyFrom 13 = .ok (.putfield 27, 3) := by decide +kernel
theorem dX2_copyFrom_16 : decode cX2_copyFrom 16 = .ok (.aload_n 1, 1) := by decide +kernel
theorem dX2_copyFrom_17 : decode cX2_copyFrom 17 = .ok (.getfield 15, 3) := by decide +kernel
theorem dX2_copyFrom_20 : decode cX2_copyFrom 20 = .ok (.iconst 0, 1) := by decide +kernel
theorem dX2_copyFrom_21 : decode cX2_copyFrom 21 = .ok (.aload_n 0, 1) := by decide +kernel
theorem dX2_copyFrom_22 : decode cX2_copyFrom 22 = .ok (.getfield 15, 3) := by decide +kernel
theorem dX2_copyFrom_25 : decode cX2_copyFrom 25 = .ok (.iconst 0, 1) := by decide +kernel
theorem dX2_copyFrom_26 : decode cX2_copyFrom 26 = .ok (.aload_n 0, 1) := by decide +kernel
theorem dX2_copyFrom_27 : decode cX2_copyFrom 27 = .ok (.getfield 27, 3) := by decide +kernel
theorem dX2_copyFrom_30 : decode cX2_copyFrom 30 = .ok (.invokestatic 34, 3) := by decide +kernel
theorem dX2_copyFrom_33 : decode cX2_copyFrom 33 = .ok (.aload_n 1, 1) := by decide +kernel
theorem dX2_copyFrom_34 : decode cX2_copyFrom 34 = .ok (.getfield 21, 3) := by decide +kernel
theorem dX2_copyFrom_37 : decode cX2_copyFrom 37 = .ok (.iconst 0, 1) := by decide +kernel
theorem dX2_copyFrom_38 : decode cX2_copyFrom 38 = .ok (.aload_n 0, 1) := by decide +kernel
theorem dX2_copyFrom_39 : decode cX2_copyFrom 39 = .ok (.getfield 21, 3) := by decide +kernel
theorem dX2_copyFrom_42 : decode cX2_copyFrom 42 = .ok (.iconst 0, 1) := by decide +kernel
theorem dX2_copyFrom_43 : decode cX2_copyFrom 43 = .ok (.aload_n 0, 1) := by decide +kernel
theorem dX2_copyFrom_44 : decode cX2_copyFrom 44 = .ok (.getfield 27, 3) := by decide +kernel
theorem dX2_copyFrom_47 : decode cX2_copyFrom 47 = .ok (.invokestatic 34, 3) := by decide +kernel
theorem dX2_copyFrom_50 : decode cX2_copyFrom 50 = .ok (.aload_n 1, 1) := by decide +kernel
theorem dX2_copyFrom_51 : decode cX2_copyFrom 51 = .ok (.getfield 24, 3) := by decide +kernel
theorem dX2_copyFrom_54 : decode cX2_copyFrom 54 = .ok (.iconst 0, 1) := by decide +kernel
theorem dX2_copyFrom_55 : decode cX2_copyFrom 55 = .ok (.aload_n 0, 1) := by decide +kernel
theorem dX2_copyFrom_56 : decode cX2_copyFrom 56 = .ok (.getfield 24, 3) := by decide +kernel
theorem dX2_copyFrom_59 : decode cX2_copyFrom 59 = .ok (.iconst 0, 1) := by decide +kernel
theorem dX2_copyFrom_60 : decode cX2_copyFrom 60 = .ok (.aload_n 0, 1) := by decide +kernel
theorem dX2_copyFrom_61 : decode cX2_copyFrom 61 = .ok (.getfield 27, 3) := by decide +kernel
theorem dX2_copyFrom_64 : decode cX2_copyFrom 64 = .ok (.invokestatic 34, 3) := by decide +kernel
theorem dX2_copyFrom_67 : decode cX2_copyFrom 67 = .ok (.return_, 1) := by decide +kernel
abbrev kwX2_copyFrom (cI cZ : ClassId) (q q_house q_plot q_night q1 q1_house q1_plot q1_night n_o n_a1 : Nat) (v_size : Int32) (w1_size : Int32) (v_house : (Nat → Int32)) (w1_house : (Nat → Int32)) (w1_plot : (Nat → Int32)) (v_plot : (Nat → Int32)) (w1_night : (Nat → Int32)) (v_night : (Nat → Int32)) : va_W := [(q, .inr (2, [.ref q_house, .ref q_plot, .ref q_night, .int v_size])), (q1, .inr (2, [.ref q1_house, .ref q1_plot, .ref q1_night, .int w1_size])), (q_house, .inl (cI, n_o, .inl v_house)), (q1_house, .inl (cI, n_a1, .inl w1_house)), (q1_plot, .inl (cI, n_a1, .inl w1_plot)), (q_plot, .inl (cI, n_o, .inl v_plot)), (q1_night, .inl (cI, n_a1, .inl w1_night)), (q_night, .inl (cI, n_o, .inl v_night))]
noncomputable def fX2_copyFrom (N : Nat) (n_o : Nat) (n_a1 : Nat) (w1_size : Int32) (w1_house : (Nat → Int32)) (w1_plot : (Nat → Int32)) (w1_night : (Nat → Int32)) (v_size : Int32) (v_house : (Nat → Int32)) (v_plot : (Nat → Int32)) (v_night : (Nat → Int32))  : Option (Int32 × (Nat → Int32) × (Nat → Int32) × (Nat → Int32)) := if (if (Int32.ofNat n_o) < w1_size then (Int32.ofNat n_o) else w1_size) < 0 ∨ n_a1 < ((if (Int32.ofNat n_o) < w1_size then (Int32.ofNat n_o) else w1_size)).toNatClampNeg ∨ n_o < ((if (Int32.ofNat n_o) < w1_size then (Int32.ofNat n_o) else w1_size)).toNatClampNeg then none else (if (if (Int32.ofNat n_o) < w1_size then (Int32.ofNat n_o) else w1_size) < 0 ∨ n_a1 < ((if (Int32.ofNat n_o) < w1_size then (Int32.ofNat n_o) else w1_size)).toNatClampNeg ∨ n_o < ((if (Int32.ofNat n_o) < w1_size then (Int32.ofNat n_o) else w1_size)).toNatClampNeg then none else (if (if (Int32.ofNat n_o) < w1_size then (Int32.ofNat n_o) else w1_size) < 0 ∨ n_a1 < ((if (Int32.ofNat n_o) < w1_size then (Int32.ofNat n_o) else w1_size)).toNatClampNeg ∨ n_o < ((if (Int32.ofNat n_o) < w1_size then (Int32.ofNat n_o) else w1_size)).toNatClampNeg then none else (some ((if (Int32.ofNat n_o) < w1_size then (Int32.ofNat n_o) else w1_size), (va_cpy w1_house v_house 0 0 ((if (Int32.ofNat n_o) < w1_size then (Int32.ofNat n_o) else w1_size)).toNatClampNeg), (va_cpy w1_plot v_plot 0 0 ((if (Int32.ofNat n_o) < w1_size then (Int32.ofNat n_o) else w1_size)).toNatClampNeg), (va_cpy w1_night v_night 0 0 ((if (Int32.ofNat n_o) < w1_size then (Int32.ofNat n_o) else w1_size)).toNatClampNeg)))))
set_option maxHeartbeats 4000000 in
set_option maxRecDepth 100000 in
theorem wX2_copyFrom {p : Program} {l : Launch} {e : Env} {R : Room} {s : State} {m : MethodId} {args : Array Value} {below : List Frame} {meth : Method} {c : Code} {cells slots : Nat} {Q : State → Prop} {D : va_G} {A : Nat → Prop} {cI cZ cG : ClassId} {q q_house q_plot q_night q1 q1_house q1_plot q1_night : Nat} {n_o n_a1 : Nat} {v_size : Int32} {w1_size : Int32} {v_house : (Nat → Int32)} {w1_house : (Nat → Int32)} {w1_plot : (Nat → Int32)} {v_plot : (Nat → Int32)} {w1_night : (Nat → Int32)} {v_night : (Nat → Int32)} {N : Nat} {ρ : Int32 × (Nat → Int32) × (Nat → Int32) × (Nat → Int32)} (X : CX p s m args c cX2_copyFrom 2 RX2 D (TY cI cZ cG) A) (hrm : RM R 1 40 cells slots) (ret : ∀ (pc : Nat) (H : Heap) (locs : List Loc) (ls : Array Slot), decode cX2_copyFrom pc = .ok (.return_, 1) → WD D A (kwX2_copyFrom cI cZ q q_house q_plot q_night q1 q1_house q1_plot q1_night n_o n_a1 (ρ.1) w1_size (ρ.2.1) w1_house w1_plot (ρ.2.2.1) w1_night (ρ.2.2.2)) s.heap H locs → W p l e R s m args below meth c H locs cells slots Q (F0 m pc ls [])) (h : fX2_copyFrom N n_o n_a1 w1_size w1_house w1_plot w1_night v_size v_house v_plot v_night  = some ρ) (H : Heap) (locs : List Loc) (ls : Array Slot) (hw : WD D A (kwX2_copyFrom cI cZ q q_house q_plot q_night q1 q1_house q1_plot q1_night n_o n_a1 v_size w1_size v_house w1_house w1_plot v_plot w1_night v_night) s.heap H locs) (hl : lv_has ls 2 [(0, .ref q), (1, .ref q1)]) : W p l e R s m args below meth c H locs cells slots Q (F0 m 0 ls []) := by
  have hx := X.1.1
  have hb := X.1.2.1
  unfold fX2_copyFrom at h
  refine lv_aload_n hx hb dX2_copyFrom_0 rfl (lv_at hl 0 rfl) ?_
  refine lv_aload_n hx hb dX2_copyFrom_1 rfl (lv_at hl 1 rfl) ?_
  refine kget (ci := 2) (v := .int w1_size) X hw iX2 1 rfl rfl 3 (by decide) tw_128 rfl dX2_copyFrom_2 ?_
  refine lv_aload_n hx hb dX2_copyFrom_5 rfl (lv_at hl 0 rfl) ?_
  refine kget (ci := 2) (v := .ref q_house) X hw iX2 0 rfl rfl 0 (by decide) tw_214 rfl dX2_copyFrom_6 ?_
  refine kalen (v := (Int32.ofNat n_o)) X hw 2 rfl rfl rfl dX2_copyFrom_9 ?_
  refine kmin X hl.1 tw_222 tw_87 tw_88 tw_89 (Nat.le_trans (by decide) hrm.1) (Nat.le_trans (Nat.le_of_ble_eq_true rfl) hrm.2.1) ⟨hrm.2.2.1, hrm.2.2.2⟩ dX2_copyFrom_10 ?_
  refine kput (ci := 2) (v := .int (if (Int32.ofNat n_o) < w1_size then (Int32.ofNat n_o) else w1_size)) (ty := .int) X hw iX2 tyX2_ok nmX2 0 rfl rfl 3 (by decide) tw_128 rfl rfl rfl rfl (Nat.le_of_ble_eq_true rfl) dX2_copyFrom_13 (fun H locs hw => ?_)
  have hw : WD D A (kwX2_copyFrom cI cZ q q_house q_plot q_night q1 q1_house q1_plot q1_night n_o n_a1 (if (Int32.ofNat n_o) < w1_size then (Int32.ofNat n_o) else w1_size) w1_size v_house w1_house w1_plot v_plot w1_night v_night) s.heap H locs := hw
  refine lv_aload_n hx hb dX2_copyFrom_16 rfl (lv_at hl 1 rfl) ?_
  refine kget (ci := 2) (v := .ref q1_house) X hw iX2 1 rfl rfl 0 (by decide) tw_214 rfl dX2_copyFrom_17 ?_
  refine lv_iconst (v := (0 : Int32)) hx hb dX2_copyFrom_20 (by decide) ?_
  refine lv_aload_n hx hb dX2_copyFrom_21 rfl (lv_at hl 0 rfl) ?_
  refine kget (ci := 2) (v := .ref q_house) X hw iX2 0 rfl rfl 0 (by decide) tw_214 rfl dX2_copyFrom_22 ?_
  refine lv_iconst (v := (0 : Int32)) hx hb dX2_copyFrom_25 (by decide) ?_
  refine lv_aload_n hx hb dX2_copyFrom_26 rfl (lv_at hl 0 rfl) ?_
  refine kget (ci := 2) (v := .int (if (Int32.ofNat n_o) < w1_size then (Int32.ofNat n_o) else w1_size)) X hw iX2 0 rfl rfl 3 (by decide) tw_128 rfl dX2_copyFrom_27 ?_
  obtain ⟨g_30, h⟩ := gd h
  refine kcopy X hw hl.1 tw_223 tw_142 tw_143 tw_144 3 2 rfl rfl rfl g_30 (Nat.le_trans (by decide) hrm.1) (Nat.le_trans (Nat.le_of_ble_eq_true rfl) hrm.2.1) dX2_copyFrom_30 (fun H locs hw => ?_)
  have hw : WD D A (kwX2_copyFrom cI cZ q q_house q_plot q_night q1 q1_house q1_plot q1_night n_o n_a1 (if (Int32.ofNat n_o) < w1_size then (Int32.ofNat n_o) else w1_size) w1_size (va_cpy w1_house v_house 0 0 ((if (Int32.ofNat n_o) < w1_size then (Int32.ofNat n_o) else w1_size)).toNatClampNeg) w1_house w1_plot v_plot w1_night v_night) s.heap H locs := hw
  refine lv_aload_n hx hb dX2_copyFrom_33 rfl (lv_at hl 1 rfl) ?_
  refine kget (ci := 2) (v := .ref q1_plot) X hw iX2 1 rfl rfl 1 (by decide) tw_215 rfl dX2_copyFrom_34 ?_
  refine lv_iconst (v := (0 : Int32)) hx hb dX2_copyFrom_37 (by decide) ?_
  refine lv_aload_n hx hb dX2_copyFrom_38 rfl (lv_at hl 0 rfl) ?_
  refine kget (ci := 2) (v := .ref q_plot) X hw iX2 0 rfl rfl 1 (by decide) tw_215 rfl dX2_copyFrom_39 ?_
  refine lv_iconst (v := (0 : Int32)) hx hb dX2_copyFrom_42 (by decide) ?_
  refine lv_aload_n hx hb dX2_copyFrom_43 rfl (lv_at hl 0 rfl) ?_
  refine kget (ci := 2) (v := .int (if (Int32.ofNat n_o) < w1_size then (Int32.ofNat n_o) else w1_size)) X hw iX2 0 rfl rfl 3 (by decide) tw_128 rfl dX2_copyFrom_44 ?_
  obtain ⟨g_47, h⟩ := gd h
  refine kcopy X hw hl.1 tw_223 tw_142 tw_143 tw_144 4 5 rfl rfl rfl g_47 (Nat.le_trans (by decide) hrm.1) (Nat.le_trans (Nat.le_of_ble_eq_true rfl) hrm.2.1) dX2_copyFrom_47 (fun H locs hw => ?_)
  have hw : WD D A (kwX2_copyFrom cI cZ q q_house q_plot q_night q1 q1_house q1_plot q1_night n_o n_a1 (if (Int32.ofNat n_o) < w1_size then (Int32.ofNat n_o) else w1_size) w1_size (va_cpy w1_house v_house 0 0 ((if (Int32.ofNat n_o) < w1_size then (Int32.ofNat n_o) else w1_size)).toNatClampNeg) w1_house w1_plot (va_cpy w1_plot v_plot 0 0 ((if (Int32.ofNat n_o) < w1_size then (Int32.ofNat n_o) else w1_size)).toNatClampNeg) w1_night v_night) s.heap H locs := hw
  refine lv_aload_n hx hb dX2_copyFrom_50 rfl (lv_at hl 1 rfl) ?_
  refine kget (ci := 2) (v := .ref q1_night) X hw iX2 1 rfl rfl 2 (by decide) tw_129 rfl dX2_copyFrom_51 ?_
  refine lv_iconst (v := (0 : Int32)) hx hb dX2_copyFrom_54 (by decide) ?_
  refine lv_aload_n hx hb dX2_copyFrom_55 rfl (lv_at hl 0 rfl) ?_
  refine kget (ci := 2) (v := .ref q_night) X hw iX2 0 rfl rfl 2 (by decide) tw_129 rfl dX2_copyFrom_56 ?_
  refine lv_iconst (v := (0 : Int32)) hx hb dX2_copyFrom_59 (by decide) ?_
  refine lv_aload_n hx hb dX2_copyFrom_60 rfl (lv_at hl 0 rfl) ?_
  refine kget (ci := 2) (v := .int (if (Int32.ofNat n_o) < w1_size then (Int32.ofNat n_o) else w1_size)) X hw iX2 0 rfl rfl 3 (by decide) tw_128 rfl dX2_copyFrom_61 ?_
  obtain ⟨g_64, h⟩ := gd h
  refine kcopy X hw hl.1 tw_223 tw_142 tw_143 tw_144 6 7 rfl rfl rfl g_64 (Nat.le_trans (by decide) hrm.1) (Nat.le_trans (Nat.le_of_ble_eq_true rfl) hrm.2.1) dX2_copyFrom_64 (fun H locs hw => ?_)
  have hw : WD D A (kwX2_copyFrom cI cZ q q_house q_plot q_night q1 q1_house q1_plot q1_night n_o n_a1 (if (Int32.ofNat n_o) < w1_size then (Int32.ofNat n_o) else w1_size) w1_size (va_cpy w1_house v_house 0 0 ((if (Int32.ofNat n_o) < w1_size then (Int32.ofNat n_o) else w1_size)).toNatClampNeg) w1_house w1_plot (va_cpy w1_plot v_plot 0 0 ((if (Int32.ofNat n_o) < w1_size then (Int32.ofNat n_o) else w1_size)).toNatClampNeg) w1_night (va_cpy w1_night v_night 0 0 ((if (Int32.ofNat n_o) < w1_size then (Int32.ofNat n_o) else w1_size)).toNatClampNeg)) s.heap H locs := hw
  obtain rfl := Option.some.inj h
  exact ret _ _ _ _ dX2_copyFrom_67 hw
set_option maxHeartbeats 4000000 in
set_option maxRecDepth 100000 in
theorem cX2_copyFrom_ct (l : Launch) (D : va_G) (cI cZ cG : ClassId) (q q_house q_plot q_night q1 q1_house q1_plot q1_night : Nat) (n_o n_a1 : Nat) (v_size : Int32) (w1_size : Int32) (v_house : (Nat → Int32)) (w1_house : (Nat → Int32)) (w1_plot : (Nat → Int32)) (v_plot : (Nat → Int32)) (w1_night : (Nat → Int32)) (v_night : (Nat → Int32))  (N : Nat) (ρ : Int32 × (Nat → Int32) × (Nat → Int32) × (Nat → Int32)) (h : fX2_copyFrom N n_o n_a1 w1_size w1_house w1_plot w1_night v_size v_house v_plot v_night  = some ρ) (sz : Nat) : Met l yX2_copyFrom (wz yX2_copyFrom cX2_copyFrom 2 none) (cRm 1 40) (cPre D (TY cI cZ cG) [.ref q, .ref q1] (kwX2_copyFrom cI cZ q q_house q_plot q_night q1 q1_house q1_plot q1_night n_o n_a1 v_size w1_size v_house w1_house w1_plot v_plot w1_night v_night) sz) (cQv D (kwX2_copyFrom cI cZ q q_house q_plot q_night q1 q1_house q1_plot q1_night n_o n_a1 v_size w1_size v_house w1_house w1_plot v_plot w1_night v_night) (kwX2_copyFrom cI cZ q q_house q_plot q_night q1 q1_house q1_plot q1_night n_o n_a1 (ρ.1) w1_size (ρ.2.1) w1_house w1_plot (ρ.2.2.1) w1_night (ρ.2.2.2)) sz) 0 0 (va_A (kwX2_copyFrom cI cZ q q_house q_plot q_night q1 q1_house q1_plot q1_night n_o n_a1 v_size w1_size v_house w1_house w1_plot v_plot w1_night v_night) sz) :=
  mk_v (by decide) (Nat.le_of_ble_eq_true rfl) (fun X hrm ret hw hl => wX2_copyFrom X hrm ret h _ _ _ hw hl)
theorem dX2_trueBehind_0 : decode cX2_trueBehind 0 = .ok (.iconst 0, 1) := by decide +kernel
theorem dX2_trueBehind_1 : decode cX2_trueBehind 1 = .ok (.istore_n 3, 1) := by decide +kernel
theorem dX2_trueBehind_2 : decode cX2_trueBehind 2 = .ok (.iconst 0, 1) := by decide +kernel
theorem dX2_trueBehind_3 : decode cX2_trueBehind 3 = .ok (.istore 4, 2) := by decide +kernel
theorem dX2_trueBehind_5 : decode cX2_trueBehind 5 = .ok (.iload 4, 2) := by decide +kernel
theorem dX2_trueBehind_7 : decode cX2_trueBehind 7 = .ok (.aload_n 0, 1) := by decide +kernel
theorem dX2_trueBehind_8 : decode cX2_trueBehind 8 = .ok (.getfield 27, 3) := by decide +kernel
theorem dX2_trueBehind_11 : decode cX2_trueBehind 11 = .ok (.if_icmp .ge 45, 3) := by decide +kernel
theorem dX2_trueBehind_14 : decode cX2_trueBehind 14 = .ok (.aload_n 0, 1) := by decide +kernel
theorem dX2_trueBehind_15 : decode cX2_trueBehind 15 = .ok (.getfield 24, 3) := by decide +kernel
theorem dX2_trueBehind_18 : decode cX2_trueBehind 18 = .ok (.iload 4, 2) := by decide +kernel
theorem dX2_trueBehind_20 : decode cX2_trueBehind 20 = .ok (.iaload, 1) := by decide +kernel
theorem dX2_trueBehind_21 : decode cX2_trueBehind 21 = .ok (.iload_n 1, 1) := by decide +kernel
theorem dX2_trueBehind_22 : decode cX2_trueBehind 22 = .ok (.if_icmp .ne 28, 3) := by decide +kernel
theorem dX2_trueBehind_25 : decode cX2_trueBehind 25 = .ok (.aload_n 2, 1) := by decide +kernel
theorem dX2_trueBehind_26 : decode cX2_trueBehind 26 = .ok (.getfield 40, 3) := by decide +kernel
theorem dX2_trueBehind_29 : decode cX2_trueBehind 29 = .ok (.aload_n 0, 1) := by decide +kernel
theorem dX2_trueBehind_30 : decode cX2_trueBehind 30 = .ok (.getfield 15, 3) := by decide +kernel
theorem dX2_trueBehind_33 : decode cX2_trueBehind 33 = .ok (.iload 4, 2) := by decide +kernel
theorem dX2_trueBehind_35 : decode cX2_trueBehind 35 = .ok (.iaload, 1) := by decide +kernel
theorem dX2_trueBehind_36 : decode cX2_trueBehind 36 = .ok (.iaload, 1) := by decide +kernel
theorem dX2_trueBehind_37 : decode cX2_trueBehind 37 = .ok (.aload_n 0, 1) := by decide +kernel
theorem dX2_trueBehind_38 : decode cX2_trueBehind 38 = .ok (.getfield 21, 3) := by decide +kernel
theorem dX2_trueBehind_41 : decode cX2_trueBehind 41 = .ok (.iload 4, 2) := by decide +kernel
theorem dX2_trueBehind_43 : decode cX2_trueBehind 43 = .ok (.iaload, 1) := by decide +kernel
theorem dX2_trueBehind_44 : decode cX2_trueBehind 44 = .ok (.if_icmp .ne 6, 3) := by decide +kernel
theorem dX2_trueBehind_47 : decode cX2_trueBehind 47 = .ok (.iinc 3 1, 3) := by decide +kernel
theorem dX2_trueBehind_50 : decode cX2_trueBehind 50 = .ok (.iinc 4 1, 3) := by decide +kernel
theorem dX2_trueBehind_53 : decode cX2_trueBehind 53 = .ok (.goto (-48), 3) := by decide +kernel
theorem dX2_trueBehind_56 : decode cX2_trueBehind 56 = .ok (.iload_n 3, 1) := by decide +kernel
theorem dX2_trueBehind_57 : decode cX2_trueBehind 57 = .ok (.ireturn, 1) := by decide +kernel
abbrev kwX2_trueBehind (cI cZ : ClassId) (q q_house q_plot q_night q2 q2_kindOf q2_plotOf q2_row q2_standsOn n_o : Nat) (v_size : Int32) (v_night : (Nat → Int32)) (w2_houses : Int32) (w2_front : Int32) (w2_downFor : Int32) (v_house : (Nat → Int32)) (w2_plotOf : (Nat → Int32)) (v_plot : (Nat → Int32)) : va_W := [(q, .inr (2, [.ref q_house, .ref q_plot, .ref q_night, .int v_size])), (q_night, .inl (cI, n_o, .inl v_night)), (q2, .inr (6, [.ref q2_kindOf, .ref q2_plotOf, .ref q2_row, .ref q2_standsOn, .int w2_houses, .int w2_front, .int w2_downFor])), (q_house, .inl (cI, n_o, .inl v_house)), (q2_plotOf, .inl (cI, 6, .inl w2_plotOf)), (q_plot, .inl (cI, n_o, .inl v_plot))]
noncomputable def fX2_trueBehind_5 (N : Nat) (n_o : Nat) (v_size : Int32) (v_night : (Nat → Int32)) (v_house : (Nat → Int32)) (w2_plotOf : (Nat → Int32)) (v_plot : (Nat → Int32)) (a1 : Int32)  (K_5 : Int32 → Int32 → Option (Int32)) (l3 : Int32) (l4 : Int32) : Option (Int32) := if v_size ≤ l4 then (some l3) else (if l4 < 0 ∨ n_o ≤ (l4).toNatClampNeg then none else (if (v_night (l4).toNatClampNeg) = a1 then (if l4 < 0 ∨ n_o ≤ (l4).toNatClampNeg then none else (if (v_house (l4).toNatClampNeg) < 0 ∨ 6 ≤ ((v_house (l4).toNatClampNeg)).toNatClampNeg then none else (if l4 < 0 ∨ n_o ≤ (l4).toNatClampNeg then none else (if (w2_plotOf ((v_house (l4).toNatClampNeg)).toNatClampNeg) = (v_plot (l4).toNatClampNeg) then (K_5 (l3 + (1 : Int32)) (l4 + (1 : Int32))) else (K_5 l3 (l4 + (1 : Int32))))))) else (K_5 l3 (l4 + (1 : Int32)))))
noncomputable def fX2_trueBehind (N : Nat) (n_o : Nat) (v_size : Int32) (v_night : (Nat → Int32)) (v_house : (Nat → Int32)) (w2_plotOf : (Nat → Int32)) (v_plot : (Nat → Int32)) (a1 : Int32)   : Option (Int32) := lfix (fun (K : Int32 × Int32 → Option (Int32)) (a : Int32 × Int32) => fX2_trueBehind_5 N n_o v_size v_night v_house w2_plotOf v_plot a1 (fun (l3 : Int32) (l4 : Int32) => K (l3, l4)) a.1 a.2) N ((0 : Int32), (0 : Int32))
set_option maxHeartbeats 4000000 in
set_option maxRecDepth 100000 in
theorem wX2_trueBehind_5 {p : Program} {l : Launch} {e : Env} {R : Room} {s : State} {m : MethodId} {args : Array Value} {below : List Frame} {meth : Method} {c : Code} {cells slots : Nat} {Q : State → Prop} {D : va_G} {A : Nat → Prop} {cI cZ cG : ClassId} {q q_house q_plot q_night q2 q2_kindOf q2_plotOf q2_row q2_standsOn : Nat} {n_o : Nat} {v_size : Int32} {v_night : (Nat → Int32)} {w2_houses : Int32} {w2_front : Int32} {w2_downFor : Int32} {v_house : (Nat → Int32)} {w2_plotOf : (Nat → Int32)} {v_plot : (Nat → Int32)} {a1 : Int32} {N : Nat} {ρ : Int32} (X : CX p s m args c cX2_trueBehind 5 RX2 D (TY cI cZ cG) A) (hrm : RM R 0 0 cells slots) (ret : ∀ (pc : Nat) (H : Heap) (locs : List Loc) (ls : Array Slot), decode cX2_trueBehind pc = .ok (.ireturn, 1) → WD D A (kwX2_trueBehind cI cZ q q_house q_plot q_night q2 q2_kindOf q2_plotOf q2_row q2_standsOn n_o v_size v_night w2_houses w2_front w2_downFor v_house w2_plotOf v_plot) s.heap H locs → W p l e R s m args below meth c H locs cells slots Q (F0 m pc ls [.int ρ]))  : ∀ (n : Nat) (a : Int32 × Int32), lfix (fun (K : Int32 × Int32 → Option (Int32)) (a : Int32 × Int32) => fX2_trueBehind_5 N n_o v_size v_night v_house w2_plotOf v_plot a1 (fun (l3 : Int32) (l4 : Int32) => K (l3, l4)) a.1 a.2) n a = some ρ → (fun (l3 : Int32) (l4 : Int32) => ∀ (H : Heap) (locs : List Loc) (ls : Array Slot), WD D A (kwX2_trueBehind cI cZ q q_house q_plot q_night q2 q2_kindOf q2_plotOf q2_row q2_standsOn n_o v_size v_night w2_houses w2_front w2_downFor v_house w2_plotOf v_plot) s.heap H locs → lv_has ls 5 [(0, .ref q), (1, .int a1), (2, .ref q2), (3, .int l3), (4, .int l4)] → W p l e R s m args below meth c H locs cells slots Q (F0 m 5 ls [])) (a.1) (a.2) := by
  have hx := X.1.1
  have hb := X.1.2.1
  refine lfix_W (fun K hK a h => ?_)
  obtain ⟨l3, l4⟩ := a
  intro H locs ls hw hl
  have h : fX2_trueBehind_5 N n_o v_size v_night v_house w2_plotOf v_plot a1 (fun (l3 : Int32) (l4 : Int32) => K (l3, l4)) l3 l4 = some ρ := h
  have hK_5 : ∀ (l3 : Int32) (l4 : Int32), (fun (l3 : Int32) (l4 : Int32) => K (l3, l4)) l3 l4 = some ρ → ∀ (H : Heap) (locs : List Loc) (ls : Array Slot), WD D A (kwX2_trueBehind cI cZ q q_house q_plot q_night q2 q2_kindOf q2_plotOf q2_row q2_standsOn n_o v_size v_night w2_houses w2_front w2_downFor v_house w2_plotOf v_plot) s.heap H locs → lv_has ls 5 [(0, .ref q), (1, .int a1), (2, .ref q2), (3, .int l3), (4, .int l4)] → W p l e R s m args below meth c H locs cells slots Q (F0 m 5 ls []) := fun l3 l4 h => hK (l3, l4) h
  generalize (fun (l3 : Int32) (l4 : Int32) => K (l3, l4)) = K_5 at h hK_5
  have hw : WD D A (kwX2_trueBehind cI cZ q q_house q_plot q_night q2 q2_kindOf q2_plotOf q2_row q2_standsOn n_o v_size v_night w2_houses w2_front w2_downFor v_house w2_plotOf v_plot) s.heap H locs := hw
  have hl : lv_has ls 5 [(0, .ref q), (1, .int a1), (2, .ref q2), (3, .int l3), (4, .int l4)] := hl
  unfold fX2_trueBehind_5 at h
  refine lv_iload hx hb dX2_trueBehind_5 (lv_at hl 4 rfl) ?_
  refine lv_aload_n hx hb dX2_trueBehind_7 rfl (lv_at hl 0 rfl) ?_
  refine kget (ci := 2) (v := .int v_size) X hw iX2 0 rfl rfl 3 (by decide) tw_128 rfl dX2_trueBehind_8 ?_
  refine lv_icmp_ge (tgt := 56) hx hb dX2_trueBehind_11 (by decide) (fun c_11 => ?_) (fun c_11 => ?_)
  · have h := ift c_11 h
    refine lv_iload_n hx hb dX2_trueBehind_56 rfl (lv_at hl 3 rfl) ?_
    obtain rfl := Option.some.inj h
    exact ret _ _ _ _ dX2_trueBehind_57 hw
  · have h := iff_ c_11 h
    refine lv_aload_n hx hb dX2_trueBehind_14 rfl (lv_at hl 0 rfl) ?_
    refine kget (ci := 2) (v := .ref q_night) X hw iX2 0 rfl rfl 2 (by decide) tw_129 rfl dX2_trueBehind_15 ?_
    refine lv_iload hx hb dX2_trueBehind_18 (lv_at hl 4 rfl) ?_
    obtain ⟨g_20, h⟩ := gd h
    refine kiald X hw 1 rfl rfl g_20 dX2_trueBehind_20 ?_
    refine lv_iload_n hx hb dX2_trueBehind_21 rfl (lv_at hl 1 rfl) ?_
    refine lv_icmp_ne (tgt := 50) hx hb dX2_trueBehind_22 (by decide) (fun c_22 => ?_) (fun c_22 => ?_)
    · have h := iff_ c_22 h
      refine lv_iinc (v := (l4 + (1 : Int32))) (lv' := [(4, .int (l4 + (1 : Int32))), (0, .ref q), (1, .int a1), (2, .ref q2), (3, .int l3)]) hx hb dX2_trueBehind_50 hl (k := 4) rfl (congrArg (l4 + ·) (by decide)) (by decide) rfl (fun ls hl => ?_)
      refine lv_goto (tgt := 5) hx hb dX2_trueBehind_53 (by decide) ?_
      exact hK_5 _ _ h _ _ _ hw (lv_sub hl [1, 2, 3, 4, 0] rfl)
    · have h := ift c_22 h
      refine lv_aload_n hx hb dX2_trueBehind_25 rfl (lv_at hl 2 rfl) ?_
      refine kget (ci := 6) (v := .ref q2_plotOf) X hw iX6 2 rfl rfl 1 (by decide) tw_227 rfl dX2_trueBehind_26 ?_
      refine lv_aload_n hx hb dX2_trueBehind_29 rfl (lv_at hl 0 rfl) ?_
      refine kget (ci := 2) (v := .ref q_house) X hw iX2 0 rfl rfl 0 (by decide) tw_214 rfl dX2_trueBehind_30 ?_
      refine lv_iload hx hb dX2_trueBehind_33 (lv_at hl 4 rfl) ?_
      obtain ⟨g_35, h⟩ := gd h
      refine kiald X hw 3 rfl rfl g_35 dX2_trueBehind_35 ?_
      obtain ⟨g_36, h⟩ := gd h
      refine kiald X hw 4 rfl rfl g_36 dX2_trueBehind_36 ?_
      refine lv_aload_n hx hb dX2_trueBehind_37 rfl (lv_at hl 0 rfl) ?_
      refine kget (ci := 2) (v := .ref q_plot) X hw iX2 0 rfl rfl 1 (by decide) tw_215 rfl dX2_trueBehind_38 ?_
      refine lv_iload hx hb dX2_trueBehind_41 (lv_at hl 4 rfl) ?_
      obtain ⟨g_43, h⟩ := gd h
      refine kiald X hw 5 rfl rfl g_43 dX2_trueBehind_43 ?_
      refine lv_icmp_ne (tgt := 50) hx hb dX2_trueBehind_44 (by decide) (fun c_44 => ?_) (fun c_44 => ?_)
      · have h := iff_ c_44 h
        refine lv_iinc (v := (l4 + (1 : Int32))) (lv' := [(4, .int (l4 + (1 : Int32))), (0, .ref q), (1, .int a1), (2, .ref q2), (3, .int l3)]) hx hb dX2_trueBehind_50 hl (k := 4) rfl (congrArg (l4 + ·) (by decide)) (by decide) rfl (fun ls hl => ?_)
        refine lv_goto (tgt := 5) hx hb dX2_trueBehind_53 (by decide) ?_
        exact hK_5 _ _ h _ _ _ hw (lv_sub hl [1, 2, 3, 4, 0] rfl)
      · have h := ift c_44 h
        refine lv_iinc (v := (l3 + (1 : Int32))) (lv' := [(3, .int (l3 + (1 : Int32))), (0, .ref q), (1, .int a1), (2, .ref q2), (4, .int l4)]) hx hb dX2_trueBehind_47 hl (k := 3) rfl (congrArg (l3 + ·) (by decide)) (by decide) rfl (fun ls hl => ?_)
        refine lv_iinc (v := (l4 + (1 : Int32))) (lv' := [(4, .int (l4 + (1 : Int32))), (3, .int (l3 + (1 : Int32))), (0, .ref q), (1, .int a1), (2, .ref q2)]) hx hb dX2_trueBehind_50 hl (k := 4) rfl (congrArg (l4 + ·) (by decide)) (by decide) rfl (fun ls hl => ?_)
        refine lv_goto (tgt := 5) hx hb dX2_trueBehind_53 (by decide) ?_
        exact hK_5 _ _ h _ _ _ hw (lv_sub hl [2, 3, 4, 1, 0] rfl)
set_option maxHeartbeats 4000000 in
set_option maxRecDepth 100000 in
theorem wX2_trueBehind {p : Program} {l : Launch} {e : Env} {R : Room} {s : State} {m : MethodId} {args : Array Value} {below : List Frame} {meth : Method} {c : Code} {cells slots : Nat} {Q : State → Prop} {D : va_G} {A : Nat → Prop} {cI cZ cG : ClassId} {q q_house q_plot q_night q2 q2_kindOf q2_plotOf q2_row q2_standsOn : Nat} {n_o : Nat} {v_size : Int32} {v_night : (Nat → Int32)} {w2_houses : Int32} {w2_front : Int32} {w2_downFor : Int32} {v_house : (Nat → Int32)} {w2_plotOf : (Nat → Int32)} {v_plot : (Nat → Int32)} {a1 : Int32} {N : Nat} {ρ : Int32} (X : CX p s m args c cX2_trueBehind 5 RX2 D (TY cI cZ cG) A) (hrm : RM R 0 0 cells slots) (ret : ∀ (pc : Nat) (H : Heap) (locs : List Loc) (ls : Array Slot), decode cX2_trueBehind pc = .ok (.ireturn, 1) → WD D A (kwX2_trueBehind cI cZ q q_house q_plot q_night q2 q2_kindOf q2_plotOf q2_row q2_standsOn n_o v_size v_night w2_houses w2_front w2_downFor v_house w2_plotOf v_plot) s.heap H locs → W p l e R s m args below meth c H locs cells slots Q (F0 m pc ls [.int ρ])) (h : fX2_trueBehind N n_o v_size v_night v_house w2_plotOf v_plot a1   = some ρ) (H : Heap) (locs : List Loc) (ls : Array Slot) (hw : WD D A (kwX2_trueBehind cI cZ q q_house q_plot q_night q2 q2_kindOf q2_plotOf q2_row q2_standsOn n_o v_size v_night w2_houses w2_front w2_downFor v_house w2_plotOf v_plot) s.heap H locs) (hl : lv_has ls 5 [(0, .ref q), (1, .int a1), (2, .ref q2)]) : W p l e R s m args below meth c H locs cells slots Q (F0 m 0 ls []) := by
  have hx := X.1.1
  have hb := X.1.2.1
  unfold fX2_trueBehind at h
  refine lv_iconst (v := (0 : Int32)) hx hb dX2_trueBehind_0 (by decide) ?_
  refine lv_istore_n (lv' := [(3, .int (0 : Int32)), (0, .ref q), (1, .int a1), (2, .ref q2)]) hx hb dX2_trueBehind_1 rfl hl (by decide) rfl (fun ls hl => ?_)
  refine lv_iconst (v := (0 : Int32)) hx hb dX2_trueBehind_2 (by decide) ?_
  refine lv_istore (lv' := [(4, .int (0 : Int32)), (3, .int (0 : Int32)), (0, .ref q), (1, .int a1), (2, .ref q2)]) hx hb dX2_trueBehind_3 hl (by decide) rfl (fun ls hl => ?_)
  exact wX2_trueBehind_5 X hrm ret  _ _ h _ _ _ hw (lv_sub hl [2, 3, 4, 1, 0] rfl)
set_option maxHeartbeats 4000000 in
set_option maxRecDepth 100000 in
theorem cX2_trueBehind_ct (l : Launch) (D : va_G) (cI cZ cG : ClassId) (q q_house q_plot q_night q2 q2_kindOf q2_plotOf q2_row q2_standsOn : Nat) (n_o : Nat) (v_size : Int32) (v_night : (Nat → Int32)) (w2_houses : Int32) (w2_front : Int32) (w2_downFor : Int32) (v_house : (Nat → Int32)) (w2_plotOf : (Nat → Int32)) (v_plot : (Nat → Int32)) (a1 : Int32) (N : Nat) (ρ : Int32) (h : fX2_trueBehind N n_o v_size v_night v_house w2_plotOf v_plot a1   = some ρ) (sz : Nat) : Met l yX2_trueBehind (wz yX2_trueBehind cX2_trueBehind 5 (some .int)) (cRm 0 0) (cPre D (TY cI cZ cG) [.ref q, .int a1, .ref q2] (kwX2_trueBehind cI cZ q q_house q_plot q_night q2 q2_kindOf q2_plotOf q2_row q2_standsOn n_o v_size v_night w2_houses w2_front w2_downFor v_house w2_plotOf v_plot) sz) (cQi D (ρ) (kwX2_trueBehind cI cZ q q_house q_plot q_night q2 q2_kindOf q2_plotOf q2_row q2_standsOn n_o v_size v_night w2_houses w2_front w2_downFor v_house w2_plotOf v_plot) (kwX2_trueBehind cI cZ q q_house q_plot q_night q2 q2_kindOf q2_plotOf q2_row q2_standsOn n_o v_size v_night w2_houses w2_front w2_downFor v_house w2_plotOf v_plot) sz) 0 0 (va_A (kwX2_trueBehind cI cZ q q_house q_plot q_night q2 q2_kindOf q2_plotOf q2_row q2_standsOn n_o v_size v_night w2_houses w2_front w2_downFor v_house w2_plotOf v_plot) sz) :=
  mk_i (by decide) (Nat.le_of_ble_eq_true rfl) (fun X hrm ret hw hl => wX2_trueBehind X hrm ret h _ _ _ hw hl)
theorem dX3_write_0 : decode cX3_write 0 = .ok (.aload_n 0, 1) := by decide +kernel
theorem dX3_write_1 : decode cX3_write 1 = .ok (.getfield 15, 3) := by decide +kernel
theorem dX3_write_4 : decode cX3_write 4 = .ok (.bipush 32, 2) := by decide +kernel
theorem dX3_write_6 : decode cX3_write 6 = .ok (.if_icmp .ge 23, 3) := by decide +kernel
theorem dX3_write_9 : decode cX3_write 9 = .ok (.aload_n 0, 1) := by decide +kernel
theorem dX3_write_10 : decode cX3_write 10 = .ok (.getfield 9, 3) := by decide +kernel
theorem dX3_write_13 : decode cX3_write 13 = .ok (.aload_n 0, 1) := by decide +kernel
theorem dX3_write_14 : decode cX3_write 14 = .ok (.getfield 15, 3) := by decide +kernel
theorem dX3_write_17 : decode cX3_write 17 = .ok (.iload_n 1, 1) := by decide +kernel
theorem dX3_write_18 : decode cX3_write 18 = .ok (.iastore, 1) := by decide +kernel
theorem dX3_write_19 : decode cX3_write 19 = .ok (.aload_n 0, 1) := by decide +kernel
theorem dX3_write_20 : decode cX3_write 20 = .ok (.dup, 1) := by decide +kernel
theorem dX3_write_21 : decode cX3_write 21 = .ok (.getfield 15, 3) := by decide +kernel
theorem dX3_write_24 : decode cX3_write 24 = .ok (.iconst 1, 1) := by decide +kernel
theorem dX3_write_25 : decode cX3_write 25 = .ok (.iadd, 1) := by decide +kernel
theorem dX3_write_26 : decode cX3_write 26 = .ok (.putfield 15, 3) := by decide +kernel
theorem dX3_write_29 : decode cX3_write 29 = .ok (.return_, 1) := by decide +kernel
abbrev kwX3_write (cI cZ : ClassId) (q q_letters : Nat) (v_size : Int32) (v_letters : (Nat → Int32)) : va_W := [(q, .inr (3, [.ref q_letters, .int v_size])), (q_letters, .inl (cI, 32, .inl v_letters))]
noncomputable def fX3_write (N : Nat) (a1 : Int32) (v_size : Int32) (v_letters : (Nat → Int32))  : Option (Int32 × (Nat → Int32)) := if (32 : Int32) ≤ v_size then (some (v_size, v_letters)) else (if v_size < 0 ∨ 32 ≤ (v_size).toNatClampNeg then none else (some ((v_size + (1 : Int32)), (upd v_letters (v_size).toNatClampNeg a1))))
set_option maxHeartbeats 4000000 in
set_option maxRecDepth 100000 in
theorem wX3_write {p : Program} {l : Launch} {e : Env} {R : Room} {s : State} {m : MethodId} {args : Array Value} {below : List Frame} {meth : Method} {c : Code} {cells slots : Nat} {Q : State → Prop} {D : va_G} {A : Nat → Prop} {cI cZ cG : ClassId} {q q_letters : Nat} {v_size : Int32} {v_letters : (Nat → Int32)} {a1 : Int32} {N : Nat} {ρ : Int32 × (Nat → Int32)} (X : CX p s m args c cX3_write 2 RX3 D (TY cI cZ cG) A) (hrm : RM R 0 0 cells slots) (ret : ∀ (pc : Nat) (H : Heap) (locs : List Loc) (ls : Array Slot), decode cX3_write pc = .ok (.return_, 1) → WD D A (kwX3_write cI cZ q q_letters (ρ.1) (ρ.2)) s.heap H locs → W p l e R s m args below meth c H locs cells slots Q (F0 m pc ls [])) (h : fX3_write N a1 v_size v_letters  = some ρ) (H : Heap) (locs : List Loc) (ls : Array Slot) (hw : WD D A (kwX3_write cI cZ q q_letters v_size v_letters) s.heap H locs) (hl : lv_has ls 2 [(0, .ref q), (1, .int a1)]) : W p l e R s m args below meth c H locs cells slots Q (F0 m 0 ls []) := by
  have hx := X.1.1
  have hb := X.1.2.1
  unfold fX3_write at h
  refine lv_aload_n hx hb dX3_write_0 rfl (lv_at hl 0 rfl) ?_
  refine kget (ci := 3) (v := .int v_size) X hw iX3 0 rfl rfl 1 (by decide) tw_85 rfl dX3_write_1 ?_
  refine lv_bipush (v := (32 : Int32)) hx hb dX3_write_4 (by decide) ?_
  refine lv_icmp_ge (tgt := 29) hx hb dX3_write_6 (by decide) (fun c_6 => ?_) (fun c_6 => ?_)
  · have h := ift c_6 h
    obtain rfl := Option.some.inj h
    exact ret _ _ _ _ dX3_write_29 hw
  · have h := iff_ c_6 h
    refine lv_aload_n hx hb dX3_write_9 rfl (lv_at hl 0 rfl) ?_
    refine kget (ci := 3) (v := .ref q_letters) X hw iX3 0 rfl rfl 0 (by decide) tw_94 rfl dX3_write_10 ?_
    refine lv_aload_n hx hb dX3_write_13 rfl (lv_at hl 0 rfl) ?_
    refine kget (ci := 3) (v := .int v_size) X hw iX3 0 rfl rfl 1 (by decide) tw_85 rfl dX3_write_14 ?_
    refine lv_iload_n hx hb dX3_write_17 rfl (lv_at hl 1 rfl) ?_
    obtain ⟨g_18, h⟩ := gd h
    refine kiast X hw 1 rfl rfl g_18 dX3_write_18 (fun H locs hw => ?_)
    have hw : WD D A (kwX3_write cI cZ q q_letters v_size (upd v_letters (v_size).toNatClampNeg a1)) s.heap H locs := hw
    refine lv_aload_n hx hb dX3_write_19 rfl (lv_at hl 0 rfl) ?_
    refine lv_dup hx hb dX3_write_20 rfl ?_
    refine kget (ci := 3) (v := .int v_size) X hw iX3 0 rfl rfl 1 (by decide) tw_85 rfl dX3_write_21 ?_
    refine lv_iconst (v := (1 : Int32)) hx hb dX3_write_24 (by decide) ?_
    refine lv_iadd hx hb dX3_write_25 ?_
    refine kput (ci := 3) (v := .int (v_size + (1 : Int32))) (ty := .int) X hw iX3 tyX3_ok nmX3 0 rfl rfl 1 (by decide) tw_85 rfl rfl rfl rfl (Nat.le_of_ble_eq_true rfl) dX3_write_26 (fun H locs hw => ?_)
    have hw : WD D A (kwX3_write cI cZ q q_letters (v_size + (1 : Int32)) (upd v_letters (v_size).toNatClampNeg a1)) s.heap H locs := hw
    obtain rfl := Option.some.inj h
    exact ret _ _ _ _ dX3_write_29 hw
set_option maxHeartbeats 4000000 in
set_option maxRecDepth 100000 in
theorem cX3_write_ct (l : Launch) (D : va_G) (cI cZ cG : ClassId) (q q_letters : Nat)  (v_size : Int32) (v_letters : (Nat → Int32)) (a1 : Int32) (N : Nat) (ρ : Int32 × (Nat → Int32)) (h : fX3_write N a1 v_size v_letters  = some ρ) (sz : Nat) : Met l yX3_write (wz yX3_write cX3_write 2 none) (cRm 0 0) (cPre D (TY cI cZ cG) [.ref q, .int a1] (kwX3_write cI cZ q q_letters v_size v_letters) sz) (cQv D (kwX3_write cI cZ q q_letters v_size v_letters) (kwX3_write cI cZ q q_letters (ρ.1) (ρ.2)) sz) 0 0 (va_A (kwX3_write cI cZ q q_letters v_size v_letters) sz) :=
  mk_v (by decide) (Nat.le_of_ble_eq_true rfl) (fun X hrm ret hw hl => wX3_write X hrm ret h _ _ _ hw hl)

abbrev kwX3_kindBy (cI cZ : ClassId) : va_W := []
noncomputable def fX3_kindBy (N : Nat) (a0 : Int32)   : Option (Int32) := none
set_option maxHeartbeats 4000000 in
set_option maxRecDepth 100000 in
theorem wX3_kindBy {p : Program} {l : Launch} {e : Env} {R : Room} {s : State} {m : MethodId} {args : Array Value} {below : List Frame} {meth : Method} {c : Code} {cells slots : Nat} {Q : State → Prop} {D : va_G} {A : Nat → Prop} {cI cZ cG : ClassId} {a0 : Int32} {N : Nat} {ρ : Int32} (X : CX p s m args c cX3_kindBy 1 RX3 D (TY cI cZ cG) A) (hrm : RM R 0 0 cells slots) (ret : ∀ (pc : Nat) (H : Heap) (locs : List Loc) (ls : Array Slot), decode cX3_kindBy pc = .ok (.ireturn, 1) → WD D A (kwX3_kindBy cI cZ) s.heap H locs → W p l e R s m args below meth c H locs cells slots Q (F0 m pc ls [.int ρ])) (h : fX3_kindBy N a0   = some ρ) (H : Heap) (locs : List Loc) (ls : Array Slot) (hw : WD D A (kwX3_kindBy cI cZ) s.heap H locs) (hl : lv_has ls 1 [(0, .int a0)]) : W p l e R s m args below meth c H locs cells slots Q (F0 m 0 ls []) := by
  have hx := X.1.1
  have hb := X.1.2.1
  unfold fX3_kindBy at h
  exact nn h
set_option maxHeartbeats 4000000 in
set_option maxRecDepth 100000 in
theorem cX3_kindBy_ct (l : Launch) (D : va_G) (cI cZ cG : ClassId)    (a0 : Int32) (N : Nat) (ρ : Int32) (h : fX3_kindBy N a0   = some ρ) (sz : Nat) : Met l yX3_kindBy (wz yX3_kindBy cX3_kindBy 1 (some .int)) (cRm 0 0) (cPre D (TY cI cZ cG) [.int a0] (kwX3_kindBy cI cZ) sz) (cQi D (ρ) (kwX3_kindBy cI cZ) (kwX3_kindBy cI cZ) sz) 0 0 (va_A (kwX3_kindBy cI cZ) sz) :=
  mk_i (by decide) (Nat.le_of_ble_eq_true rfl) (fun X hrm ret hw hl => wX3_kindBy X hrm ret h _ _ _ hw hl)
