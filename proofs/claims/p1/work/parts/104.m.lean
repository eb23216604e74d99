theorem dX7_close_0 : decode cX7_close 0 = .ok (.aload_n 0, 1) := by decide +kernel
theorem dX7_close_1 : decode cX7_close 1 = .ok (.iconst 0, 1) := by decide +kernel
theorem dX7_close_2 : decode cX7_close 2 = .ok (.putfield 22, 3) := by decide +kernel
theorem dX7_close_5 : decode cX7_close 5 = .ok (.iconst 0, 1) := by decide +kernel
theorem dX7_close_6 : decode cX7_close 6 = .ok (.istore_n 3, 1) := by decide +kernel
theorem dX7_close_7 : decode cX7_close 7 = .ok (.iload_n 3, 1) := by decide +kernel
theorem dX7_close_8 : decode cX7_close 8 = .ok (.aload_n 1, 1) := by decide +kernel
theorem dX7_close_9 : decode cX7_close 9 = .ok (.getfield 26, 3) := by decide +kernel
theorem dX7_close_12 : decode cX7_close 12 = .ok (.if_icmp .ge 35, 3) := by decide +kernel
theorem dX7_close_15 : decode cX7_close 15 = .ok (.aload_n 0, 1) := by decide +kernel
theorem dX7_close_16 : decode cX7_close 16 = .ok (.getfield 9, 3) := by decide +kernel
theorem dX7_close_19 : decode cX7_close 19 = .ok (.iload_n 3, 1) := by decide +kernel
theorem dX7_close_20 : decode cX7_close 20 = .ok (.iconst (-1), 1) := by decide +kernel
theorem dX7_close_21 : decode cX7_close 21 = .ok (.iastore, 1) := by decide +kernel
theorem dX7_close_22 : decode cX7_close 22 = .ok (.aload_n 0, 1) := by decide +kernel
theorem dX7_close_23 : decode cX7_close 23 = .ok (.getfield 18, 3) := by decide +kernel
theorem dX7_close_26 : decode cX7_close 26 = .ok (.iload_n 3, 1) := by decide +kernel
theorem dX7_close_27 : decode cX7_close 27 = .ok (.aload_n 1, 1) := by decide +kernel
theorem dX7_close_28 : decode cX7_close 28 = .ok (.iload_n 3, 1) := by decide +kernel
theorem dX7_close_29 : decode cX7_close 29 = .ok (.invokevirtual 31, 3) := by decide +kernel
theorem dX7_close_32 : decode cX7_close 32 = .ok (.ifCond .ne 7, 3) := by decide +kernel
theorem dX7_close_35 : decode cX7_close 35 = .ok (.iconst 1, 1) := by decide +kernel
theorem dX7_close_36 : decode cX7_close 36 = .ok (.goto 4, 3) := by decide +kernel
theorem dX7_close_39 : decode cX7_close 39 = .ok (.iconst 0, 1) := by decide +kernel
theorem dX7_close_40 : decode cX7_close 40 = .ok (.bastore, 1) := by decide +kernel
theorem dX7_close_41 : decode cX7_close 41 = .ok (.iinc 3 1, 3) := by decide +kernel
theorem dX7_close_44 : decode cX7_close 44 = .ok (.goto (-37), 3) := by decide +kernel
theorem dX7_close_47 : decode cX7_close 47 = .ok (.iconst 0, 1) := by decide +kernel
theorem dX7_close_48 : decode cX7_close 48 = .ok (.istore_n 3, 1) := by decide +kernel
theorem dX7_close_49 : decode cX7_close 49 = .ok (.iload_n 3, 1) := by decide +kernel
theorem dX7_close_50 : decode cX7_close 50 = .ok (.aload_n 1, 1) := by decide +kernel
theorem dX7_close_51 : decode cX7_close 51 = .ok (.getfield 26, 3) := by decide +kernel
theorem dX7_close_54 : decode cX7_close 54 = .ok (.if_icmp .ge 47, 3) := by decide +kernel
theorem dX7_close_57 : decode cX7_close 57 = .ok (.aload_n 0, 1) := by decide +kernel
theorem dX7_close_58 : decode cX7_close 58 = .ok (.aload_n 1, 1) := by decide +kernel
theorem dX7_close_59 : decode cX7_close 59 = .ok (.getfield 26, 3) := by decide +kernel
theorem dX7_close_62 : decode cX7_close 62 = .ok (.invokevirtual 35, 3) := by decide +kernel
theorem dX7_close_65 : decode cX7_close 65 = .ok (.istore 4, 2) := by decide +kernel
theorem dX7_close_67 : decode cX7_close 67 = .ok (.iload 4, 2) := by decide +kernel
theorem dX7_close_69 : decode cX7_close 69 = .ok (.iconst (-1), 1) := by decide +kernel
theorem dX7_close_70 : decode cX7_close 70 = .ok (.if_icmp .ne 4, 3) := by decide +kernel
theorem dX7_close_73 : decode cX7_close 73 = .ok (.return_, 1) := by decide +kernel
theorem dX7_close_74 : decode cX7_close 74 = .ok (.aload_n 0, 1) := by decide +kernel
theorem dX7_close_75 : decode cX7_close 75 = .ok (.aload_n 1, 1) := by decide +kernel
theorem dX7_close_76 : decode cX7_close 76 = .ok (.aload_n 2, 1) := by decide +kernel
theorem dX7_close_77 : decode cX7_close 77 = .ok (.invokevirtual 39, 3) := by decide +kernel
theorem dX7_close_80 : decode cX7_close 80 = .ok (.aload_n 0, 1) := by decide +kernel
theorem dX7_close_81 : decode cX7_close 81 = .ok (.aload_n 0, 1) := by decide +kernel
theorem dX7_close_82 : decode cX7_close 82 = .ok (.iload 4, 2) := by decide +kernel
theorem dX7_close_84 : decode cX7_close 84 = .ok (.aload_n 1, 1) := by decide +kernel
theorem dX7_close_85 : decode cX7_close 85 = .ok (.getfield 26, 3) := by decide +kernel
theorem dX7_close_88 : decode cX7_close 88 = .ok (.invokevirtual 43, 3) := by decide +kernel
theorem dX7_close_91 : decode cX7_close 91 = .ok (.aload_n 1, 1) := by decide +kernel
theorem dX7_close_92 : decode cX7_close 92 = .ok (.invokevirtual 47, 3) := by decide +kernel
theorem dX7_close_95 : decode cX7_close 95 = .ok (.iinc 3 1, 3) := by decide +kernel
theorem dX7_close_98 : decode cX7_close 98 = .ok (.goto (-49), 3) := by decide +kernel
theorem dX7_close_101 : decode cX7_close 101 = .ok (.return_, 1) := by decide +kernel
abbrev kwX7_close (cI cZ : ClassId) (q q_gets q_pointsTo q_isLeft q1 q1_kindOf q1_plotOf q1_row q1_standsOn q2 q2_worth q2_liked : Nat) (v_rings : Int32) (w1_houses : Int32) (w1_front : Int32) (w1_downFor : Int32) (v_gets : (Nat → Int32)) (w1_plotOf : (Nat → Int32)) (v_isLeft : (Nat → Int32)) (w2_houses : Int32) (w2_liked : (Nat → Int32)) (w1_standsOn : (Nat → Int32)) (v_pointsTo : (Nat → Int32)) : va_W := [(q, .inr (7, [.ref q_gets, .ref q_pointsTo, .ref q_isLeft, .int v_rings])), (q1, .inr (6, [.ref q1_kindOf, .ref q1_plotOf, .ref q1_row, .ref q1_standsOn, .int w1_houses, .int w1_front, .int w1_downFor])), (q_gets, .inl (cI, 6, .inl v_gets)), (q1_plotOf, .inl (cI, 6, .inl w1_plotOf)), (q_isLeft, .inl (cZ, 6, .inl v_isLeft)), (q2, .inr (0, [.ref q2_worth, .ref q2_liked, .int w2_houses])), (q2_liked, .inl (cI, 6, .inl w2_liked)), (q1_standsOn, .inl (cI, 12, .inl w1_standsOn)), (q_pointsTo, .inl (cI, 6, .inl v_pointsTo))]
noncomputable def fX7_close_49 (N : Nat) (w1_houses : Int32) (w1_plotOf : (Nat → Int32)) (w2_liked : (Nat → Int32)) (w1_standsOn : (Nat → Int32))  (K_49 : Int32 → Int32 → (Nat → Int32) → (Nat → Int32) → (Nat → Int32) → Option (Int32 × (Nat → Int32) × (Nat → Int32) × (Nat → Int32))) (l3 : Int32) (v_rings : Int32) (v_gets : (Nat → Int32)) (v_isLeft : (Nat → Int32)) (v_pointsTo : (Nat → Int32)) : Option (Int32 × (Nat → Int32) × (Nat → Int32) × (Nat → Int32)) := if w1_houses ≤ l3 then (some (v_rings, v_gets, v_isLeft, v_pointsTo)) else ((fX7_firstLeft N v_isLeft w1_houses).bind (fun x_62 => if x_62 = (-1 : Int32) then (some (v_rings, v_gets, v_isLeft, v_pointsTo)) else ((fX7_pointAll N w1_houses v_isLeft w2_liked w1_standsOn v_pointsTo).bind (fun x_77 => (fX7_onRing N x_77 x_62 w1_houses).bind (fun x_88 => (fX7_closeRing N x_77 w1_plotOf x_88 v_rings v_gets v_isLeft).bind (fun x_92 => K_49 (l3 + (1 : Int32)) x_92.1 x_92.2.1 x_92.2.2 x_77))))))
noncomputable def fX7_close_7 (N : Nat) (w1_houses : Int32) (w1_plotOf : (Nat → Int32)) (w2_liked : (Nat → Int32)) (w1_standsOn : (Nat → Int32))  (K_7 : Int32 → Int32 → (Nat → Int32) → (Nat → Int32) → (Nat → Int32) → Option (Int32 × (Nat → Int32) × (Nat → Int32) × (Nat → Int32))) (l3 : Int32) (v_rings : Int32) (v_gets : (Nat → Int32)) (v_isLeft : (Nat → Int32)) (v_pointsTo : (Nat → Int32)) : Option (Int32 × (Nat → Int32) × (Nat → Int32) × (Nat → Int32)) := if w1_houses ≤ l3 then (lfix (fun (K : Int32 × Int32 × (Nat → Int32) × (Nat → Int32) × (Nat → Int32) → Option (Int32 × (Nat → Int32) × (Nat → Int32) × (Nat → Int32))) (a : Int32 × Int32 × (Nat → Int32) × (Nat → Int32) × (Nat → Int32)) => fX7_close_49 N w1_houses w1_plotOf w2_liked w1_standsOn (fun (l3 : Int32) (v_rings : Int32) (v_gets : (Nat → Int32)) (v_isLeft : (Nat → Int32)) (v_pointsTo : (Nat → Int32)) => K (l3, v_rings, v_gets, v_isLeft, v_pointsTo)) a.1 a.2.1 a.2.2.1 a.2.2.2.1 a.2.2.2.2) N ((0 : Int32), v_rings, v_gets, v_isLeft, v_pointsTo)) else (if l3 < 0 ∨ 6 ≤ (l3).toNatClampNeg then none else ((fX6_isDown N w1_plotOf l3).bind (fun x_29 => if x_29 = 0 then (if l3 < 0 ∨ 6 ≤ (l3).toNatClampNeg then none else (K_7 (l3 + (1 : Int32)) v_rings (upd v_gets (l3).toNatClampNeg (-1 : Int32)) (upd v_isLeft (l3).toNatClampNeg (vp_nar .boolean (1 : Int32))) v_pointsTo)) else (if l3 < 0 ∨ 6 ≤ (l3).toNatClampNeg then none else (K_7 (l3 + (1 : Int32)) v_rings (upd v_gets (l3).toNatClampNeg (-1 : Int32)) (upd v_isLeft (l3).toNatClampNeg (vp_nar .boolean (0 : Int32))) v_pointsTo)))))
noncomputable def fX7_close (N : Nat) (w1_houses : Int32) (w1_plotOf : (Nat → Int32)) (w2_liked : (Nat → Int32)) (w1_standsOn : (Nat → Int32)) (v_rings : Int32) (v_gets : (Nat → Int32)) (v_isLeft : (Nat → Int32)) (v_pointsTo : (Nat → Int32))  : Option (Int32 × (Nat → Int32) × (Nat → Int32) × (Nat → Int32)) := lfix (fun (K : Int32 × Int32 × (Nat → Int32) × (Nat → Int32) × (Nat → Int32) → Option (Int32 × (Nat → Int32) × (Nat → Int32) × (Nat → Int32))) (a : Int32 × Int32 × (Nat → Int32) × (Nat → Int32) × (Nat → Int32)) => fX7_close_7 N w1_houses w1_plotOf w2_liked w1_standsOn (fun (l3 : Int32) (v_rings : Int32) (v_gets : (Nat → Int32)) (v_isLeft : (Nat → Int32)) (v_pointsTo : (Nat → Int32)) => K (l3, v_rings, v_gets, v_isLeft, v_pointsTo)) a.1 a.2.1 a.2.2.1 a.2.2.2.1 a.2.2.2.2) N ((0 : Int32), (0 : Int32), v_gets, v_isLeft, v_pointsTo)
set_option maxHeartbeats 4000000 in
set_option maxRecDepth 100000 in
theorem wX7_close_49 {p : Program} {l : Launch} {e : Env} {R : Room} {s : State} {m : MethodId} {args : Array Value} {below : List Frame} {meth : Method} {c : Code} {cells slots : Nat} {Q : State → Prop} {D : va_G} {A : Nat → Prop} {cI cZ cG : ClassId} {q q_gets q_pointsTo q_isLeft q1 q1_kindOf q1_plotOf q1_row q1_standsOn q2 q2_worth q2_liked : Nat} {w1_houses : Int32} {w1_front : Int32} {w1_downFor : Int32} {w1_plotOf : (Nat → Int32)} {w2_houses : Int32} {w2_liked : (Nat → Int32)} {w1_standsOn : (Nat → Int32)} {N : Nat} {ρ : Int32 × (Nat → Int32) × (Nat → Int32) × (Nat → Int32)} (X : CX p s m args c cX7_close 5 RX7 D (TY cI cZ cG) A) (hrm : RM R 4 93 cells slots) (ret : ∀ (pc : Nat) (H : Heap) (locs : List Loc) (ls : Array Slot), decode cX7_close pc = .ok (.return_, 1) → WD D A (kwX7_close cI cZ q q_gets q_pointsTo q_isLeft q1 q1_kindOf q1_plotOf q1_row q1_standsOn q2 q2_worth q2_liked (ρ.1) w1_houses w1_front w1_downFor (ρ.2.1) w1_plotOf (ρ.2.2.1) w2_houses w2_liked w1_standsOn (ρ.2.2.2)) s.heap H locs → W p l e R s m args below meth c H locs cells slots Q (F0 m pc ls []))  : ∀ (n : Nat) (a : Int32 × Int32 × (Nat → Int32) × (Nat → Int32) × (Nat → Int32)), lfix (fun (K : Int32 × Int32 × (Nat → Int32) × (Nat → Int32) × (Nat → Int32) → Option (Int32 × (Nat → Int32) × (Nat → Int32) × (Nat → Int32))) (a : Int32 × Int32 × (Nat → Int32) × (Nat → Int32) × (Nat → Int32)) => fX7_close_49 N w1_houses w1_plotOf w2_liked w1_standsOn (fun (l3 : Int32) (v_rings : Int32) (v_gets : (Nat → Int32)) (v_isLeft : (Nat → Int32)) (v_pointsTo : (Nat → Int32)) => K (l3, v_rings, v_gets, v_isLeft, v_pointsTo)) a.1 a.2.1 a.2.2.1 a.2.2.2.1 a.2.2.2.2) n a = some ρ → (fun (l3 : Int32) (v_rings : Int32) (v_gets : (Nat → Int32)) (v_isLeft : (Nat → Int32)) (v_pointsTo : (Nat → Int32)) => ∀ (H : Heap) (locs : List Loc) (ls : Array Slot), WD D A (kwX7_close cI cZ q q_gets q_pointsTo q_isLeft q1 q1_kindOf q1_plotOf q1_row q1_standsOn q2 q2_worth q2_liked v_rings w1_houses w1_front w1_downFor v_gets w1_plotOf v_isLeft w2_houses w2_liked w1_standsOn v_pointsTo) s.heap H locs → lv_has ls 5 [(0, .ref q), (1, .ref q1), (2, .ref q2), (3, .int l3)] → W p l e R s m args below meth c H locs cells slots Q (F0 m 49 ls [])) (a.1) (a.2.1) (a.2.2.1) (a.2.2.2.1) (a.2.2.2.2) := by
  have hx := X.1.1
  have hb := X.1.2.1
  refine lfix_W (fun K hK a h => ?_)
  obtain ⟨l3, v_rings, v_gets, v_isLeft, v_pointsTo⟩ := a
  intro H locs ls hw hl
  have h : fX7_close_49 N w1_houses w1_plotOf w2_liked w1_standsOn (fun (l3 : Int32) (v_rings : Int32) (v_gets : (Nat → Int32)) (v_isLeft : (Nat → Int32)) (v_pointsTo : (Nat → Int32)) => K (l3, v_rings, v_gets, v_isLeft, v_pointsTo)) l3 v_rings v_gets v_isLeft v_pointsTo = some ρ := h
  have hK_49 : ∀ (l3 : Int32) (v_rings : Int32) (v_gets : (Nat → Int32)) (v_isLeft : (Nat → Int32)) (v_pointsTo : (Nat → Int32)), (fun (l3 : Int32) (v_rings : Int32) (v_gets : (Nat → Int32)) (v_isLeft : (Nat → Int32)) (v_pointsTo : (Nat → Int32)) => K (l3, v_rings, v_gets, v_isLeft, v_pointsTo)) l3 v_rings v_gets v_isLeft v_pointsTo = some ρ → ∀ (H : Heap) (locs : List Loc) (ls : Array Slot), WD D A (kwX7_close cI cZ q q_gets q_pointsTo q_isLeft q1 q1_kindOf q1_plotOf q1_row q1_standsOn q2 q2_worth q2_liked v_rings w1_houses w1_front w1_downFor v_gets w1_plotOf v_isLeft w2_houses w2_liked w1_standsOn v_pointsTo) s.heap H locs → lv_has ls 5 [(0, .ref q), (1, .ref q1), (2, .ref q2), (3, .int l3)] → W p l e R s m args below meth c H locs cells slots Q (F0 m 49 ls []) := fun l3 v_rings v_gets v_isLeft v_pointsTo h => hK (l3, v_rings, v_gets, v_isLeft, v_pointsTo) h
  generalize (fun (l3 : Int32) (v_rings : Int32) (v_gets : (Nat → Int32)) (v_isLeft : (Nat → Int32)) (v_pointsTo : (Nat → Int32)) => K (l3, v_rings, v_gets, v_isLeft, v_pointsTo)) = K_49 at h hK_49
  have hw : WD D A (kwX7_close cI cZ q q_gets q_pointsTo q_isLeft q1 q1_kindOf q1_plotOf q1_row q1_standsOn q2 q2_worth q2_liked v_rings w1_houses w1_front w1_downFor v_gets w1_plotOf v_isLeft w2_houses w2_liked w1_standsOn v_pointsTo) s.heap H locs := hw
  have hl : lv_has ls 5 [(0, .ref q), (1, .ref q1), (2, .ref q2), (3, .int l3)] := hl
  unfold fX7_close_49 at h
  refine lv_iload_n hx hb dX7_close_49 rfl (lv_at hl 3 rfl) ?_
  refine lv_aload_n hx hb dX7_close_50 rfl (lv_at hl 1 rfl) ?_
  refine kget (ci := 6) (v := .int w1_houses) X hw iX6 1 rfl rfl 4 (by decide) tw_332 rfl dX7_close_51 ?_
  refine lv_icmp_ge (tgt := 101) hx hb dX7_close_54 (by decide) (fun c_54 => ?_) (fun c_54 => ?_)
  · have h := ift c_54 h
    obtain rfl := Option.some.inj h
    exact ret _ _ _ _ dX7_close_101 hw
  · have h := iff_ c_54 h
    refine lv_aload_n hx hb dX7_close_57 rfl (lv_at hl 0 rfl) ?_
    refine lv_aload_n hx hb dX7_close_58 rfl (lv_at hl 1 rfl) ?_
    refine kget (ci := 6) (v := .int w1_houses) X hw iX6 1 rfl rfl 4 (by decide) tw_332 rfl dX7_close_59 ?_
    obtain ⟨x_62, hc_62, h⟩ := obd h
    refine ksV_i (ws2 := (kwX7_close cI cZ q q_gets q_pointsTo q_isLeft q1 q1_kindOf q1_plotOf q1_row q1_standsOn q2 q2_worth q2_liked v_rings w1_houses w1_front w1_downFor v_gets w1_plotOf v_isLeft w2_houses w2_liked w1_standsOn v_pointsTo)) (nW := 9) (ci := 7) (As := [.int w1_houses]) (rest := []) X hw rfl rfl rfl (cX7_firstLeft_ct l D cI cZ cG q q_gets q_pointsTo q_isLeft v_rings v_isLeft w1_houses N x_62 hc_62 H.size) mX7_firstLeft tw_348 (hrm.call (by decide) (by decide)) [0, 4] rfl (by decide) rfl (by decide) rfl ⟨rfl, ⟨rfl, ⟨rfl, ⟨rfl, ⟨rfl, ⟨rfl, ⟨rfl, trivial⟩⟩⟩⟩⟩⟩⟩ rfl hl.1 rfl (Nat.le_of_ble_eq_true rfl) dX7_close_62 ⟨hrm.2.2.1, hrm.2.2.2⟩ (fun H locs hw => ?_)
    refine lv_istore (lv' := [(4, .int x_62), (0, .ref q), (1, .ref q1), (2, .ref q2), (3, .int l3)]) hx hb dX7_close_65 hl (by decide) rfl (fun ls hl => ?_)
    refine lv_iload hx hb dX7_close_67 (lv_at hl 0 rfl) ?_
    refine lv_iconst (v := (-1 : Int32)) hx hb dX7_close_69 (by decide) ?_
    refine lv_icmp_ne (tgt := 74) hx hb dX7_close_70 (by decide) (fun c_70 => ?_) (fun c_70 => ?_)
    · have h := iff_ c_70 h
      refine lv_aload_n hx hb dX7_close_74 rfl (lv_at hl 1 rfl) ?_
      refine lv_aload_n hx hb dX7_close_75 rfl (lv_at hl 2 rfl) ?_
      refine lv_aload_n hx hb dX7_close_76 rfl (lv_at hl 3 rfl) ?_
      obtain ⟨x_77, hc_77, h⟩ := obd h
      refine ksV_v (ws2 := (kwX7_close cI cZ q q_gets q_pointsTo q_isLeft q1 q1_kindOf q1_plotOf q1_row q1_standsOn q2 q2_worth q2_liked v_rings w1_houses w1_front w1_downFor v_gets w1_plotOf v_isLeft w2_houses w2_liked w1_standsOn x_77)) (nW := 9) (ci := 7) (As := [.ref q1, .ref q2]) (rest := []) X hw rfl rfl rfl (cX7_pointAll_ct l D cI cZ cG q q_gets q_pointsTo q_isLeft q1 q1_kindOf q1_plotOf q1_row q1_standsOn q2 q2_worth q2_liked v_rings w1_houses w1_front w1_downFor v_isLeft w2_houses w2_liked w1_standsOn v_pointsTo N x_77 hc_77 H.size) mX7_pointAll tw_349 (hrm.call (by decide) (by decide)) [0, 1, 4, 5, 6, 7, 8] rfl (by decide) rfl (by decide) rfl ⟨rfl, ⟨rfl, trivial⟩⟩ rfl hl.1 rfl (Nat.le_of_ble_eq_true rfl) dX7_close_77 ⟨hrm.2.2.1, hrm.2.2.2⟩ (fun H locs hw => ?_)
      refine lv_aload_n hx hb dX7_close_80 rfl (lv_at hl 1 rfl) ?_
      refine lv_aload_n hx hb dX7_close_81 rfl (lv_at hl 1 rfl) ?_
      refine lv_iload hx hb dX7_close_82 (lv_at hl 0 rfl) ?_
      refine lv_aload_n hx hb dX7_close_84 rfl (lv_at hl 2 rfl) ?_
      refine kget (ci := 6) (v := .int w1_houses) X hw iX6 1 rfl rfl 4 (by decide) tw_332 rfl dX7_close_85 ?_
      obtain ⟨x_88, hc_88, h⟩ := obd h
      refine ksV_i (ws2 := (kwX7_close cI cZ q q_gets q_pointsTo q_isLeft q1 q1_kindOf q1_plotOf q1_row q1_standsOn q2 q2_worth q2_liked v_rings w1_houses w1_front w1_downFor v_gets w1_plotOf v_isLeft w2_houses w2_liked w1_standsOn x_77)) (nW := 9) (ci := 7) (As := [.int x_62, .int w1_houses]) (rest := [.ref q]) X hw rfl rfl rfl (cX7_onRing_ct l D cI cZ cG q q_gets q_pointsTo q_isLeft v_rings x_77 x_62 w1_houses N x_88 hc_88 H.size) mX7_onRing tw_350 (hrm.call (by decide) (by decide)) [0, 8] rfl (by decide) rfl (by decide) rfl ⟨rfl, ⟨rfl, ⟨rfl, ⟨rfl, ⟨rfl, ⟨rfl, ⟨rfl, trivial⟩⟩⟩⟩⟩⟩⟩ rfl hl.1 rfl (Nat.le_of_ble_eq_true rfl) dX7_close_88 ⟨hrm.2.2.1, hrm.2.2.2⟩ (fun H locs hw => ?_)
      refine lv_aload_n hx hb dX7_close_91 rfl (lv_at hl 2 rfl) ?_
      obtain ⟨x_92, hc_92, h⟩ := obd h
      refine ksV_v (ws2 := (kwX7_close cI cZ q q_gets q_pointsTo q_isLeft q1 q1_kindOf q1_plotOf q1_row q1_standsOn q2 q2_worth q2_liked x_92.1 w1_houses w1_front w1_downFor x_92.2.1 w1_plotOf x_92.2.2 w2_houses w2_liked w1_standsOn x_77)) (nW := 9) (ci := 7) (As := [.int x_88, .ref q1]) (rest := []) X hw rfl rfl rfl (cX7_closeRing_ct l D cI cZ cG q q_gets q_pointsTo q_isLeft q1 q1_kindOf q1_plotOf q1_row q1_standsOn v_rings x_77 w1_houses w1_front w1_downFor w1_plotOf v_gets v_isLeft x_88 N x_92 hc_92 H.size) mX7_closeRing tw_351 (hrm.call (by decide) (by decide)) [0, 8, 1, 3, 2, 4] rfl (by decide) rfl (by decide) rfl ⟨rfl, ⟨rfl, ⟨rfl, trivial⟩⟩⟩ rfl hl.1 rfl (Nat.le_of_ble_eq_true rfl) dX7_close_92 ⟨hrm.2.2.1, hrm.2.2.2⟩ (fun H locs hw => ?_)
      refine lv_iinc (v := (l3 + (1 : Int32))) (lv' := [(3, .int (l3 + (1 : Int32))), (4, .int x_62), (0, .ref q), (1, .ref q1), (2, .ref q2)]) hx hb dX7_close_95 hl (k := 4) rfl (congrArg (l3 + ·) (by decide)) (by decide) rfl (fun ls hl => ?_)
      refine lv_goto (tgt := 49) hx hb dX7_close_98 (by decide) ?_
      exact hK_49 _ _ _ _ _ h _ _ _ hw (lv_sub hl [2, 3, 4, 0] rfl)
    · have h := ift c_70 h
      obtain rfl := Option.some.inj h
      exact ret _ _ _ _ dX7_close_73 hw
set_option maxHeartbeats 4000000 in
set_option maxRecDepth 100000 in
theorem wX7_close_7 {p : Program} {l : Launch} {e : Env} {R : Room} {s : State} {m : MethodId} {args : Array Value} {below : List Frame} {meth : Method} {c : Code} {cells slots : Nat} {Q : State → Prop} {D : va_G} {A : Nat → Prop} {cI cZ cG : ClassId} {q q_gets q_pointsTo q_isLeft q1 q1_kindOf q1_plotOf q1_row q1_standsOn q2 q2_worth q2_liked : Nat} {w1_houses : Int32} {w1_front : Int32} {w1_downFor : Int32} {w1_plotOf : (Nat → Int32)} {w2_houses : Int32} {w2_liked : (Nat → Int32)} {w1_standsOn : (Nat → Int32)} {N : Nat} {ρ : Int32 × (Nat → Int32) × (Nat → Int32) × (Nat → Int32)} (X : CX p s m args c cX7_close 5 RX7 D (TY cI cZ cG) A) (hrm : RM R 4 93 cells slots) (ret : ∀ (pc : Nat) (H : Heap) (locs : List Loc) (ls : Array Slot), decode cX7_close pc = .ok (.return_, 1) → WD D A (kwX7_close cI cZ q q_gets q_pointsTo q_isLeft q1 q1_kindOf q1_plotOf q1_row q1_standsOn q2 q2_worth q2_liked (ρ.1) w1_houses w1_front w1_downFor (ρ.2.1) w1_plotOf (ρ.2.2.1) w2_houses w2_liked w1_standsOn (ρ.2.2.2)) s.heap H locs → W p l e R s m args below meth c H locs cells slots Q (F0 m pc ls []))  : ∀ (n : Nat) (a : Int32 × Int32 × (Nat → Int32) × (Nat → Int32) × (Nat → Int32)), lfix (fun (K : Int32 × Int32 × (Nat → Int32) × (Nat → Int32) × (Nat → Int32) → Option (Int32 × (Nat → Int32) × (Nat → Int32) × (Nat → Int32))) (a : Int32 × Int32 × (Nat → Int32) × (Nat → Int32) × (Nat → Int32)) => fX7_close_7 N w1_houses w1_plotOf w2_liked w1_standsOn (fun (l3 : Int32) (v_rings : Int32) (v_gets : (Nat → Int32)) (v_isLeft : (Nat → Int32)) (v_pointsTo : (Nat → Int32)) => K (l3, v_rings, v_gets, v_isLeft, v_pointsTo)) a.1 a.2.1 a.2.2.1 a.2.2.2.1 a.2.2.2.2) n a = some ρ → (fun (l3 : Int32) (v_rings : Int32) (v_gets : (Nat → Int32)) (v_isLeft : (Nat → Int32)) (v_pointsTo : (Nat → Int32)) => ∀ (H : Heap) (locs : List Loc) (ls : Array Slot), WD D A (kwX7_close cI cZ q q_gets q_pointsTo q_isLeft q1 q1_kindOf q1_plotOf q1_row q1_standsOn q2 q2_worth q2_liked v_rings w1_houses w1_front w1_downFor v_gets w1_plotOf v_isLeft w2_houses w2_liked w1_standsOn v_pointsTo) s.heap H locs → lv_has ls 5 [(0, .ref q), (1, .ref q1), (2, .ref q2), (3, .int l3)] → W p l e R s m args below meth c H locs cells slots Q (F0 m 7 ls [])) (a.1) (a.2.1) (a.2.2.1) (a.2.2.2.1) (a.2.2.2.2) := by
  have hx := X.1.1
  have hb := X.1.2.1
  refine lfix_W (fun K hK a h => ?_)
  obtain ⟨l3, v_rings, v_gets, v_isLeft, v_pointsTo⟩ := a
  intro H locs ls hw hl
  have h : fX7_close_7 N w1_houses w1_plotOf w2_liked w1_standsOn (fun (l3 : Int32) (v_rings : Int32) (v_gets : (Nat → Int32)) (v_isLeft : (Nat → Int32)) (v_pointsTo : (Nat → Int32)) => K (l3, v_rings, v_gets, v_isLeft, v_pointsTo)) l3 v_rings v_gets v_isLeft v_pointsTo = some ρ := h
  have hK_7 : ∀ (l3 : Int32) (v_rings : Int32) (v_gets : (Nat → Int32)) (v_isLeft : (Nat → Int32)) (v_pointsTo : (Nat → Int32)), (fun (l3 : Int32) (v_rings : Int32) (v_gets : (Nat → Int32)) (v_isLeft : (Nat → Int32)) (v_pointsTo : (Nat → Int32)) => K (l3, v_rings, v_gets, v_isLeft, v_pointsTo)) l3 v_rings v_gets v_isLeft v_pointsTo = some ρ → ∀ (H : Heap) (locs : List Loc) (ls : Array Slot), WD D A (kwX7_close cI cZ q q_gets q_pointsTo q_isLeft q1 q1_kindOf q1_plotOf q1_row q1_standsOn q2 q2_worth q2_liked v_rings w1_houses w1_front w1_downFor v_gets w1_plotOf v_isLeft w2_houses w2_liked w1_standsOn v_pointsTo) s.heap H locs → lv_has ls 5 [(0, .ref q), (1, .ref q1), (2, .ref q2), (3, .int l3)] → W p l e R s m args below meth c H locs cells slots Q (F0 m 7 ls []) := fun l3 v_rings v_gets v_isLeft v_pointsTo h => hK (l3, v_rings, v_gets, v_isLeft, v_pointsTo) h
  generalize (fun (l3 : Int32) (v_rings : Int32) (v_gets : (Nat → Int32)) (v_isLeft : (Nat → Int32)) (v_pointsTo : (Nat → Int32)) => K (l3, v_rings, v_gets, v_isLeft, v_pointsTo)) = K_7 at h hK_7
  have hw : WD D A (kwX7_close cI cZ q q_gets q_pointsTo q_isLeft q1 q1_kindOf q1_plotOf q1_row q1_standsOn q2 q2_worth q2_liked v_rings w1_houses w1_front w1_downFor v_gets w1_plotOf v_isLeft w2_houses w2_liked w1_standsOn v_pointsTo) s.heap H locs := hw
  have hl : lv_has ls 5 [(0, .ref q), (1, .ref q1), (2, .ref q2), (3, .int l3)] := hl
  unfold fX7_close_7 at h
  refine lv_iload_n hx hb dX7_close_7 rfl (lv_at hl 3 rfl) ?_
  refine lv_aload_n hx hb dX7_close_8 rfl (lv_at hl 1 rfl) ?_
  refine kget (ci := 6) (v := .int w1_houses) X hw iX6 1 rfl rfl 4 (by decide) tw_332 rfl dX7_close_9 ?_
  refine lv_icmp_ge (tgt := 47) hx hb dX7_close_12 (by decide) (fun c_12 => ?_) (fun c_12 => ?_)
  · have h := ift c_12 h
    refine lv_iconst (v := (0 : Int32)) hx hb dX7_close_47 (by decide) ?_
    refine lv_istore_n (lv' := [(3, .int (0 : Int32)), (0, .ref q), (1, .ref q1), (2, .ref q2)]) hx hb dX7_close_48 rfl hl (by decide) rfl (fun ls hl => ?_)
    exact wX7_close_49 X hrm ret  _ _ h _ _ _ hw (lv_sub hl [1, 2, 3, 0] rfl)
  · have h := iff_ c_12 h
    refine lv_aload_n hx hb dX7_close_15 rfl (lv_at hl 0 rfl) ?_
    refine kget (ci := 7) (v := .ref q_gets) X hw iX7 0 rfl rfl 0 (by decide) tw_342 rfl dX7_close_16 ?_
    refine lv_iload_n hx hb dX7_close_19 rfl (lv_at hl 3 rfl) ?_
    refine lv_iconst (v := (-1 : Int32)) hx hb dX7_close_20 (by decide) ?_
    obtain ⟨g_21, h⟩ := gd h
    refine kiast X hw 2 rfl rfl g_21 dX7_close_21 (fun H locs hw => ?_)
    have hw : WD D A (kwX7_close cI cZ q q_gets q_pointsTo q_isLeft q1 q1_kindOf q1_plotOf q1_row q1_standsOn q2 q2_worth q2_liked v_rings w1_houses w1_front w1_downFor (upd v_gets (l3).toNatClampNeg (-1 : Int32)) w1_plotOf v_isLeft w2_houses w2_liked w1_standsOn v_pointsTo) s.heap H locs := hw
    refine lv_aload_n hx hb dX7_close_22 rfl (lv_at hl 0 rfl) ?_
    refine kget (ci := 7) (v := .ref q_isLeft) X hw iX7 0 rfl rfl 2 (by decide) tw_323 rfl dX7_close_23 ?_
    refine lv_iload_n hx hb dX7_close_26 rfl (lv_at hl 3 rfl) ?_
    refine lv_aload_n hx hb dX7_close_27 rfl (lv_at hl 1 rfl) ?_
    refine lv_iload_n hx hb dX7_close_28 rfl (lv_at hl 3 rfl) ?_
    obtain ⟨x_29, hc_29, h⟩ := obd h
    refine ksV_i (ws2 := (kwX7_close cI cZ q q_gets q_pointsTo q_isLeft q1 q1_kindOf q1_plotOf q1_row q1_standsOn q2 q2_worth q2_liked v_rings w1_houses w1_front w1_downFor (upd v_gets (l3).toNatClampNeg (-1 : Int32)) w1_plotOf v_isLeft w2_houses w2_liked w1_standsOn v_pointsTo)) (nW := 9) (ci := 6) (As := [.int l3]) (rest := [.int l3, .ref q_isLeft]) X hw rfl rfl rfl (cX6_isDown_ct l D cI cZ cG q1 q1_kindOf q1_plotOf q1_row q1_standsOn w1_houses w1_front w1_downFor w1_plotOf l3 N x_29 hc_29 H.size) mX6_isDown tw_352 (hrm.call (by decide) (by decide)) [1, 3] rfl (by decide) rfl (by decide) rfl ⟨rfl, ⟨rfl, ⟨rfl, ⟨rfl, ⟨rfl, ⟨rfl, ⟨rfl, trivial⟩⟩⟩⟩⟩⟩⟩ rfl hl.1 rfl (Nat.le_of_ble_eq_true rfl) dX7_close_29 ⟨hrm.2.2.1, hrm.2.2.2⟩ (fun H locs hw => ?_)
    refine lv_if_ne (tgt := 39) hx hb dX7_close_32 (by decide) (fun c_32 => ?_) (fun c_32 => ?_)
    · have h := iff_ c_32 h
      refine lv_iconst (v := (0 : Int32)) hx hb dX7_close_39 (by decide) ?_
      obtain ⟨g_40, h⟩ := gd h
      refine kzast X hw 4 rfl rfl g_40 dX7_close_40 (fun H locs hw => ?_)
      have hw : WD D A (kwX7_close cI cZ q q_gets q_pointsTo q_isLeft q1 q1_kindOf q1_plotOf q1_row q1_standsOn q2 q2_worth q2_liked v_rings w1_houses w1_front w1_downFor (upd v_gets (l3).toNatClampNeg (-1 : Int32)) w1_plotOf (upd v_isLeft (l3).toNatClampNeg (vp_nar .boolean (0 : Int32))) w2_houses w2_liked w1_standsOn v_pointsTo) s.heap H locs := hw
      refine lv_iinc (v := (l3 + (1 : Int32))) (lv' := [(3, .int (l3 + (1 : Int32))), (0, .ref q), (1, .ref q1), (2, .ref q2)]) hx hb dX7_close_41 hl (k := 3) rfl (congrArg (l3 + ·) (by decide)) (by decide) rfl (fun ls hl => ?_)
      refine lv_goto (tgt := 7) hx hb dX7_close_44 (by decide) ?_
      exact hK_7 _ _ _ _ _ h _ _ _ hw (lv_sub hl [1, 2, 3, 0] rfl)
    · have h := ift c_32 h
      refine lv_iconst (v := (1 : Int32)) hx hb dX7_close_35 (by decide) ?_
      refine lv_goto (tgt := 40) hx hb dX7_close_36 (by decide) ?_
      obtain ⟨g_40, h⟩ := gd h
      refine kzast X hw 4 rfl rfl g_40 dX7_close_40 (fun H locs hw => ?_)
      have hw : WD D A (kwX7_close cI cZ q q_gets q_pointsTo q_isLeft q1 q1_kindOf q1_plotOf q1_row q1_standsOn q2 q2_worth q2_liked v_rings w1_houses w1_front w1_downFor (upd v_gets (l3).toNatClampNeg (-1 : Int32)) w1_plotOf (upd v_isLeft (l3).toNatClampNeg (vp_nar .boolean (1 : Int32))) w2_houses w2_liked w1_standsOn v_pointsTo) s.heap H locs := hw
      refine lv_iinc (v := (l3 + (1 : Int32))) (lv' := [(3, .int (l3 + (1 : Int32))), (0, .ref q), (1, .ref q1), (2, .ref q2)]) hx hb dX7_close_41 hl (k := 3) rfl (congrArg (l3 + ·) (by decide)) (by decide) rfl (fun ls hl => ?_)
      refine lv_goto (tgt := 7) hx hb dX7_close_44 (by decide) ?_
      exact hK_7 _ _ _ _ _ h _ _ _ hw (lv_sub hl [1, 2, 3, 0] rfl)
set_option maxHeartbeats 4000000 in
set_option maxRecDepth 100000 in
theorem wX7_close {p : Program} {l : Launch} {e : Env} {R : Room} {s : State} {m : MethodId} {args : Array Value} {below : List Frame} {meth : Method} {c : Code} {cells slots : Nat} {Q : State → Prop} {D : va_G} {A : Nat → Prop} {cI cZ cG : ClassId} {q q_gets q_pointsTo q_isLeft q1 q1_kindOf q1_plotOf q1_row q1_standsOn q2 q2_worth q2_liked : Nat} {v_rings : Int32} {w1_houses : Int32} {w1_front : Int32} {w1_downFor : Int32} {v_gets : (Nat → Int32)} {w1_plotOf : (Nat → Int32)} {v_isLeft : (Nat → Int32)} {w2_houses : Int32} {w2_liked : (Nat → Int32)} {w1_standsOn : (Nat → Int32)} {v_pointsTo : (Nat → Int32)} {N : Nat} {ρ : Int32 × (Nat → Int32) × (Nat → Int32) × (Nat → Int32)} (X : CX p s m args c cX7_close 5 RX7 D (TY cI cZ cG) A) (hrm : RM R 4 93 cells slots) (ret : ∀ (pc : Nat) (H : Heap) (locs : List Loc) (ls : Array Slot), decode cX7_close pc = .ok (.return_, 1) → WD D A (kwX7_close cI cZ q q_gets q_pointsTo q_isLeft q1 q1_kindOf q1_plotOf q1_row q1_standsOn q2 q2_worth q2_liked (ρ.1) w1_houses w1_front w1_downFor (ρ.2.1) w1_plotOf (ρ.2.2.1) w2_houses w2_liked w1_standsOn (ρ.2.2.2)) s.heap H locs → W p l e R s m args below meth c H locs cells slots Q (F0 m pc ls [])) (h : fX7_close N w1_houses w1_plotOf w2_liked w1_standsOn v_rings v_gets v_isLeft v_pointsTo  = some ρ) (H : Heap) (locs : List Loc) (ls : Array Slot) (hw : WD D A (kwX7_close cI cZ q q_gets q_pointsTo q_isLeft q1 q1_kindOf q1_plotOf q1_row q1_standsOn q2 q2_worth q2_liked v_rings w1_houses w1_front w1_downFor v_gets w1_plotOf v_isLeft w2_houses w2_liked w1_standsOn v_pointsTo) s.heap H locs) (hl : lv_has ls 5 [(0, .ref q), (1, .ref q1), (2, .ref q2)]) : W p l e R s m args below meth c H locs cells slots Q (F0 m 0 ls []) := by
  have hx := X.1.1
  have hb := X.1.2.1
  unfold fX7_close at h
  refine lv_aload_n hx hb dX7_close_0 rfl (lv_at hl 0 rfl) ?_
  refine lv_iconst (v := (0 : Int32)) hx hb dX7_close_1 (by decide) ?_
  refine kput (ci := 7) (v := .int (0 : Int32)) (ty := .int) X hw iX7 tyX7_ok nmX7 0 rfl rfl 3 (by decide) tw_344 rfl rfl rfl rfl (Nat.le_of_ble_eq_true rfl) dX7_close_2 (fun H locs hw => ?_)
  have hw : WD D A (kwX7_close cI cZ q q_gets q_pointsTo q_isLeft q1 q1_kindOf q1_plotOf q1_row q1_standsOn q2 q2_worth q2_liked (0 : Int32) w1_houses w1_front w1_downFor v_gets w1_plotOf v_isLeft w2_houses w2_liked w1_standsOn v_pointsTo) s.heap H locs := hw
  refine lv_iconst (v := (0 : Int32)) hx hb dX7_close_5 (by decide) ?_
  refine lv_istore_n (lv' := [(3, .int (0 : Int32)), (0, .ref q), (1, .ref q1), (2, .ref q2)]) hx hb dX7_close_6 rfl hl (by decide) rfl (fun ls hl => ?_)
  exact wX7_close_7 X hrm ret  _ _ h _ _ _ hw (lv_sub hl [1, 2, 3, 0] rfl)
set_option maxHeartbeats 4000000 in
set_option maxRecDepth 100000 in
theorem cX7_close_ct (l : Launch) (D : va_G) (cI cZ cG : ClassId) (q q_gets q_pointsTo q_isLeft q1 q1_kindOf q1_plotOf q1_row q1_standsOn q2 q2_worth q2_liked : Nat)  (v_rings : Int32) (w1_houses : Int32) (w1_front : Int32) (w1_downFor : Int32) (v_gets : (Nat → Int32)) (w1_plotOf : (Nat → Int32)) (v_isLeft : (Nat → Int32)) (w2_houses : Int32) (w2_liked : (Nat → Int32)) (w1_standsOn : (Nat → Int32)) (v_pointsTo : (Nat → Int32))  (N : Nat) (ρ : Int32 × (Nat → Int32) × (Nat → Int32) × (Nat → Int32)) (h : fX7_close N w1_houses w1_plotOf w2_liked w1_standsOn v_rings v_gets v_isLeft v_pointsTo  = some ρ) (sz : Nat) : Met l yX7_close (wz yX7_close cX7_close 5 none) (cRm 4 93) (cPre D (TY cI cZ cG) [.ref q, .ref q1, .ref q2] (kwX7_close cI cZ q q_gets q_pointsTo q_isLeft q1 q1_kindOf q1_plotOf q1_row q1_standsOn q2 q2_worth q2_liked v_rings w1_houses w1_front w1_downFor v_gets w1_plotOf v_isLeft w2_houses w2_liked w1_standsOn v_pointsTo) sz) (cQv D (kwX7_close cI cZ q q_gets q_pointsTo q_isLeft q1 q1_kindOf q1_plotOf q1_row q1_standsOn q2 q2_worth q2_liked v_rings w1_houses w1_front w1_downFor v_gets w1_plotOf v_isLeft w2_houses w2_liked w1_standsOn v_pointsTo) (kwX7_close cI cZ q q_gets q_pointsTo q_isLeft q1 q1_kindOf q1_plotOf q1_row q1_standsOn q2 q2_worth q2_liked (ρ.1) w1_houses w1_front w1_downFor (ρ.2.1) w1_plotOf (ρ.2.2.1) w2_houses w2_liked w1_standsOn (ρ.2.2.2)) sz) 0 0 (va_A (kwX7_close cI cZ q q_gets q_pointsTo q_isLeft q1 q1_kindOf q1_plotOf q1_row q1_standsOn q2 q2_worth q2_liked v_rings w1_houses w1_front w1_downFor v_gets w1_plotOf v_isLeft w2_houses w2_liked w1_standsOn v_pointsTo) sz) :=
  mk_v (by decide) (Nat.le_of_ble_eq_true rfl) (fun X hrm ret hw hl => wX7_close X hrm ret h _ _ _ hw hl)
theorem dX8_letter_0 : decode cX8_letter 0 = .ok (.iload_n 1, 1) := by decide +kernel
theorem dX8_letter_1 : decode cX8_letter 1 = .ok (.iconst 1, 1) := by decide +kernel
theorem dX8_letter_2 : decode cX8_letter 2 = .ok (.if_icmp .lt 9, 3) := by decide +kernel
theorem dX8_letter_5 : decode cX8_letter 5 = .ok (.iload_n 1, 1) := by decide +kernel
theorem dX8_letter_6 : decode cX8_letter 6 = .ok (.bipush 126, 2) := by decide +kernel
theorem dX8_letter_8 : decode cX8_letter 8 = .ok (.if_icmp .le 6, 3) := by decide +kernel
theorem dX8_letter_11 : decode cX8_letter 11 = .ok (.bipush (-102), 2) := by decide +kernel
theorem dX8_letter_13 : decode cX8_letter 13 = .ok (.ireturn, 1) := by decide +kernel
theorem dX8_letter_14 : decode cX8_letter 14 = .ok (.aload_n 0, 1) := by decide +kernel
theorem dX8_letter_15 : decode cX8_letter 15 = .ok (.getfield 10, 3) := by decide +kernel
theorem dX8_letter_18 : decode cX8_letter 18 = .ok (.getfield 61, 3) := by decide +kernel
theorem dX8_letter_21 : decode cX8_letter 21 = .ok (.bipush 32, 2) := by decide +kernel
theorem dX8_letter_23 : decode cX8_letter 23 = .ok (.if_icmp .lt 6, 3) := by decide +kernel
theorem dX8_letter_26 : decode cX8_letter 26 = .ok (.bipush (-104), 2) := by decide +kernel
theorem dX8_letter_28 : decode cX8_letter 28 = .ok (.ireturn, 1) := by decide +kernel
theorem dX8_letter_29 : decode cX8_letter 29 = .ok (.aload_n 0, 1) := by decide +kernel
theorem dX8_letter_30 : decode cX8_letter 30 = .ok (.getfield 10, 3) := by decide +kernel
theorem dX8_letter_33 : decode cX8_letter 33 = .ok (.iload_n 1, 1) := by decide +kernel
theorem dX8_letter_34 : decode cX8_letter 34 = .ok (.invokevirtual 65, 3) := by decide +kernel
theorem dX8_letter_37 : decode cX8_letter 37 = .ok (.aload_n 0, 1) := by decide +kernel
theorem dX8_letter_38 : decode cX8_letter 38 = .ok (.getfield 10, 3) := by decide +kernel
theorem dX8_letter_41 : decode cX8_letter 41 = .ok (.getfield 61, 3) := by decide +kernel
theorem dX8_letter_44 : decode cX8_letter 44 = .ok (.ireturn, 1) := by decide +kernel
abbrev kwX8_letter (cI cZ : ClassId) (q q_page q_ground q_now q_kept q_ahead q_trade q_plan q_guess q_page_letters : Nat) (v_isKept : Int32) (v_squaresRead : Int32) (v_ordersDone : Int32) (v_page_size : Int32) (v_page_letters : (Nat → Int32)) : va_W := [(q, .inr (8, [.ref q_page, .ref q_ground, .ref q_now, .ref q_kept, .ref q_ahead, .ref q_trade, .ref q_plan, .ref q_guess, .int v_isKept, .int v_squaresRead, .int v_ordersDone])), (q_page, .inr (3, [.ref q_page_letters, .int v_page_size])), (q_page_letters, .inl (cI, 32, .inl v_page_letters))]
noncomputable def fX8_letter (N : Nat) (a1 : Int32) (v_page_size : Int32) (v_page_letters : (Nat → Int32))  : Option (Int32 × Int32 × (Nat → Int32)) := if a1 < (1 : Int32) then (some ((-102 : Int32), v_page_size, v_page_letters)) else (if a1 ≤ (126 : Int32) then (if v_page_size < (32 : Int32) then ((fX3_write N a1 v_page_size v_page_letters).bind (fun x_34 => some (x_34.1, x_34.1, x_34.2))) else (some ((-104 : Int32), v_page_size, v_page_letters))) else (some ((-102 : Int32), v_page_size, v_page_letters)))
set_option maxHeartbeats 4000000 in
set_option maxRecDepth 100000 in
theorem wX8_letter {p : Program} {l : Launch} {e : Env} {R : Room} {s : State} {m : MethodId} {args : Array Value} {below : List Frame} {meth : Method} {c : Code} {cells slots : Nat} {Q : State → Prop} {D : va_G} {A : Nat → Prop} {cI cZ cG : ClassId} {q q_page q_ground q_now q_kept q_ahead q_trade q_plan q_guess q_page_letters : Nat} {v_isKept : Int32} {v_squaresRead : Int32} {v_ordersDone : Int32} {v_page_size : Int32} {v_page_letters : (Nat → Int32)} {a1 : Int32} {N : Nat} {ρ : Int32 × Int32 × (Nat → Int32)} (X : CX p s m args c cX8_letter 2 RX8 D (TY cI cZ cG) A) (hrm : RM R 1 21 cells slots) (ret : ∀ (pc : Nat) (H : Heap) (locs : List Loc) (ls : Array Slot), decode cX8_letter pc = .ok (.ireturn, 1) → WD D A (kwX8_letter cI cZ q q_page q_ground q_now q_kept q_ahead q_trade q_plan q_guess q_page_letters v_isKept v_squaresRead v_ordersDone (ρ.2.1) (ρ.2.2)) s.heap H locs → W p l e R s m args below meth c H locs cells slots Q (F0 m pc ls [.int ρ.1])) (h : fX8_letter N a1 v_page_size v_page_letters  = some ρ) (H : Heap) (locs : List Loc) (ls : Array Slot) (hw : WD D A (kwX8_letter cI cZ q q_page q_ground q_now q_kept q_ahead q_trade q_plan q_guess q_page_letters v_isKept v_squaresRead v_ordersDone v_page_size v_page_letters) s.heap H locs) (hl : lv_has ls 2 [(0, .ref q), (1, .int a1)]) : W p l e R s m args below meth c H locs cells slots Q (F0 m 0 ls []) := by
  have hx := X.1.1
  have hb := X.1.2.1
  unfold fX8_letter at h
  refine lv_iload_n hx hb dX8_letter_0 rfl (lv_at hl 1 rfl) ?_
  refine lv_iconst (v := (1 : Int32)) hx hb dX8_letter_1 (by decide) ?_
  refine lv_icmp_lt (tgt := 11) hx hb dX8_letter_2 (by decide) (fun c_2 => ?_) (fun c_2 => ?_)
  · have h := ift c_2 h
    refine lv_bipush (v := (-102 : Int32)) hx hb dX8_letter_11 (by decide) ?_
    obtain rfl := Option.some.inj h
    exact ret _ _ _ _ dX8_letter_13 hw
  · have h := iff_ c_2 h
    refine lv_iload_n hx hb dX8_letter_5 rfl (lv_at hl 1 rfl) ?_
    refine lv_bipush (v := (126 : Int32)) hx hb dX8_letter_6 (by decide) ?_
    refine lv_icmp_le (tgt := 14) hx hb dX8_letter_8 (by decide) (fun c_8 => ?_) (fun c_8 => ?_)
    · have h := ift c_8 h
      refine lv_aload_n hx hb dX8_letter_14 rfl (lv_at hl 0 rfl) ?_
      refine kget (ci := 8) (v := .ref q_page) X hw iX8 0 rfl rfl 0 (by decide) tw_356 rfl dX8_letter_15 ?_
      refine kget (ci := 3) (v := .int v_page_size) X hw iX3 1 rfl rfl 1 (by decide) tw_357 rfl dX8_letter_18 ?_
      refine lv_bipush (v := (32 : Int32)) hx hb dX8_letter_21 (by decide) ?_
      refine lv_icmp_lt (tgt := 29) hx hb dX8_letter_23 (by decide) (fun c_23 => ?_) (fun c_23 => ?_)
      · have h := ift c_23 h
        refine lv_aload_n hx hb dX8_letter_29 rfl (lv_at hl 0 rfl) ?_
        refine kget (ci := 8) (v := .ref q_page) X hw iX8 0 rfl rfl 0 (by decide) tw_356 rfl dX8_letter_30 ?_
        refine lv_iload_n hx hb dX8_letter_33 rfl (lv_at hl 1 rfl) ?_
        obtain ⟨x_34, hc_34, h⟩ := obd h
        refine ksV_v (ws2 := (kwX8_letter cI cZ q q_page q_ground q_now q_kept q_ahead q_trade q_plan q_guess q_page_letters v_isKept v_squaresRead v_ordersDone x_34.1 x_34.2)) (nW := 3) (ci := 3) (As := [.int a1]) (rest := []) X hw rfl rfl rfl (cX3_write_ct l D cI cZ cG q_page q_page_letters v_page_size v_page_letters a1 N x_34 hc_34 H.size) mX3_write tw_358 (hrm.call (by decide) (by decide)) [1, 2] rfl (by decide) rfl (by decide) rfl ⟨rfl, trivial⟩ rfl hl.1 rfl (Nat.le_of_ble_eq_true rfl) dX8_letter_34 ⟨hrm.2.2.1, hrm.2.2.2⟩ (fun H locs hw => ?_)
        refine lv_aload_n hx hb dX8_letter_37 rfl (lv_at hl 0 rfl) ?_
        refine kget (ci := 8) (v := .ref q_page) X hw iX8 0 rfl rfl 0 (by decide) tw_356 rfl dX8_letter_38 ?_
        refine kget (ci := 3) (v := .int x_34.1) X hw iX3 1 rfl rfl 1 (by decide) tw_357 rfl dX8_letter_41 ?_
        obtain rfl := Option.some.inj h
        exact ret _ _ _ _ dX8_letter_44 hw
      · have h := iff_ c_23 h
        refine lv_bipush (v := (-104 : Int32)) hx hb dX8_letter_26 (by decide) ?_
        obtain rfl := Option.some.inj h
        exact ret _ _ _ _ dX8_letter_28 hw
    · have h := iff_ c_8 h
      refine lv_bipush (v := (-102 : Int32)) hx hb dX8_letter_11 (by decide) ?_
      obtain rfl := Option.some.inj h
      exact ret _ _ _ _ dX8_letter_13 hw
set_option maxHeartbeats 4000000 in
set_option maxRecDepth 100000 in
theorem cX8_letter_ct (l : Launch) (D : va_G) (cI cZ cG : ClassId) (q q_page q_ground q_now q_kept q_ahead q_trade q_plan q_guess q_page_letters : Nat)  (v_isKept : Int32) (v_squaresRead : Int32) (v_ordersDone : Int32) (v_page_size : Int32) (v_page_letters : (Nat → Int32)) (a1 : Int32) (N : Nat) (ρ : Int32 × Int32 × (Nat → Int32)) (h : fX8_letter N a1 v_page_size v_page_letters  = some ρ) (sz : Nat) : Met l yX8_letter (wz yX8_letter cX8_letter 2 (some .int)) (cRm 1 21) (cPre D (TY cI cZ cG) [.ref q, .int a1] (kwX8_letter cI cZ q q_page q_ground q_now q_kept q_ahead q_trade q_plan q_guess q_page_letters v_isKept v_squaresRead v_ordersDone v_page_size v_page_letters) sz) (cQi D (ρ.1) (kwX8_letter cI cZ q q_page q_ground q_now q_kept q_ahead q_trade q_plan q_guess q_page_letters v_isKept v_squaresRead v_ordersDone v_page_size v_page_letters) (kwX8_letter cI cZ q q_page q_ground q_now q_kept q_ahead q_trade q_plan q_guess q_page_letters v_isKept v_squaresRead v_ordersDone (ρ.2.1) (ρ.2.2)) sz) 0 0 (va_A (kwX8_letter cI cZ q q_page q_ground q_now q_kept q_ahead q_trade q_plan q_guess q_page_letters v_isKept v_squaresRead v_ordersDone v_page_size v_page_letters) sz) :=
  mk_i (by decide) (Nat.le_of_ble_eq_true rfl) (fun X hrm ret hw hl => wX8_letter X hrm ret h _ _ _ hw hl)
theorem dX8_blank_0 : decode cX8_blank 0 = .ok (.aload_n 0, 1) := by decide +kernel
theorem dX8_blank_1 : decode cX8_blank 1 = .ok (.getfield 10, 3) := by decide +kernel
theorem dX8_blank_4 : decode cX8_blank 4 = .ok (.getfield 61, 3) := by decide +kernel
theorem dX8_blank_7 : decode cX8_blank 7 = .ok (.istore_n 1, 1) := by decide +kernel
theorem dX8_blank_8 : decode cX8_blank 8 = .ok (.aload_n 0, 1) := by decide +kernel
theorem dX8_blank_9 : decode cX8_blank 9 = .ok (.getfield 10, 3) := by decide +kernel
theorem dX8_blank_12 : decode cX8_blank 12 = .ok (.iconst 0, 1) := by decide +kernel
theorem dX8_blank_13 : decode cX8_blank 13 = .ok (.putfield 61, 3) := by decide +kernel
theorem dX8_blank_16 : decode cX8_blank 16 = .ok (.iload_n 1, 1) := by decide +kernel
theorem dX8_blank_17 : decode cX8_blank 17 = .ok (.ireturn, 1) := by decide +kernel
abbrev kwX8_blank (cI cZ : ClassId) (q q_page q_ground q_now q_kept q_ahead q_trade q_plan q_guess q_page_letters : Nat) (v_isKept : Int32) (v_squaresRead : Int32) (v_ordersDone : Int32) (v_page_size : Int32) : va_W := [(q, .inr (8, [.ref q_page, .ref q_ground, .ref q_now, .ref q_kept, .ref q_ahead, .ref q_trade, .ref q_plan, .ref q_guess, .int v_isKept, .int v_squaresRead, .int v_ordersDone])), (q_page, .inr (3, [.ref q_page_letters, .int v_page_size]))]
noncomputable def fX8_blank (N : Nat) (v_page_size : Int32)  : Option (Int32 × Int32) := some (v_page_size, (0 : Int32))
set_option maxHeartbeats 4000000 in
set_option maxRecDepth 100000 in
theorem wX8_blank {p : Program} {l : Launch} {e : Env} {R : Room} {s : State} {m : MethodId} {args : Array Value} {below : List Frame} {meth : Method} {c : Code} {cells slots : Nat} {Q : State → Prop} {D : va_G} {A : Nat → Prop} {cI cZ cG : ClassId} {q q_page q_ground q_now q_kept q_ahead q_trade q_plan q_guess q_page_letters : Nat} {v_isKept : Int32} {v_squaresRead : Int32} {v_ordersDone : Int32} {v_page_size : Int32} {N : Nat} {ρ : Int32 × Int32} (X : CX p s m args c cX8_blank 2 RX8 D (TY cI cZ cG) A) (hrm : RM R 0 0 cells slots) (ret : ∀ (pc : Nat) (H : Heap) (locs : List Loc) (ls : Array Slot), decode cX8_blank pc = .ok (.ireturn, 1) → WD D A (kwX8_blank cI cZ q q_page q_ground q_now q_kept q_ahead q_trade q_plan q_guess q_page_letters v_isKept v_squaresRead v_ordersDone (ρ.2)) s.heap H locs → W p l e R s m args below meth c H locs cells slots Q (F0 m pc ls [.int ρ.1])) (h : fX8_blank N v_page_size  = some ρ) (H : Heap) (locs : List Loc) (ls : Array Slot) (hw : WD D A (kwX8_blank cI cZ q q_page q_ground q_now q_kept q_ahead q_trade q_plan q_guess q_page_letters v_isKept v_squaresRead v_ordersDone v_page_size) s.heap H locs) (hl : lv_has ls 2 [(0, .ref q)]) : W p l e R s m args below meth c H locs cells slots Q (F0 m 0 ls []) := by
  have hx := X.1.1
  have hb := X.1.2.1
  unfold fX8_blank at h
  refine lv_aload_n hx hb dX8_blank_0 rfl (lv_at hl 0 rfl) ?_
  refine kget (ci := 8) (v := .ref q_page) X hw iX8 0 rfl rfl 0 (by decide) tw_356 rfl dX8_blank_1 ?_
  refine kget (ci := 3) (v := .int v_page_size) X hw iX3 1 rfl rfl 1 (by decide) tw_357 rfl dX8_blank_4 ?_
  refine lv_istore_n (lv' := [(1, .int v_page_size), (0, .ref q)]) hx hb dX8_blank_7 rfl hl (by decide) rfl (fun ls hl => ?_)
  refine lv_aload_n hx hb dX8_blank_8 rfl (lv_at hl 1 rfl) ?_
  refine kget (ci := 8) (v := .ref q_page) X hw iX8 0 rfl rfl 0 (by decide) tw_356 rfl dX8_blank_9 ?_
  refine lv_iconst (v := (0 : Int32)) hx hb dX8_blank_12 (by decide) ?_
  refine kput (ci := 3) (v := .int (0 : Int32)) (ty := .int) X hw iX3 tyX3_ok nmX3 1 rfl rfl 1 (by decide) tw_357 rfl rfl rfl rfl (Nat.le_of_ble_eq_true rfl) dX8_blank_13 (fun H locs hw => ?_)
  have hw : WD D A (kwX8_blank cI cZ q q_page q_ground q_now q_kept q_ahead q_trade q_plan q_guess q_page_letters v_isKept v_squaresRead v_ordersDone (0 : Int32)) s.heap H locs := hw
  refine lv_iload_n hx hb dX8_blank_16 rfl (lv_at hl 0 rfl) ?_
  obtain rfl := Option.some.inj h
  exact ret _ _ _ _ dX8_blank_17 hw
set_option maxHeartbeats 4000000 in
set_option maxRecDepth 100000 in
theorem cX8_blank_ct (l : Launch) (D : va_G) (cI cZ cG : ClassId) (q q_page q_ground q_now q_kept q_ahead q_trade q_plan q_guess q_page_letters : Nat)  (v_isKept : Int32) (v_squaresRead : Int32) (v_ordersDone : Int32) (v_page_size : Int32)  (N : Nat) (ρ : Int32 × Int32) (h : fX8_blank N v_page_size  = some ρ) (sz : Nat) : Met l yX8_blank (wz yX8_blank cX8_blank 2 (some .int)) (cRm 0 0) (cPre D (TY cI cZ cG) [.ref q] (kwX8_blank cI cZ q q_page q_ground q_now q_kept q_ahead q_trade q_plan q_guess q_page_letters v_isKept v_squaresRead v_ordersDone v_page_size) sz) (cQi D (ρ.1) (kwX8_blank cI cZ q q_page q_ground q_now q_kept q_ahead q_trade q_plan q_guess q_page_letters v_isKept v_squaresRead v_ordersDone v_page_size) (kwX8_blank cI cZ q q_page q_ground q_now q_kept q_ahead q_trade q_plan q_guess q_page_letters v_isKept v_squaresRead v_ordersDone (ρ.2)) sz) 0 0 (va_A (kwX8_blank cI cZ q q_page q_ground q_now q_kept q_ahead q_trade q_plan q_guess q_page_letters v_isKept v_squaresRead v_ordersDone v_page_size) sz) :=
  mk_i (by decide) (Nat.le_of_ble_eq_true rfl) (fun X hrm ret hw hl => wX8_blank X hrm ret h _ _ _ hw hl)
theorem dX8_fault_0 : decode cX8_fault 0 = .ok (.aload_n 0, 1) := by decide +kernel
theorem dX8_fault_1 : decode cX8_fault 1 = .ok (.getfield 10, 3) := by decide +kernel
theorem dX8_fault_4 : decode cX8_fault 4 = .ok (.invokevirtual 69, 3) := by decide +kernel
theorem dX8_fault_7 : decode cX8_fault 7 = .ok (.ireturn, 1) := by decide +kernel
abbrev kwX8_fault (cI cZ : ClassId) (q q_page q_ground q_now q_kept q_ahead q_trade q_plan q_guess q_page_letters : Nat) (v_isKept : Int32) (v_squaresRead : Int32) (v_ordersDone : Int32) (v_page_size : Int32) (v_page_letters : (Nat → Int32)) : va_W := [(q, .inr (8, [.ref q_page, .ref q_ground, .ref q_now, .ref q_kept, .ref q_ahead, .ref q_trade, .ref q_plan, .ref q_guess, .int v_isKept, .int v_squaresRead, .int v_ordersDone])), (q_page, .inr (3, [.ref q_page_letters, .int v_page_size])), (q_page_letters, .inl (cI, 32, .inl v_page_letters))]
noncomputable def fX8_fault (N : Nat) (v_page_size : Int32) (v_page_letters : (Nat → Int32))   : Option (Int32) := (fX3_firstWrong N v_page_size v_page_letters).bind (fun x_4 => some x_4)
set_option maxHeartbeats 4000000 in
set_option maxRecDepth 100000 in
theorem wX8_fault {p : Program} {l : Launch} {e : Env} {R : Room} {s : State} {m : MethodId} {args : Array Value} {below : List Frame} {meth : Method} {c : Code} {cells slots : Nat} {Q : State → Prop} {D : va_G} {A : Nat → Prop} {cI cZ cG : ClassId} {q q_page q_ground q_now q_kept q_ahead q_trade q_plan q_guess q_page_letters : Nat} {v_isKept : Int32} {v_squaresRead : Int32} {v_ordersDone : Int32} {v_page_size : Int32} {v_page_letters : (Nat → Int32)} {N : Nat} {ρ : Int32} (X : CX p s m args c cX8_fault 1 RX8 D (TY cI cZ cG) A) (hrm : RM R 3 62 cells slots) (ret : ∀ (pc : Nat) (H : Heap) (locs : List Loc) (ls : Array Slot), decode cX8_fault pc = .ok (.ireturn, 1) → WD D A (kwX8_fault cI cZ q q_page q_ground q_now q_kept q_ahead q_trade q_plan q_guess q_page_letters v_isKept v_squaresRead v_ordersDone v_page_size v_page_letters) s.heap H locs → W p l e R s m args below meth c H locs cells slots Q (F0 m pc ls [.int ρ])) (h : fX8_fault N v_page_size v_page_letters   = some ρ) (H : Heap) (locs : List Loc) (ls : Array Slot) (hw : WD D A (kwX8_fault cI cZ q q_page q_ground q_now q_kept q_ahead q_trade q_plan q_guess q_page_letters v_isKept v_squaresRead v_ordersDone v_page_size v_page_letters) s.heap H locs) (hl : lv_has ls 1 [(0, .ref q)]) : W p l e R s m args below meth c H locs cells slots Q (F0 m 0 ls []) := by
  have hx := X.1.1
  have hb := X.1.2.1
  unfold fX8_fault at h
  refine lv_aload_n hx hb dX8_fault_0 rfl (lv_at hl 0 rfl) ?_
  refine kget (ci := 8) (v := .ref q_page) X hw iX8 0 rfl rfl 0 (by decide) tw_356 rfl dX8_fault_1 ?_
  obtain ⟨x_4, hc_4, h⟩ := obd h
  refine ksV_i (ws2 := (kwX8_fault cI cZ q q_page q_ground q_now q_kept q_ahead q_trade q_plan q_guess q_page_letters v_isKept v_squaresRead v_ordersDone v_page_size v_page_letters)) (nW := 3) (ci := 3) (As := []) (rest := []) X hw rfl rfl rfl (cX3_firstWrong_ct l D cI cZ cG q_page q_page_letters v_page_size v_page_letters N x_4 hc_4 H.size) mX3_firstWrong tw_365 (hrm.call (by decide) (by decide)) [1, 2] rfl (by decide) rfl (by decide) rfl ⟨rfl, trivial⟩ rfl hl.1 rfl (Nat.le_of_ble_eq_true rfl) dX8_fault_4 ⟨hrm.2.2.1, hrm.2.2.2⟩ (fun H locs hw => ?_)
  obtain rfl := Option.some.inj h
  exact ret _ _ _ _ dX8_fault_7 hw
set_option maxHeartbeats 4000000 in
set_option maxRecDepth 100000 in
theorem cX8_fault_ct (l : Launch) (D : va_G) (cI cZ cG : ClassId) (q q_page q_ground q_now q_kept q_ahead q_trade q_plan q_guess q_page_letters : Nat)  (v_isKept : Int32) (v_squaresRead : Int32) (v_ordersDone : Int32) (v_page_size : Int32) (v_page_letters : (Nat → Int32))  (N : Nat) (ρ : Int32) (h : fX8_fault N v_page_size v_page_letters   = some ρ) (sz : Nat) : Met l yX8_fault (wz yX8_fault cX8_fault 1 (some .int)) (cRm 3 62) (cPre D (TY cI cZ cG) [.ref q] (kwX8_fault cI cZ q q_page q_ground q_now q_kept q_ahead q_trade q_plan q_guess q_page_letters v_isKept v_squaresRead v_ordersDone v_page_size v_page_letters) sz) (cQi D (ρ) (kwX8_fault cI cZ q q_page q_ground q_now q_kept q_ahead q_trade q_plan q_guess q_page_letters v_isKept v_squaresRead v_ordersDone v_page_size v_page_letters) (kwX8_fault cI cZ q q_page q_ground q_now q_kept q_ahead q_trade q_plan q_guess q_page_letters v_isKept v_squaresRead v_ordersDone v_page_size v_page_letters) sz) 0 0 (va_A (kwX8_fault cI cZ q q_page q_ground q_now q_kept q_ahead q_trade q_plan q_guess q_page_letters v_isKept v_squaresRead v_ordersDone v_page_size v_page_letters) sz) :=
  mk_i (by decide) (Nat.le_of_ble_eq_true rfl) (fun X hrm ret hw hl => wX8_fault X hrm ret h _ _ _ hw hl)
theorem dX8_square_0 : decode cX8_square 0 = .ok (.aload_n 0, 1) := by decide +kernel
theorem dX8_square_1 : decode cX8_square 1 = .ok (.getfield 10, 3) := by decide +kernel
theorem dX8_square_4 : decode cX8_square 4 = .ok (.invokevirtual 73, 3) := by decide +kernel
theorem dX8_square_7 : decode cX8_square 7 = .ok (.ifCond .ne 6, 3) := by decide +kernel
theorem dX8_square_10 : decode cX8_square 10 = .ok (.bipush (-103), 2) := by decide +kernel
theorem dX8_square_12 : decode cX8_square 12 = .ok (.ireturn, 1) := by decide +kernel
theorem dX8_square_13 : decode cX8_square 13 = .ok (.aload_n 0, 1) := by decide +kernel
theorem dX8_square_14 : decode cX8_square 14 = .ok (.getfield 19, 3) := by decide +kernel
theorem dX8_square_17 : decode cX8_square 17 = .ok (.aload_n 0, 1) := by decide +kernel
theorem dX8_square_18 : decode cX8_square 18 = .ok (.getfield 10, 3) := by decide +kernel
theorem dX8_square_21 : decode cX8_square 21 = .ok (.invokevirtual 77, 3) := by decide +kernel
theorem dX8_square_24 : decode cX8_square 24 = .ok (.aload_n 0, 1) := by decide +kernel
theorem dX8_square_25 : decode cX8_square 25 = .ok (.getfield 26, 3) := by decide +kernel
theorem dX8_square_28 : decode cX8_square 28 = .ok (.aload_n 0, 1) := by decide +kernel
theorem dX8_square_29 : decode cX8_square 29 = .ok (.getfield 10, 3) := by decide +kernel
theorem dX8_square_32 : decode cX8_square 32 = .ok (.invokevirtual 81, 3) := by decide +kernel
theorem dX8_square_35 : decode cX8_square 35 = .ok (.aload_n 0, 1) := by decide +kernel
theorem dX8_square_36 : decode cX8_square 36 = .ok (.getfield 10, 3) := by decide +kernel
theorem dX8_square_39 : decode cX8_square 39 = .ok (.iconst 0, 1) := by decide +kernel
theorem dX8_square_40 : decode cX8_square 40 = .ok (.putfield 61, 3) := by decide +kernel
theorem dX8_square_43 : decode cX8_square 43 = .ok (.aload_n 0, 1) := by decide +kernel
theorem dX8_square_44 : decode cX8_square 44 = .ok (.iconst 0, 1) := by decide +kernel
theorem dX8_square_45 : decode cX8_square 45 = .ok (.putfield 84, 3) := by decide +kernel
theorem dX8_square_48 : decode cX8_square 48 = .ok (.aload_n 0, 1) := by decide +kernel
theorem dX8_square_49 : decode cX8_square 49 = .ok (.dup, 1) := by decide +kernel
theorem dX8_square_50 : decode cX8_square 50 = .ok (.getfield 88, 3) := by decide +kernel
theorem dX8_square_53 : decode cX8_square 53 = .ok (.iconst 1, 1) := by decide +kernel
theorem dX8_square_54 : decode cX8_square 54 = .ok (.iadd, 1) := by decide +kernel
theorem dX8_square_55 : decode cX8_square 55 = .ok (.putfield 88, 3) := by decide +kernel
theorem dX8_square_58 : decode cX8_square 58 = .ok (.aload_n 0, 1) := by decide +kernel
theorem dX8_square_59 : decode cX8_square 59 = .ok (.getfield 19, 3) := by decide +kernel
theorem dX8_square_62 : decode cX8_square 62 = .ok (.getfield 91, 3) := by decide +kernel
theorem dX8_square_65 : decode cX8_square 65 = .ok (.ireturn, 1) := by decide +kernel
abbrev kwX8_square (cI cZ : ClassId) (q q_page q_ground q_now q_kept q_ahead q_trade q_plan q_guess q_page_letters q_ground_worth q_ground_liked q_now_town q_now_had q_now_wishes q_now_seen q_now_town_kindOf q_now_town_plotOf q_now_town_row q_now_town_standsOn : Nat) (v_isKept : Int32) (v_squaresRead : Int32) (v_ordersDone : Int32) (v_page_size : Int32) (v_page_letters : (Nat → Int32)) (v_ground_houses : Int32) (v_ground_worth : (Nat → Int32)) (v_ground_liked : (Nat → Int32)) (v_now_nights : Int32) (v_now_had : (Nat → Int32)) (v_now_town_houses : Int32) (v_now_town_front : Int32) (v_now_town_downFor : Int32) (v_now_town_kindOf : (Nat → Int32)) : va_W := [(q, .inr (8, [.ref q_page, .ref q_ground, .ref q_now, .ref q_kept, .ref q_ahead, .ref q_trade, .ref q_plan, .ref q_guess, .int v_isKept, .int v_squaresRead, .int v_ordersDone])), (q_page, .inr (3, [.ref q_page_letters, .int v_page_size])), (q_page_letters, .inl (cI, 32, .inl v_page_letters)), (q_ground, .inr (0, [.ref q_ground_worth, .ref q_ground_liked, .int v_ground_houses])), (q_ground_worth, .inl (cI, 12, .inl v_ground_worth)), (q_ground_liked, .inl (cI, 6, .inl v_ground_liked)), (q_now, .inr (5, [.ref q_now_town, .ref q_now_had, .ref q_now_wishes, .ref q_now_seen, .int v_now_nights])), (q_now_had, .inl (cI, 6, .inl v_now_had)), (q_now_town, .inr (6, [.ref q_now_town_kindOf, .ref q_now_town_plotOf, .ref q_now_town_row, .ref q_now_town_standsOn, .int v_now_town_houses, .int v_now_town_front, .int v_now_town_downFor])), (q_now_town_kindOf, .inl (cI, 6, .inl v_now_town_kindOf))]
noncomputable def fX8_square (N : Nat) (v_page_letters : (Nat → Int32)) (v_isKept : Int32) (v_squaresRead : Int32) (v_page_size : Int32) (v_ground_houses : Int32) (v_ground_worth : (Nat → Int32)) (v_ground_liked : (Nat → Int32)) (v_now_had : (Nat → Int32)) (v_now_town_kindOf : (Nat → Int32))  : Option (Int32 × Int32 × Int32 × Int32 × Int32 × (Nat → Int32) × (Nat → Int32) × (Nat → Int32) × (Nat → Int32)) := (fX3_isSquare N v_page_size v_page_letters).bind (fun x_4 => if x_4 = 0 then (some ((-103 : Int32), v_isKept, v_squaresRead, v_page_size, v_ground_houses, v_ground_worth, v_ground_liked, v_now_had, v_now_town_kindOf)) else ((fX0_readFrom N v_page_size v_page_letters v_ground_houses v_ground_worth v_ground_liked).bind (fun x_21 => (fX5_beginFrom N v_page_size v_page_letters v_now_had v_now_town_kindOf).bind (fun x_32 => some (x_21.1, (0 : Int32), (v_squaresRead + (1 : Int32)), (0 : Int32), x_21.1, x_21.2.1, x_21.2.2, x_32.1, x_32.2)))))
set_option maxHeartbeats 4000000 in
set_option maxRecDepth 100000 in
theorem wX8_square {p : Program} {l : Launch} {e : Env} {R : Room} {s : State} {m : MethodId} {args : Array Value} {below : List Frame} {meth : Method} {c : Code} {cells slots : Nat} {Q : State → Prop} {D : va_G} {A : Nat → Prop} {cI cZ cG : ClassId} {q q_page q_ground q_now q_kept q_ahead q_trade q_plan q_guess q_page_letters q_ground_worth q_ground_liked q_now_town q_now_had q_now_wishes q_now_seen q_now_town_kindOf q_now_town_plotOf q_now_town_row q_now_town_standsOn : Nat} {v_isKept : Int32} {v_squaresRead : Int32} {v_ordersDone : Int32} {v_page_size : Int32} {v_page_letters : (Nat → Int32)} {v_ground_houses : Int32} {v_ground_worth : (Nat → Int32)} {v_ground_liked : (Nat → Int32)} {v_now_nights : Int32} {v_now_had : (Nat → Int32)} {v_now_town_houses : Int32} {v_now_town_front : Int32} {v_now_town_downFor : Int32} {v_now_town_kindOf : (Nat → Int32)} {N : Nat} {ρ : Int32 × Int32 × Int32 × Int32 × Int32 × (Nat → Int32) × (Nat → Int32) × (Nat → Int32) × (Nat → Int32)} (X : CX p s m args c cX8_square 1 RX8 D (TY cI cZ cG) A) (hrm : RM R 4 83 cells slots) (ret : ∀ (pc : Nat) (H : Heap) (locs : List Loc) (ls : Array Slot), decode cX8_square pc = .ok (.ireturn, 1) → WD D A (kwX8_square cI cZ q q_page q_ground q_now q_kept q_ahead q_trade q_plan q_guess q_page_letters q_ground_worth q_ground_liked q_now_town q_now_had q_now_wishes q_now_seen q_now_town_kindOf q_now_town_plotOf q_now_town_row q_now_town_standsOn (ρ.2.1) (ρ.2.2.1) v_ordersDone (ρ.2.2.2.1) v_page_letters (ρ.2.2.2.2.1) (ρ.2.2.2.2.2.1) (ρ.2.2.2.2.2.2.1) v_now_nights (ρ.2.2.2.2.2.2.2.1) v_now_town_houses v_now_town_front v_now_town_downFor (ρ.2.2.2.2.2.2.2.2)) s.heap H locs → W p l e R s m args below meth c H locs cells slots Q (F0 m pc ls [.int ρ.1])) (h : fX8_square N v_page_letters v_isKept v_squaresRead v_page_size v_ground_houses v_ground_worth v_ground_liked v_now_had v_now_town_kindOf  = some ρ) (H : Heap) (locs : List Loc) (ls : Array Slot) (hw : WD D A (kwX8_square cI cZ q q_page q_ground q_now q_kept q_ahead q_trade q_plan q_guess q_page_letters q_ground_worth q_ground_liked q_now_town q_now_had q_now_wishes q_now_seen q_now_town_kindOf q_now_town_plotOf q_now_town_row q_now_town_standsOn v_isKept v_squaresRead v_ordersDone v_page_size v_page_letters v_ground_houses v_ground_worth v_ground_liked v_now_nights v_now_had v_now_town_houses v_now_town_front v_now_town_downFor v_now_town_kindOf) s.heap H locs) (hl : lv_has ls 1 [(0, .ref q)]) : W p l e R s m args below meth c H locs cells slots Q (F0 m 0 ls []) := by
  have hx := X.1.1
  have hb := X.1.2.1
  unfold fX8_square at h
  refine lv_aload_n hx hb dX8_square_0 rfl (lv_at hl 0 rfl) ?_
  refine kget (ci := 8) (v := .ref q_page) X hw iX8 0 rfl rfl 0 (by decide) tw_356 rfl dX8_square_1 ?_
  obtain ⟨x_4, hc_4, h⟩ := obd h
  refine ksV_i (ws2 := (kwX8_square cI cZ q q_page q_ground q_now q_kept q_ahead q_trade q_plan q_guess q_page_letters q_ground_worth q_ground_liked q_now_town q_now_had q_now_wishes q_now_seen q_now_town_kindOf q_now_town_plotOf q_now_town_row q_now_town_standsOn v_isKept v_squaresRead v_ordersDone v_page_size v_page_letters v_ground_houses v_ground_worth v_ground_liked v_now_nights v_now_had v_now_town_houses v_now_town_front v_now_town_downFor v_now_town_kindOf)) (nW := 10) (ci := 3) (As := []) (rest := []) X hw rfl rfl rfl (cX3_isSquare_ct l D cI cZ cG q_page q_page_letters v_page_size v_page_letters N x_4 hc_4 H.size) mX3_isSquare tw_369 (hrm.call (by decide) (by decide)) [1, 2] rfl (by decide) rfl (by decide) rfl ⟨rfl, ⟨rfl, ⟨rfl, ⟨rfl, ⟨rfl, ⟨rfl, ⟨rfl, ⟨rfl, trivial⟩⟩⟩⟩⟩⟩⟩⟩ rfl hl.1 rfl (Nat.le_of_ble_eq_true rfl) dX8_square_4 ⟨hrm.2.2.1, hrm.2.2.2⟩ (fun H locs hw => ?_)
  refine lv_if_ne (tgt := 13) hx hb dX8_square_7 (by decide) (fun c_7 => ?_) (fun c_7 => ?_)
  · have h := iff_ c_7 h
    refine lv_aload_n hx hb dX8_square_13 rfl (lv_at hl 0 rfl) ?_
    refine kget (ci := 8) (v := .ref q_ground) X hw iX8 0 rfl rfl 1 (by decide) tw_370 rfl dX8_square_14 ?_
    refine lv_aload_n hx hb dX8_square_17 rfl (lv_at hl 0 rfl) ?_
    refine kget (ci := 8) (v := .ref q_page) X hw iX8 0 rfl rfl 0 (by decide) tw_356 rfl dX8_square_18 ?_
    obtain ⟨x_21, hc_21, h⟩ := obd h
    refine ksV_v (ws2 := (kwX8_square cI cZ q q_page q_ground q_now q_kept q_ahead q_trade q_plan q_guess q_page_letters q_ground_worth q_ground_liked q_now_town q_now_had q_now_wishes q_now_seen q_now_town_kindOf q_now_town_plotOf q_now_town_row q_now_town_standsOn v_isKept v_squaresRead v_ordersDone v_page_size v_page_letters x_21.1 x_21.2.1 x_21.2.2 v_now_nights v_now_had v_now_town_houses v_now_town_front v_now_town_downFor v_now_town_kindOf)) (nW := 10) (ci := 0) (As := [.ref q_page]) (rest := []) X hw rfl rfl rfl (cX0_readFrom_ct l D cI cZ cG q_ground q_ground_worth q_ground_liked q_page q_page_letters v_ground_houses v_page_size v_page_letters v_ground_worth v_ground_liked N x_21 hc_21 H.size) mX0_readFrom tw_371 (hrm.call (by decide) (by decide)) [3, 1, 2, 4, 5] rfl (by decide) rfl (by decide) rfl ⟨rfl, ⟨rfl, ⟨rfl, ⟨rfl, ⟨rfl, trivial⟩⟩⟩⟩⟩ rfl hl.1 rfl (Nat.le_of_ble_eq_true rfl) dX8_square_21 ⟨hrm.2.2.1, hrm.2.2.2⟩ (fun H locs hw => ?_)
    refine lv_aload_n hx hb dX8_square_24 rfl (lv_at hl 0 rfl) ?_
    refine kget (ci := 8) (v := .ref q_now) X hw iX8 0 rfl rfl 2 (by decide) tw_372 rfl dX8_square_25 ?_
    refine lv_aload_n hx hb dX8_square_28 rfl (lv_at hl 0 rfl) ?_
    refine kget (ci := 8) (v := .ref q_page) X hw iX8 0 rfl rfl 0 (by decide) tw_356 rfl dX8_square_29 ?_
    obtain ⟨x_32, hc_32, h⟩ := obd h
    refine ksV_v (ws2 := (kwX8_square cI cZ q q_page q_ground q_now q_kept q_ahead q_trade q_plan q_guess q_page_letters q_ground_worth q_ground_liked q_now_town q_now_had q_now_wishes q_now_seen q_now_town_kindOf q_now_town_plotOf q_now_town_row q_now_town_standsOn v_isKept v_squaresRead v_ordersDone v_page_size v_page_letters x_21.1 x_21.2.1 x_21.2.2 v_now_nights x_32.1 v_now_town_houses v_now_town_front v_now_town_downFor x_32.2)) (nW := 10) (ci := 5) (As := [.ref q_page]) (rest := []) X hw rfl rfl rfl (cX5_beginFrom_ct l D cI cZ cG q_now q_now_town q_now_had q_now_wishes q_now_seen q_page q_page_letters q_now_town_kindOf q_now_town_plotOf q_now_town_row q_now_town_standsOn v_now_nights v_page_size v_now_had v_now_town_houses v_now_town_front v_now_town_downFor v_page_letters v_now_town_kindOf N x_32 hc_32 H.size) mX5_beginFrom tw_373 (hrm.call (by decide) (by decide)) [6, 1, 7, 8, 2, 9] rfl (by decide) rfl (by decide) rfl ⟨rfl, ⟨rfl, ⟨rfl, ⟨rfl, trivial⟩⟩⟩⟩ rfl hl.1 rfl (Nat.le_of_ble_eq_true rfl) dX8_square_32 ⟨hrm.2.2.1, hrm.2.2.2⟩ (fun H locs hw => ?_)
    refine lv_aload_n hx hb dX8_square_35 rfl (lv_at hl 0 rfl) ?_
    refine kget (ci := 8) (v := .ref q_page) X hw iX8 0 rfl rfl 0 (by decide) tw_356 rfl dX8_square_36 ?_
    refine lv_iconst (v := (0 : Int32)) hx hb dX8_square_39 (by decide) ?_
    refine kput (ci := 3) (v := .int (0 : Int32)) (ty := .int) X hw iX3 tyX3_ok nmX3 1 rfl rfl 1 (by decide) tw_357 rfl rfl rfl rfl (Nat.le_of_ble_eq_true rfl) dX8_square_40 (fun H locs hw => ?_)
    have hw : WD D A (kwX8_square cI cZ q q_page q_ground q_now q_kept q_ahead q_trade q_plan q_guess q_page_letters q_ground_worth q_ground_liked q_now_town q_now_had q_now_wishes q_now_seen q_now_town_kindOf q_now_town_plotOf q_now_town_row q_now_town_standsOn v_isKept v_squaresRead v_ordersDone (0 : Int32) v_page_letters x_21.1 x_21.2.1 x_21.2.2 v_now_nights x_32.1 v_now_town_houses v_now_town_front v_now_town_downFor x_32.2) s.heap H locs := hw
    refine lv_aload_n hx hb dX8_square_43 rfl (lv_at hl 0 rfl) ?_
    refine lv_iconst (v := (0 : Int32)) hx hb dX8_square_44 (by decide) ?_
    refine kput (ci := 8) (v := .int (0 : Int32)) (ty := .boolean) X hw iX8 tyX8_ok nmX8 0 rfl rfl 8 (by decide) tw_374 rfl rfl rfl rfl (Nat.le_of_ble_eq_true rfl) dX8_square_45 (fun H locs hw => ?_)
    have hw : WD D A (kwX8_square cI cZ q q_page q_ground q_now q_kept q_ahead q_trade q_plan q_guess q_page_letters q_ground_worth q_ground_liked q_now_town q_now_had q_now_wishes q_now_seen q_now_town_kindOf q_now_town_plotOf q_now_town_row q_now_town_standsOn (0 : Int32) v_squaresRead v_ordersDone (0 : Int32) v_page_letters x_21.1 x_21.2.1 x_21.2.2 v_now_nights x_32.1 v_now_town_houses v_now_town_front v_now_town_downFor x_32.2) s.heap H locs := hw
    refine lv_aload_n hx hb dX8_square_48 rfl (lv_at hl 0 rfl) ?_
    refine lv_dup hx hb dX8_square_49 rfl ?_
    refine kget (ci := 8) (v := .int v_squaresRead) X hw iX8 0 rfl rfl 9 (by decide) tw_375 rfl dX8_square_50 ?_
    refine lv_iconst (v := (1 : Int32)) hx hb dX8_square_53 (by decide) ?_
    refine lv_iadd hx hb dX8_square_54 ?_
    refine kput (ci := 8) (v := .int (v_squaresRead + (1 : Int32))) (ty := .int) X hw iX8 tyX8_ok nmX8 0 rfl rfl 9 (by decide) tw_375 rfl rfl rfl rfl (Nat.le_of_ble_eq_true rfl) dX8_square_55 (fun H locs hw => ?_)
    have hw : WD D A (kwX8_square cI cZ q q_page q_ground q_now q_kept q_ahead q_trade q_plan q_guess q_page_letters q_ground_worth q_ground_liked q_now_town q_now_had q_now_wishes q_now_seen q_now_town_kindOf q_now_town_plotOf q_now_town_row q_now_town_standsOn (0 : Int32) (v_squaresRead + (1 : Int32)) v_ordersDone (0 : Int32) v_page_letters x_21.1 x_21.2.1 x_21.2.2 v_now_nights x_32.1 v_now_town_houses v_now_town_front v_now_town_downFor x_32.2) s.heap H locs := hw
    refine lv_aload_n hx hb dX8_square_58 rfl (lv_at hl 0 rfl) ?_
    refine kget (ci := 8) (v := .ref q_ground) X hw iX8 0 rfl rfl 1 (by decide) tw_370 rfl dX8_square_59 ?_
    refine kget (ci := 0) (v := .int x_21.1) X hw iX0 3 rfl rfl 2 (by decide) tw_376 rfl dX8_square_62 ?_
    obtain rfl := Option.some.inj h
    exact ret _ _ _ _ dX8_square_65 hw
  · have h := ift c_7 h
    refine lv_bipush (v := (-103 : Int32)) hx hb dX8_square_10 (by decide) ?_
    obtain rfl := Option.some.inj h
    exact ret _ _ _ _ dX8_square_12 hw
set_option maxHeartbeats 4000000 in
set_option maxRecDepth 100000 in
theorem cX8_square_ct (l : Launch) (D : va_G) (cI cZ cG : ClassId) (q q_page q_ground q_now q_kept q_ahead q_trade q_plan q_guess q_page_letters q_ground_worth q_ground_liked q_now_town q_now_had q_now_wishes q_now_seen q_now_town_kindOf q_now_town_plotOf q_now_town_row q_now_town_standsOn : Nat)  (v_isKept : Int32) (v_squaresRead : Int32) (v_ordersDone : Int32) (v_page_size : Int32) (v_page_letters : (Nat → Int32)) (v_ground_houses : Int32) (v_ground_worth : (Nat → Int32)) (v_ground_liked : (Nat → Int32)) (v_now_nights : Int32) (v_now_had : (Nat → Int32)) (v_now_town_houses : Int32) (v_now_town_front : Int32) (v_now_town_downFor : Int32) (v_now_town_kindOf : (Nat → Int32))  (N : Nat) (ρ : Int32 × Int32 × Int32 × Int32 × Int32 × (Nat → Int32) × (Nat → Int32) × (Nat → Int32) × (Nat → Int32)) (h : fX8_square N v_page_letters v_isKept v_squaresRead v_page_size v_ground_houses v_ground_worth v_ground_liked v_now_had v_now_town_kindOf  = some ρ) (sz : Nat) : Met l yX8_square (wz yX8_square cX8_square 1 (some .int)) (cRm 4 83) (cPre D (TY cI cZ cG) [.ref q] (kwX8_square cI cZ q q_page q_ground q_now q_kept q_ahead q_trade q_plan q_guess q_page_letters q_ground_worth q_ground_liked q_now_town q_now_had q_now_wishes q_now_seen q_now_town_kindOf q_now_town_plotOf q_now_town_row q_now_town_standsOn v_isKept v_squaresRead v_ordersDone v_page_size v_page_letters v_ground_houses v_ground_worth v_ground_liked v_now_nights v_now_had v_now_town_houses v_now_town_front v_now_town_downFor v_now_town_kindOf) sz) (cQi D (ρ.1) (kwX8_square cI cZ q q_page q_ground q_now q_kept q_ahead q_trade q_plan q_guess q_page_letters q_ground_worth q_ground_liked q_now_town q_now_had q_now_wishes q_now_seen q_now_town_kindOf q_now_town_plotOf q_now_town_row q_now_town_standsOn v_isKept v_squaresRead v_ordersDone v_page_size v_page_letters v_ground_houses v_ground_worth v_ground_liked v_now_nights v_now_had v_now_town_houses v_now_town_front v_now_town_downFor v_now_town_kindOf) (kwX8_square cI cZ q q_page q_ground q_now q_kept q_ahead q_trade q_plan q_guess q_page_letters q_ground_worth q_ground_liked q_now_town q_now_had q_now_wishes q_now_seen q_now_town_kindOf q_now_town_plotOf q_now_town_row q_now_town_standsOn (ρ.2.1) (ρ.2.2.1) v_ordersDone (ρ.2.2.2.1) v_page_letters (ρ.2.2.2.2.1) (ρ.2.2.2.2.2.1) (ρ.2.2.2.2.2.2.1) v_now_nights (ρ.2.2.2.2.2.2.2.1) v_now_town_houses v_now_town_front v_now_town_downFor (ρ.2.2.2.2.2.2.2.2)) sz) 0 0 (va_A (kwX8_square cI cZ q q_page q_ground q_now q_kept q_ahead q_trade q_plan q_guess q_page_letters q_ground_worth q_ground_liked q_now_town q_now_had q_now_wishes q_now_seen q_now_town_kindOf q_now_town_plotOf q_now_town_row q_now_town_standsOn v_isKept v_squaresRead v_ordersDone v_page_size v_page_letters v_ground_houses v_ground_worth v_ground_liked v_now_nights v_now_had v_now_town_houses v_now_town_front v_now_town_downFor v_now_town_kindOf) sz) :=
  mk_i (by decide) (Nat.le_of_ble_eq_true rfl) (fun X hrm ret hw hl => wX8_square X hrm ret h _ _ _ hw hl)
theorem dX8_isHouse_0 : decode cX8_isHouse 0 = .ok (.iload_n 1, 1) := by decide +kernel
theorem dX8_isHouse_1 : decode cX8_isHouse 1 = .ok (.ifCond .lt 18, 3) := by decide +kernel
theorem dX8_isHouse_4 : decode cX8_isHouse 4 = .ok (.iload_n 1, 1) := by decide +kernel
theorem dX8_isHouse_5 : decode cX8_isHouse 5 = .ok (.aload_n 0, 1) := by decide +kernel
theorem dX8_isHouse_6 : decode cX8_isHouse 6 = .ok (.getfield 19, 3) := by decide +kernel
theorem dX8_isHouse_9 : decode cX8_isHouse 9 = .ok (.getfield 91, 3) := by decide +kernel
theorem dX8_isHouse_12 : decode cX8_isHouse 12 = .ok (.if_icmp .ge 7, 3) := by decide +kernel
theorem dX8_isHouse_15 : decode cX8_isHouse 15 = .ok (.iconst 1, 1) := by decide +kernel
theorem dX8_isHouse_16 : decode cX8_isHouse 16 = .ok (.goto 4, 3) := by decide +kernel
theorem dX8_isHouse_19 : decode cX8_isHouse 19 = .ok (.iconst 0, 1) := by decide +kernel
theorem dX8_isHouse_20 : decode cX8_isHouse 20 = .ok (.ireturn, 1) := by decide +kernel
abbrev kwX8_isHouse (cI cZ : ClassId) (q q_page q_ground q_now q_kept q_ahead q_trade q_plan q_guess q_ground_worth q_ground_liked : Nat) (v_isKept : Int32) (v_squaresRead : Int32) (v_ordersDone : Int32) (v_ground_houses : Int32) : va_W := [(q, .inr (8, [.ref q_page, .ref q_ground, .ref q_now, .ref q_kept, .ref q_ahead, .ref q_trade, .ref q_plan, .ref q_guess, .int v_isKept, .int v_squaresRead, .int v_ordersDone])), (q_ground, .inr (0, [.ref q_ground_worth, .ref q_ground_liked, .int v_ground_houses]))]
noncomputable def fX8_isHouse (N : Nat) (v_ground_houses : Int32) (a1 : Int32)   : Option (Int32) := if a1 < 0 then (some (0 : Int32)) else (if v_ground_houses ≤ a1 then (some (0 : Int32)) else (some (1 : Int32)))
set_option maxHeartbeats 4000000 in
set_option maxRecDepth 100000 in
theorem wX8_isHouse {p : Program} {l : Launch} {e : Env} {R : Room} {s : State} {m : MethodId} {args : Array Value} {below : List Frame} {meth : Method} {c : Code} {cells slots : Nat} {Q : State → Prop} {D : va_G} {A : Nat → Prop} {cI cZ cG : ClassId} {q q_page q_ground q_now q_kept q_ahead q_trade q_plan q_guess q_ground_worth q_ground_liked : Nat} {v_isKept : Int32} {v_squaresRead : Int32} {v_ordersDone : Int32} {v_ground_houses : Int32} {a1 : Int32} {N : Nat} {ρ : Int32} (X : CX p s m args c cX8_isHouse 2 RX8 D (TY cI cZ cG) A) (hrm : RM R 0 0 cells slots) (ret : ∀ (pc : Nat) (H : Heap) (locs : List Loc) (ls : Array Slot), narrow .boolean (.int ρ) = .int ρ → decode cX8_isHouse pc = .ok (.ireturn, 1) → WD D A (kwX8_isHouse cI cZ q q_page q_ground q_now q_kept q_ahead q_trade q_plan q_guess q_ground_worth q_ground_liked v_isKept v_squaresRead v_ordersDone v_ground_houses) s.heap H locs → W p l e R s m args below meth c H locs cells slots Q (F0 m pc ls [.int ρ])) (h : fX8_isHouse N v_ground_houses a1   = some ρ) (H : Heap) (locs : List Loc) (ls : Array Slot) (hw : WD D A (kwX8_isHouse cI cZ q q_page q_ground q_now q_kept q_ahead q_trade q_plan q_guess q_ground_worth q_ground_liked v_isKept v_squaresRead v_ordersDone v_ground_houses) s.heap H locs) (hl : lv_has ls 2 [(0, .ref q), (1, .int a1)]) : W p l e R s m args below meth c H locs cells slots Q (F0 m 0 ls []) := by
  have hx := X.1.1
  have hb := X.1.2.1
  unfold fX8_isHouse at h
  refine lv_iload_n hx hb dX8_isHouse_0 rfl (lv_at hl 1 rfl) ?_
  refine lv_if_lt (tgt := 19) hx hb dX8_isHouse_1 (by decide) (fun c_1 => ?_) (fun c_1 => ?_)
  · have h := ift c_1 h
    refine lv_iconst (v := (0 : Int32)) hx hb dX8_isHouse_19 (by decide) ?_
    obtain rfl := Option.some.inj h
    exact ret _ _ _ _ (show narrow .boolean (.int (0 : Int32)) = .int (0 : Int32) from rfl) dX8_isHouse_20 hw
  · have h := iff_ c_1 h
    refine lv_iload_n hx hb dX8_isHouse_4 rfl (lv_at hl 1 rfl) ?_
    refine lv_aload_n hx hb dX8_isHouse_5 rfl (lv_at hl 0 rfl) ?_
    refine kget (ci := 8) (v := .ref q_ground) X hw iX8 0 rfl rfl 1 (by decide) tw_370 rfl dX8_isHouse_6 ?_
    refine kget (ci := 0) (v := .int v_ground_houses) X hw iX0 1 rfl rfl 2 (by decide) tw_376 rfl dX8_isHouse_9 ?_
    refine lv_icmp_ge (tgt := 19) hx hb dX8_isHouse_12 (by decide) (fun c_12 => ?_) (fun c_12 => ?_)
    · have h := ift c_12 h
      refine lv_iconst (v := (0 : Int32)) hx hb dX8_isHouse_19 (by decide) ?_
      obtain rfl := Option.some.inj h
      exact ret _ _ _ _ (show narrow .boolean (.int (0 : Int32)) = .int (0 : Int32) from rfl) dX8_isHouse_20 hw
    · have h := iff_ c_12 h
      refine lv_iconst (v := (1 : Int32)) hx hb dX8_isHouse_15 (by decide) ?_
      refine lv_goto (tgt := 20) hx hb dX8_isHouse_16 (by decide) ?_
      obtain rfl := Option.some.inj h
      exact ret _ _ _ _ (show narrow .boolean (.int (1 : Int32)) = .int (1 : Int32) from rfl) dX8_isHouse_20 hw
set_option maxHeartbeats 4000000 in
set_option maxRecDepth 100000 in
theorem cX8_isHouse_ct (l : Launch) (D : va_G) (cI cZ cG : ClassId) (q q_page q_ground q_now q_kept q_ahead q_trade q_plan q_guess q_ground_worth q_ground_liked : Nat)  (v_isKept : Int32) (v_squaresRead : Int32) (v_ordersDone : Int32) (v_ground_houses : Int32) (a1 : Int32) (N : Nat) (ρ : Int32) (h : fX8_isHouse N v_ground_houses a1   = some ρ) (sz : Nat) : Met l yX8_isHouse (wz yX8_isHouse cX8_isHouse 2 (some .boolean)) (cRm 0 0) (cPre D (TY cI cZ cG) [.ref q, .int a1] (kwX8_isHouse cI cZ q q_page q_ground q_now q_kept q_ahead q_trade q_plan q_guess q_ground_worth q_ground_liked v_isKept v_squaresRead v_ordersDone v_ground_houses) sz) (cQi D (ρ) (kwX8_isHouse cI cZ q q_page q_ground q_now q_kept q_ahead q_trade q_plan q_guess q_ground_worth q_ground_liked v_isKept v_squaresRead v_ordersDone v_ground_houses) (kwX8_isHouse cI cZ q q_page q_ground q_now q_kept q_ahead q_trade q_plan q_guess q_ground_worth q_ground_liked v_isKept v_squaresRead v_ordersDone v_ground_houses) sz) 0 0 (va_A (kwX8_isHouse cI cZ q q_page q_ground q_now q_kept q_ahead q_trade q_plan q_guess q_ground_worth q_ground_liked v_isKept v_squaresRead v_ordersDone v_ground_houses) sz) :=
  mk_z (by decide) (Nat.le_of_ble_eq_true rfl) (fun X hrm ret hw hl => wX8_isHouse X hrm ret h _ _ _ hw hl)
theorem dX8_house_0 : decode cX8_house 0 = .ok (.aload_n 0, 1) := by decide +kernel
theorem dX8_house_1 : decode cX8_house 1 = .ok (.iload_n 1, 1) := by decide +kernel
theorem dX8_house_2 : decode cX8_house 2 = .ok (.invokevirtual 94, 3) := by decide +kernel
theorem dX8_house_5 : decode cX8_house 5 = .ok (.ifCond .ne 6, 3) := by decide +kernel
theorem dX8_house_8 : decode cX8_house 8 = .ok (.bipush (-101), 2) := by decide +kernel
theorem dX8_house_10 : decode cX8_house 10 = .ok (.ireturn, 1) := by decide +kernel
theorem dX8_house_11 : decode cX8_house 11 = .ok (.iload_n 2, 1) := by decide +kernel
theorem dX8_house_12 : decode cX8_house 12 = .ok (.tableswitch 160 0 7 #[48, 61, 71, 84, 96, 106, 119, 132], 48) := by decide +kernel
theorem dX8_house_60 : decode cX8_house 60 = .ok (.aload_n 0, 1) := by decide +kernel
theorem dX8_house_61 : decode cX8_house 61 = .ok (.getfield 26, 3) := by decide +kernel
theorem dX8_house_64 : decode cX8_house 64 = .ok (.getfield 98, 3) := by decide +kernel
theorem dX8_house_67 : decode cX8_house 67 = .ok (.getfield 101, 3) := by decide +kernel
theorem dX8_house_70 : decode cX8_house 70 = .ok (.iload_n 1, 1) := by decide +kernel
theorem dX8_house_71 : decode cX8_house 71 = .ok (.iaload, 1) := by decide +kernel
theorem dX8_house_72 : decode cX8_house 72 = .ok (.ireturn, 1) := by decide +kernel
theorem dX8_house_73 : decode cX8_house 73 = .ok (.aload_n 0, 1) := by decide +kernel
theorem dX8_house_74 : decode cX8_house 74 = .ok (.getfield 19, 3) := by decide +kernel
theorem dX8_house_77 : decode cX8_house 77 = .ok (.getfield 105, 3) := by decide +kernel
theorem dX8_house_80 : decode cX8_house 80 = .ok (.iload_n 1, 1) := by decide +kernel
theorem dX8_house_81 : decode cX8_house 81 = .ok (.iaload, 1) := by decide +kernel
theorem dX8_house_82 : decode cX8_house 82 = .ok (.ireturn, 1) := by decide +kernel
theorem dX8_house_83 : decode cX8_house 83 = .ok (.aload_n 0, 1) := by decide +kernel
theorem dX8_house_84 : decode cX8_house 84 = .ok (.getfield 26, 3) := by decide +kernel
theorem dX8_house_87 : decode cX8_house 87 = .ok (.getfield 98, 3) := by decide +kernel
theorem dX8_house_90 : decode cX8_house 90 = .ok (.getfield 108, 3) := by decide +kernel
theorem dX8_house_93 : decode cX8_house 93 = .ok (.iload_n 1, 1) := by decide +kernel
theorem dX8_house_94 : decode cX8_house 94 = .ok (.iaload, 1) := by decide +kernel
theorem dX8_house_95 : decode cX8_house 95 = .ok (.ireturn, 1) := by decide +kernel
theorem dX8_house_96 : decode cX8_house 96 = .ok (.aload_n 0, 1) := by decide +kernel
theorem dX8_house_97 : decode cX8_house 97 = .ok (.getfield 26, 3) := by decide +kernel
theorem dX8_house_100 : decode cX8_house 100 = .ok (.getfield 98, 3) := by decide +kernel
theorem dX8_house_103 : decode cX8_house 103 = .ok (.iload_n 1, 1) := by decide +kernel
theorem dX8_house_104 : decode cX8_house 104 = .ok (.invokevirtual 111, 3) := by decide +kernel
theorem dX8_house_107 : decode cX8_house 107 = .ok (.ireturn, 1) := by decide +kernel
theorem dX8_house_108 : decode cX8_house 108 = .ok (.aload_n 0, 1) := by decide +kernel
theorem dX8_house_109 : decode cX8_house 109 = .ok (.getfield 26, 3) := by decide +kernel
theorem dX8_house_112 : decode cX8_house 112 = .ok (.getfield 115, 3) := by decide +kernel
theorem dX8_house_115 : decode cX8_house 115 = .ok (.iload_n 1, 1) := by decide +kernel
theorem dX8_house_116 : decode cX8_house 116 = .ok (.iaload, 1) := by decide +kernel
theorem dX8_house_117 : decode cX8_house 117 = .ok (.ireturn, 1) := by decide +kernel
theorem dX8_house_118 : decode cX8_house 118 = .ok (.aload_n 0, 1) := by decide +kernel
theorem dX8_house_119 : decode cX8_house 119 = .ok (.getfield 57, 3) := by decide +kernel
theorem dX8_house_122 : decode cX8_house 122 = .ok (.iload_n 1, 1) := by decide +kernel
theorem dX8_house_123 : decode cX8_house 123 = .ok (.aload_n 0, 1) := by decide +kernel
theorem dX8_house_124 : decode cX8_house 124 = .ok (.getfield 26, 3) := by decide +kernel
theorem dX8_house_127 : decode cX8_house 127 = .ok (.invokevirtual 118, 3) := by decide +kernel
theorem dX8_house_130 : decode cX8_house 130 = .ok (.ireturn, 1) := by decide +kernel
theorem dX8_house_131 : decode cX8_house 131 = .ok (.aload_n 0, 1) := by decide +kernel
theorem dX8_house_132 : decode cX8_house 132 = .ok (.getfield 57, 3) := by decide +kernel
theorem dX8_house_135 : decode cX8_house 135 = .ok (.iload_n 1, 1) := by decide +kernel
theorem dX8_house_136 : decode cX8_house 136 = .ok (.aload_n 0, 1) := by decide +kernel
theorem dX8_house_137 : decode cX8_house 137 = .ok (.getfield 26, 3) := by decide +kernel
theorem dX8_house_140 : decode cX8_house 140 = .ok (.invokevirtual 122, 3) := by decide +kernel
theorem dX8_house_143 : decode cX8_house 143 = .ok (.ireturn, 1) := by decide +kernel
theorem dX8_house_144 : decode cX8_house 144 = .ok (.aload_n 0, 1) := by decide +kernel
theorem dX8_house_145 : decode cX8_house 145 = .ok (.getfield 43, 3) := by decide +kernel
theorem dX8_house_148 : decode cX8_house 148 = .ok (.aload_n 0, 1) := by decide +kernel
theorem dX8_house_149 : decode cX8_house 149 = .ok (.getfield 26, 3) := by decide +kernel
theorem dX8_house_152 : decode cX8_house 152 = .ok (.getfield 98, 3) := by decide +kernel
theorem dX8_house_155 : decode cX8_house 155 = .ok (.aload_n 0, 1) := by decide +kernel
theorem dX8_house_156 : decode cX8_house 156 = .ok (.getfield 19, 3) := by decide +kernel
theorem dX8_house_159 : decode cX8_house 159 = .ok (.invokevirtual 125, 3) := by decide +kernel
theorem dX8_house_162 : decode cX8_house 162 = .ok (.aload_n 0, 1) := by decide +kernel
theorem dX8_house_163 : decode cX8_house 163 = .ok (.getfield 43, 3) := by decide +kernel
theorem dX8_house_166 : decode cX8_house 166 = .ok (.getfield 129, 3) := by decide +kernel
theorem dX8_house_169 : decode cX8_house 169 = .ok (.iload_n 1, 1) := by decide +kernel
theorem dX8_house_170 : decode cX8_house 170 = .ok (.iaload, 1) := by decide +kernel
theorem dX8_house_171 : decode cX8_house 171 = .ok (.ireturn, 1) := by decide +kernel
theorem dX8_house_172 : decode cX8_house 172 = .ok (.bipush (-102), 2) := by decide +kernel
theorem dX8_house_174 : decode cX8_house 174 = .ok (.ireturn, 1) := by decide +kernel
abbrev kwX8_house (cI cZ : ClassId) (q q_page q_ground q_now q_kept q_ahead q_trade q_plan q_guess q_ground_worth q_ground_liked q_now_town q_now_had q_now_wishes q_now_seen q_trade_gets q_trade_pointsTo q_trade_isLeft q_now_town_kindOf q_now_town_plotOf q_now_town_row q_now_town_standsOn q_guess_track q_guess_town q_guess_town_kindOf q_guess_town_plotOf q_guess_town_row q_guess_town_standsOn q_now_seen_house q_now_seen_plot q_now_seen_night : Nat) (v_isKept : Int32) (v_squaresRead : Int32) (v_ordersDone : Int32) (v_ground_houses : Int32) (v_now_nights : Int32) (v_trade_rings : Int32) (v_now_town_houses : Int32) (v_now_town_front : Int32) (v_now_town_downFor : Int32) (v_trade_gets : (Nat → Int32)) (v_now_town_plotOf : (Nat → Int32)) (v_trade_isLeft : (Nat → Int32)) (v_ground_liked : (Nat → Int32)) (v_now_town_standsOn : (Nat → Int32)) (v_trade_pointsTo : (Nat → Int32)) (v_guess_town_houses : Int32) (v_guess_town_front : Int32) (v_guess_town_downFor : Int32) (v_now_town_kindOf : (Nat → Int32)) (v_guess_town_kindOf : (Nat → Int32)) (v_guess_town_plotOf : (Nat → Int32)) (v_now_town_row : (Nat → Int32)) (v_guess_town_row : (Nat → Int32)) (v_guess_town_standsOn : (Nat → Int32)) (v_now_seen_size : Int32) (v_now_seen_house : (Nat → Int32)) (v_now_seen_night : (Nat → Int32)) (v_now_had : (Nat → Int32)) : va_W := [(q, .inr (8, [.ref q_page, .ref q_ground, .ref q_now, .ref q_kept, .ref q_ahead, .ref q_trade, .ref q_plan, .ref q_guess, .int v_isKept, .int v_squaresRead, .int v_ordersDone])), (q_ground, .inr (0, [.ref q_ground_worth, .ref q_ground_liked, .int v_ground_houses])), (q_now, .inr (5, [.ref q_now_town, .ref q_now_had, .ref q_now_wishes, .ref q_now_seen, .int v_now_nights])), (q_trade, .inr (7, [.ref q_trade_gets, .ref q_trade_pointsTo, .ref q_trade_isLeft, .int v_trade_rings])), (q_now_town, .inr (6, [.ref q_now_town_kindOf, .ref q_now_town_plotOf, .ref q_now_town_row, .ref q_now_town_standsOn, .int v_now_town_houses, .int v_now_town_front, .int v_now_town_downFor])), (q_trade_gets, .inl (cI, 6, .inl v_trade_gets)), (q_now_town_plotOf, .inl (cI, 6, .inl v_now_town_plotOf)), (q_trade_isLeft, .inl (cZ, 6, .inl v_trade_isLeft)), (q_ground_liked, .inl (cI, 6, .inl v_ground_liked)), (q_now_town_standsOn, .inl (cI, 12, .inl v_now_town_standsOn)), (q_trade_pointsTo, .inl (cI, 6, .inl v_trade_pointsTo)), (q_guess, .inr (1, [.ref q_guess_track, .ref q_guess_town])), (q_guess_town, .inr (6, [.ref q_guess_town_kindOf, .ref q_guess_town_plotOf, .ref q_guess_town_row, .ref q_guess_town_standsOn, .int v_guess_town_houses, .int v_guess_town_front, .int v_guess_town_downFor])), (q_now_town_kindOf, .inl (cI, 6, .inl v_now_town_kindOf)), (q_guess_town_kindOf, .inl (cI, 6, .inl v_guess_town_kindOf)), (q_guess_town_plotOf, .inl (cI, 6, .inl v_guess_town_plotOf)), (q_now_town_row, .inl (cI, 6, .inl v_now_town_row)), (q_guess_town_row, .inl (cI, 6, .inl v_guess_town_row)), (q_guess_town_standsOn, .inl (cI, 12, .inl v_guess_town_standsOn)), (q_now_seen, .inr (2, [.ref q_now_seen_house, .ref q_now_seen_plot, .ref q_now_seen_night, .int v_now_seen_size])), (q_now_seen_house, .inl (cI, 6, .inl v_now_seen_house)), (q_now_seen_night, .inl (cI, 6, .inl v_now_seen_night)), (q_now_had, .inl (cI, 6, .inl v_now_had))]
noncomputable def fX8_house (N : Nat) (v_ground_houses : Int32) (v_now_town_houses : Int32) (v_now_town_front : Int32) (v_now_town_downFor : Int32) (v_now_town_plotOf : (Nat → Int32)) (v_ground_liked : (Nat → Int32)) (v_now_town_standsOn : (Nat → Int32)) (v_now_town_kindOf : (Nat → Int32)) (v_now_town_row : (Nat → Int32)) (v_now_seen_size : Int32) (v_now_seen_house : (Nat → Int32)) (v_now_seen_night : (Nat → Int32)) (v_now_had : (Nat → Int32)) (a1 : Int32) (a2 : Int32) (v_trade_rings : Int32) (v_trade_gets : (Nat → Int32)) (v_trade_isLeft : (Nat → Int32)) (v_trade_pointsTo : (Nat → Int32)) (v_guess_town_houses : Int32) (v_guess_town_front : Int32) (v_guess_town_downFor : Int32) (v_guess_town_kindOf : (Nat → Int32)) (v_guess_town_plotOf : (Nat → Int32)) (v_guess_town_row : (Nat → Int32)) (v_guess_town_standsOn : (Nat → Int32))  : Option (Int32 × Int32 × (Nat → Int32) × (Nat → Int32) × (Nat → Int32) × Int32 × Int32 × Int32 × (Nat → Int32) × (Nat → Int32) × (Nat → Int32) × (Nat → Int32)) := (fX8_isHouse N v_ground_houses a1).bind (fun x_2 => if x_2 = 0 then (some ((-101 : Int32), v_trade_rings, v_trade_gets, v_trade_isLeft, v_trade_pointsTo, v_guess_town_houses, v_guess_town_front, v_guess_town_downFor, v_guess_town_kindOf, v_guess_town_plotOf, v_guess_town_row, v_guess_town_standsOn)) else (if a2 = (0 : Int32) then (if a1 < 0 ∨ 6 ≤ (a1).toNatClampNeg then none else (some ((v_now_town_kindOf (a1).toNatClampNeg), v_trade_rings, v_trade_gets, v_trade_isLeft, v_trade_pointsTo, v_guess_town_houses, v_guess_town_front, v_guess_town_downFor, v_guess_town_kindOf, v_guess_town_plotOf, v_guess_town_row, v_guess_town_standsOn))) else (if a2 = (1 : Int32) then (if a1 < 0 ∨ 6 ≤ (a1).toNatClampNeg then none else (some ((v_ground_liked (a1).toNatClampNeg), v_trade_rings, v_trade_gets, v_trade_isLeft, v_trade_pointsTo, v_guess_town_houses, v_guess_town_front, v_guess_town_downFor, v_guess_town_kindOf, v_guess_town_plotOf, v_guess_town_row, v_guess_town_standsOn))) else (if a2 = (2 : Int32) then (if a1 < 0 ∨ 6 ≤ (a1).toNatClampNeg then none else (some ((v_now_town_plotOf (a1).toNatClampNeg), v_trade_rings, v_trade_gets, v_trade_isLeft, v_trade_pointsTo, v_guess_town_houses, v_guess_town_front, v_guess_town_downFor, v_guess_town_kindOf, v_guess_town_plotOf, v_guess_town_row, v_guess_town_standsOn))) else (if a2 = (3 : Int32) then ((fX6_placeInRow N v_now_town_houses v_now_town_row a1).bind (fun x_104 => some (x_104, v_trade_rings, v_trade_gets, v_trade_isLeft, v_trade_pointsTo, v_guess_town_houses, v_guess_town_front, v_guess_town_downFor, v_guess_town_kindOf, v_guess_town_plotOf, v_guess_town_row, v_guess_town_standsOn))) else (if a2 = (4 : Int32) then (if a1 < 0 ∨ 6 ≤ (a1).toNatClampNeg then none else (some ((v_now_had (a1).toNatClampNeg), v_trade_rings, v_trade_gets, v_trade_isLeft, v_trade_pointsTo, v_guess_town_houses, v_guess_town_front, v_guess_town_downFor, v_guess_town_kindOf, v_guess_town_plotOf, v_guess_town_row, v_guess_town_standsOn))) else (if a2 = (5 : Int32) then ((fX1_kindsOf N v_now_seen_size v_now_seen_night v_now_town_houses v_now_town_front v_now_town_downFor v_now_town_kindOf v_now_town_plotOf v_now_town_row v_now_town_standsOn v_now_seen_house a1 v_guess_town_houses v_guess_town_front v_guess_town_downFor v_guess_town_kindOf v_guess_town_plotOf v_guess_town_row v_guess_town_standsOn).bind (fun x_127 => some (x_127.1, v_trade_rings, v_trade_gets, v_trade_isLeft, v_trade_pointsTo, x_127.2.1, x_127.2.2.1, x_127.2.2.2.1, x_127.2.2.2.2.1, x_127.2.2.2.2.2.1, x_127.2.2.2.2.2.2.1, x_127.2.2.2.2.2.2.2))) else (if a2 = (6 : Int32) then ((fX1_nightToLook N v_now_town_houses v_now_town_front v_now_town_downFor v_now_town_kindOf v_now_town_plotOf v_now_town_row v_now_town_standsOn v_now_seen_size v_now_seen_house a1 v_guess_town_houses v_guess_town_front v_guess_town_downFor v_guess_town_kindOf v_guess_town_plotOf v_guess_town_row v_guess_town_standsOn).bind (fun x_140 => some (x_140.1, v_trade_rings, v_trade_gets, v_trade_isLeft, v_trade_pointsTo, x_140.2.1, x_140.2.2.1, x_140.2.2.2.1, x_140.2.2.2.2.1, x_140.2.2.2.2.2.1, x_140.2.2.2.2.2.2.1, x_140.2.2.2.2.2.2.2))) else (if a2 = (7 : Int32) then ((fX7_close N v_now_town_houses v_now_town_plotOf v_ground_liked v_now_town_standsOn v_trade_rings v_trade_gets v_trade_isLeft v_trade_pointsTo).bind (fun x_159 => if a1 < 0 ∨ 6 ≤ (a1).toNatClampNeg then none else (some ((x_159.2.1 (a1).toNatClampNeg), x_159.1, x_159.2.1, x_159.2.2.1, x_159.2.2.2, v_guess_town_houses, v_guess_town_front, v_guess_town_downFor, v_guess_town_kindOf, v_guess_town_plotOf, v_guess_town_row, v_guess_town_standsOn)))) else (some ((-102 : Int32), v_trade_rings, v_trade_gets, v_trade_isLeft, v_trade_pointsTo, v_guess_town_houses, v_guess_town_front, v_guess_town_downFor, v_guess_town_kindOf, v_guess_town_plotOf, v_guess_town_row, v_guess_town_standsOn)))))))))))
set_option maxHeartbeats 4000000 in
set_option maxRecDepth 100000 in
theorem wX8_house {p : Program} {l : Launch} {e : Env} {R : Room} {s : State} {m : MethodId} {args : Array Value} {below : List Frame} {meth : Method} {c : Code} {cells slots : Nat} {Q : State → Prop} {D : va_G} {A : Nat → Prop} {cI cZ cG : ClassId} {q q_page q_ground q_now q_kept q_ahead q_trade q_plan q_guess q_ground_worth q_ground_liked q_now_town q_now_had q_now_wishes q_now_seen q_trade_gets q_trade_pointsTo q_trade_isLeft q_now_town_kindOf q_now_town_plotOf q_now_town_row q_now_town_standsOn q_guess_track q_guess_town q_guess_town_kindOf q_guess_town_plotOf q_guess_town_row q_guess_town_standsOn q_now_seen_house q_now_seen_plot q_now_seen_night : Nat} {v_isKept : Int32} {v_squaresRead : Int32} {v_ordersDone : Int32} {v_ground_houses : Int32} {v_now_nights : Int32} {v_trade_rings : Int32} {v_now_town_houses : Int32} {v_now_town_front : Int32} {v_now_town_downFor : Int32} {v_trade_gets : (Nat → Int32)} {v_now_town_plotOf : (Nat → Int32)} {v_trade_isLeft : (Nat → Int32)} {v_ground_liked : (Nat → Int32)} {v_now_town_standsOn : (Nat → Int32)} {v_trade_pointsTo : (Nat → Int32)} {v_guess_town_houses : Int32} {v_guess_town_front : Int32} {v_guess_town_downFor : Int32} {v_now_town_kindOf : (Nat → Int32)} {v_guess_town_kindOf : (Nat → Int32)} {v_guess_town_plotOf : (Nat → Int32)} {v_now_town_row : (Nat → Int32)} {v_guess_town_row : (Nat → Int32)} {v_guess_town_standsOn : (Nat → Int32)} {v_now_seen_size : Int32} {v_now_seen_house : (Nat → Int32)} {v_now_seen_night : (Nat → Int32)} {v_now_had : (Nat → Int32)} {a1 : Int32} {a2 : Int32} {N : Nat} {ρ : Int32 × Int32 × (Nat → Int32) × (Nat → Int32) × (Nat → Int32) × Int32 × Int32 × Int32 × (Nat → Int32) × (Nat → Int32) × (Nat → Int32) × (Nat → Int32)} (X : CX p s m args c cX8_house 3 RX8 D (TY cI cZ cG) A) (hrm : RM R 5 120 cells slots) (ret : ∀ (pc : Nat) (H : Heap) (locs : List Loc) (ls : Array Slot), decode cX8_house pc = .ok (.ireturn, 1) → WD D A (kwX8_house cI cZ q q_page q_ground q_now q_kept q_ahead q_trade q_plan q_guess q_ground_worth q_ground_liked q_now_town q_now_had q_now_wishes q_now_seen q_trade_gets q_trade_pointsTo q_trade_isLeft q_now_town_kindOf q_now_town_plotOf q_now_town_row q_now_town_standsOn q_guess_track q_guess_town q_guess_town_kindOf q_guess_town_plotOf q_guess_town_row q_guess_town_standsOn q_now_seen_house q_now_seen_plot q_now_seen_night v_isKept v_squaresRead v_ordersDone v_ground_houses v_now_nights (ρ.2.1) v_now_town_houses v_now_town_front v_now_town_downFor (ρ.2.2.1) v_now_town_plotOf (ρ.2.2.2.1) v_ground_liked v_now_town_standsOn (ρ.2.2.2.2.1) (ρ.2.2.2.2.2.1) (ρ.2.2.2.2.2.2.1) (ρ.2.2.2.2.2.2.2.1) v_now_town_kindOf (ρ.2.2.2.2.2.2.2.2.1) (ρ.2.2.2.2.2.2.2.2.2.1) v_now_town_row (ρ.2.2.2.2.2.2.2.2.2.2.1) (ρ.2.2.2.2.2.2.2.2.2.2.2) v_now_seen_size v_now_seen_house v_now_seen_night v_now_had) s.heap H locs → W p l e R s m args below meth c H locs cells slots Q (F0 m pc ls [.int ρ.1])) (h : fX8_house N v_ground_houses v_now_town_houses v_now_town_front v_now_town_downFor v_now_town_plotOf v_ground_liked v_now_town_standsOn v_now_town_kindOf v_now_town_row v_now_seen_size v_now_seen_house v_now_seen_night v_now_had a1 a2 v_trade_rings v_trade_gets v_trade_isLeft v_trade_pointsTo v_guess_town_houses v_guess_town_front v_guess_town_downFor v_guess_town_kindOf v_guess_town_plotOf v_guess_town_row v_guess_town_standsOn  = some ρ) (H : Heap) (locs : List Loc) (ls : Array Slot) (hw : WD D A (kwX8_house cI cZ q q_page q_ground q_now q_kept q_ahead q_trade q_plan q_guess q_ground_worth q_ground_liked q_now_town q_now_had q_now_wishes q_now_seen q_trade_gets q_trade_pointsTo q_trade_isLeft q_now_town_kindOf q_now_town_plotOf q_now_town_row q_now_town_standsOn q_guess_track q_guess_town q_guess_town_kindOf q_guess_town_plotOf q_guess_town_row q_guess_town_standsOn q_now_seen_house q_now_seen_plot q_now_seen_night v_isKept v_squaresRead v_ordersDone v_ground_houses v_now_nights v_trade_rings v_now_town_houses v_now_town_front v_now_town_downFor v_trade_gets v_now_town_plotOf v_trade_isLeft v_ground_liked v_now_town_standsOn v_trade_pointsTo v_guess_town_houses v_guess_town_front v_guess_town_downFor v_now_town_kindOf v_guess_town_kindOf v_guess_town_plotOf v_now_town_row v_guess_town_row v_guess_town_standsOn v_now_seen_size v_now_seen_house v_now_seen_night v_now_had) s.heap H locs) (hl : lv_has ls 3 [(0, .ref q), (1, .int a1), (2, .int a2)]) : W p l e R s m args below meth c H locs cells slots Q (F0 m 0 ls []) := by
  have hx := X.1.1
  have hb := X.1.2.1
  unfold fX8_house at h
  refine lv_aload_n hx hb dX8_house_0 rfl (lv_at hl 0 rfl) ?_
  refine lv_iload_n hx hb dX8_house_1 rfl (lv_at hl 1 rfl) ?_
  obtain ⟨x_2, hc_2, h⟩ := obd h
  refine ksV_i (ws2 := (kwX8_house cI cZ q q_page q_ground q_now q_kept q_ahead q_trade q_plan q_guess q_ground_worth q_ground_liked q_now_town q_now_had q_now_wishes q_now_seen q_trade_gets q_trade_pointsTo q_trade_isLeft q_now_town_kindOf q_now_town_plotOf q_now_town_row q_now_town_standsOn q_guess_track q_guess_town q_guess_town_kindOf q_guess_town_plotOf q_guess_town_row q_guess_town_standsOn q_now_seen_house q_now_seen_plot q_now_seen_night v_isKept v_squaresRead v_ordersDone v_ground_houses v_now_nights v_trade_rings v_now_town_houses v_now_town_front v_now_town_downFor v_trade_gets v_now_town_plotOf v_trade_isLeft v_ground_liked v_now_town_standsOn v_trade_pointsTo v_guess_town_houses v_guess_town_front v_guess_town_downFor v_now_town_kindOf v_guess_town_kindOf v_guess_town_plotOf v_now_town_row v_guess_town_row v_guess_town_standsOn v_now_seen_size v_now_seen_house v_now_seen_night v_now_had)) (nW := 23) (ci := 8) (As := [.int a1]) (rest := []) X hw rfl rfl rfl (cX8_isHouse_ct l D cI cZ cG q q_page q_ground q_now q_kept q_ahead q_trade q_plan q_guess q_ground_worth q_ground_liked v_isKept v_squaresRead v_ordersDone v_ground_houses a1 N x_2 hc_2 H.size) mX8_isHouse tw_383 (hrm.call (by decide) (by decide)) [0, 1] rfl (by decide) rfl (by decide) rfl ⟨rfl, ⟨rfl, ⟨rfl, ⟨rfl, ⟨rfl, ⟨rfl, ⟨rfl, ⟨rfl, ⟨rfl, ⟨rfl, ⟨rfl, ⟨rfl, ⟨rfl, ⟨rfl, ⟨rfl, ⟨rfl, ⟨rfl, ⟨rfl, ⟨rfl, ⟨rfl, ⟨rfl, trivial⟩⟩⟩⟩⟩⟩⟩⟩⟩⟩⟩⟩⟩⟩⟩⟩⟩⟩⟩⟩⟩ rfl hl.1 rfl (Nat.le_of_ble_eq_true rfl) dX8_house_2 ⟨hrm.2.2.1, hrm.2.2.2⟩ (fun H locs hw => ?_)
  refine lv_if_ne (tgt := 11) hx hb dX8_house_5 (by decide) (fun c_5 => ?_) (fun c_5 => ?_)
  · have h := iff_ c_5 h
    refine lv_iload_n hx hb dX8_house_11 rfl (lv_at hl 2 rfl) ?_
    by_cases c_12_0 : a2 = (0 : Int32)
    · have h := ift c_12_0 h
      refine lv_tableIn (off := 48) (tgt := 60) hx hb dX8_house_12 (by rw [c_12_0]; decide) (by rw [c_12_0]; decide) (by rw [c_12_0]; rfl) (by decide) ?_
      refine lv_aload_n hx hb dX8_house_60 rfl (lv_at hl 0 rfl) ?_
      refine kget (ci := 8) (v := .ref q_now) X hw iX8 0 rfl rfl 2 (by decide) tw_372 rfl dX8_house_61 ?_
      refine kget (ci := 5) (v := .ref q_now_town) X hw iX5 2 rfl rfl 0 (by decide) tw_384 rfl dX8_house_64 ?_
      refine kget (ci := 6) (v := .ref q_now_town_kindOf) X hw iX6 4 rfl rfl 0 (by decide) tw_385 rfl dX8_house_67 ?_
      refine lv_iload_n hx hb dX8_house_70 rfl (lv_at hl 1 rfl) ?_
      obtain ⟨g_71, h⟩ := gd h
      refine kiald X hw 13 rfl rfl g_71 dX8_house_71 ?_
      obtain rfl := Option.some.inj h
      exact ret _ _ _ _ dX8_house_72 hw
    have h := iff_ c_12_0 h
    by_cases c_12_1 : a2 = (1 : Int32)
    · have h := ift c_12_1 h
      refine lv_tableIn (off := 61) (tgt := 73) hx hb dX8_house_12 (by rw [c_12_1]; decide) (by rw [c_12_1]; decide) (by rw [c_12_1]; rfl) (by decide) ?_
      refine lv_aload_n hx hb dX8_house_73 rfl (lv_at hl 0 rfl) ?_
      refine kget (ci := 8) (v := .ref q_ground) X hw iX8 0 rfl rfl 1 (by decide) tw_370 rfl dX8_house_74 ?_
      refine kget (ci := 0) (v := .ref q_ground_liked) X hw iX0 1 rfl rfl 1 (by decide) tw_386 rfl dX8_house_77 ?_
      refine lv_iload_n hx hb dX8_house_80 rfl (lv_at hl 1 rfl) ?_
      obtain ⟨g_81, h⟩ := gd h
      refine kiald X hw 8 rfl rfl g_81 dX8_house_81 ?_
      obtain rfl := Option.some.inj h
      exact ret _ _ _ _ dX8_house_82 hw
    have h := iff_ c_12_1 h
    by_cases c_12_2 : a2 = (2 : Int32)
    · have h := ift c_12_2 h
      refine lv_tableIn (off := 71) (tgt := 83) hx hb dX8_house_12 (by rw [c_12_2]; decide) (by rw [c_12_2]; decide) (by rw [c_12_2]; rfl) (by decide) ?_
      refine lv_aload_n hx hb dX8_house_83 rfl (lv_at hl 0 rfl) ?_
      refine kget (ci := 8) (v := .ref q_now) X hw iX8 0 rfl rfl 2 (by decide) tw_372 rfl dX8_house_84 ?_
      refine kget (ci := 5) (v := .ref q_now_town) X hw iX5 2 rfl rfl 0 (by decide) tw_384 rfl dX8_house_87 ?_
      refine kget (ci := 6) (v := .ref q_now_town_plotOf) X hw iX6 4 rfl rfl 1 (by decide) tw_387 rfl dX8_house_90 ?_
      refine lv_iload_n hx hb dX8_house_93 rfl (lv_at hl 1 rfl) ?_
      obtain ⟨g_94, h⟩ := gd h
      refine kiald X hw 6 rfl rfl g_94 dX8_house_94 ?_
      obtain rfl := Option.some.inj h
      exact ret _ _ _ _ dX8_house_95 hw
    have h := iff_ c_12_2 h
    by_cases c_12_3 : a2 = (3 : Int32)
    · have h := ift c_12_3 h
      refine lv_tableIn (off := 84) (tgt := 96) hx hb dX8_house_12 (by rw [c_12_3]; decide) (by rw [c_12_3]; decide) (by rw [c_12_3]; rfl) (by decide) ?_
      refine lv_aload_n hx hb dX8_house_96 rfl (lv_at hl 0 rfl) ?_
      refine kget (ci := 8) (v := .ref q_now) X hw iX8 0 rfl rfl 2 (by decide) tw_372 rfl dX8_house_97 ?_
      refine kget (ci := 5) (v := .ref q_now_town) X hw iX5 2 rfl rfl 0 (by decide) tw_384 rfl dX8_house_100 ?_
      refine lv_iload_n hx hb dX8_house_103 rfl (lv_at hl 1 rfl) ?_
      obtain ⟨x_104, hc_104, h⟩ := obd h
      refine ksV_i (ws2 := (kwX8_house cI cZ q q_page q_ground q_now q_kept q_ahead q_trade q_plan q_guess q_ground_worth q_ground_liked q_now_town q_now_had q_now_wishes q_now_seen q_trade_gets q_trade_pointsTo q_trade_isLeft q_now_town_kindOf q_now_town_plotOf q_now_town_row q_now_town_standsOn q_guess_track q_guess_town q_guess_town_kindOf q_guess_town_plotOf q_guess_town_row q_guess_town_standsOn q_now_seen_house q_now_seen_plot q_now_seen_night v_isKept v_squaresRead v_ordersDone v_ground_houses v_now_nights v_trade_rings v_now_town_houses v_now_town_front v_now_town_downFor v_trade_gets v_now_town_plotOf v_trade_isLeft v_ground_liked v_now_town_standsOn v_trade_pointsTo v_guess_town_houses v_guess_town_front v_guess_town_downFor v_now_town_kindOf v_guess_town_kindOf v_guess_town_plotOf v_now_town_row v_guess_town_row v_guess_town_standsOn v_now_seen_size v_now_seen_house v_now_seen_night v_now_had)) (nW := 23) (ci := 6) (As := [.int a1]) (rest := []) X hw rfl rfl rfl (cX6_placeInRow_ct l D cI cZ cG q_now_town q_now_town_kindOf q_now_town_plotOf q_now_town_row q_now_town_standsOn v_now_town_houses v_now_town_front v_now_town_downFor v_now_town_row a1 N x_104 hc_104 H.size) mX6_placeInRow tw_388 (hrm.call (by decide) (by decide)) [4, 16] rfl (by decide) rfl (by decide) rfl ⟨rfl, ⟨rfl, ⟨rfl, ⟨rfl, ⟨rfl, ⟨rfl, ⟨rfl, ⟨rfl, ⟨rfl, ⟨rfl, ⟨rfl, ⟨rfl, ⟨rfl, ⟨rfl, ⟨rfl, ⟨rfl, ⟨rfl, ⟨rfl, ⟨rfl, ⟨rfl, ⟨rfl, trivial⟩⟩⟩⟩⟩⟩⟩⟩⟩⟩⟩⟩⟩⟩⟩⟩⟩⟩⟩⟩⟩ rfl hl.1 rfl (Nat.le_of_ble_eq_true rfl) dX8_house_104 ⟨hrm.2.2.1, hrm.2.2.2⟩ (fun H locs hw => ?_)
      obtain rfl := Option.some.inj h
      exact ret _ _ _ _ dX8_house_107 hw
    have h := iff_ c_12_3 h
    by_cases c_12_4 : a2 = (4 : Int32)
    · have h := ift c_12_4 h
      refine lv_tableIn (off := 96) (tgt := 108) hx hb dX8_house_12 (by rw [c_12_4]; decide) (by rw [c_12_4]; decide) (by rw [c_12_4]; rfl) (by decide) ?_
      refine lv_aload_n hx hb dX8_house_108 rfl (lv_at hl 0 rfl) ?_
      refine kget (ci := 8) (v := .ref q_now) X hw iX8 0 rfl rfl 2 (by decide) tw_372 rfl dX8_house_109 ?_
      refine kget (ci := 5) (v := .ref q_now_had) X hw iX5 2 rfl rfl 1 (by decide) tw_389 rfl dX8_house_112 ?_
      refine lv_iload_n hx hb dX8_house_115 rfl (lv_at hl 1 rfl) ?_
      obtain ⟨g_116, h⟩ := gd h
      refine kiald X hw 22 rfl rfl g_116 dX8_house_116 ?_
      obtain rfl := Option.some.inj h
      exact ret _ _ _ _ dX8_house_117 hw
    have h := iff_ c_12_4 h
    by_cases c_12_5 : a2 = (5 : Int32)
    · have h := ift c_12_5 h
      refine lv_tableIn (off := 106) (tgt := 118) hx hb dX8_house_12 (by rw [c_12_5]; decide) (by rw [c_12_5]; decide) (by rw [c_12_5]; rfl) (by decide) ?_
      refine lv_aload_n hx hb dX8_house_118 rfl (lv_at hl 0 rfl) ?_
      refine kget (ci := 8) (v := .ref q_guess) X hw iX8 0 rfl rfl 7 (by decide) tw_390 rfl dX8_house_119 ?_
      refine lv_iload_n hx hb dX8_house_122 rfl (lv_at hl 1 rfl) ?_
      refine lv_aload_n hx hb dX8_house_123 rfl (lv_at hl 0 rfl) ?_
      refine kget (ci := 8) (v := .ref q_now) X hw iX8 0 rfl rfl 2 (by decide) tw_372 rfl dX8_house_124 ?_
      obtain ⟨x_127, hc_127, h⟩ := obd h
      refine ksV_i (ws2 := (kwX8_house cI cZ q q_page q_ground q_now q_kept q_ahead q_trade q_plan q_guess q_ground_worth q_ground_liked q_now_town q_now_had q_now_wishes q_now_seen q_trade_gets q_trade_pointsTo q_trade_isLeft q_now_town_kindOf q_now_town_plotOf q_now_town_row q_now_town_standsOn q_guess_track q_guess_town q_guess_town_kindOf q_guess_town_plotOf q_guess_town_row q_guess_town_standsOn q_now_seen_house q_now_seen_plot q_now_seen_night v_isKept v_squaresRead v_ordersDone v_ground_houses v_now_nights v_trade_rings v_now_town_houses v_now_town_front v_now_town_downFor v_trade_gets v_now_town_plotOf v_trade_isLeft v_ground_liked v_now_town_standsOn v_trade_pointsTo x_127.2.1 x_127.2.2.1 x_127.2.2.2.1 v_now_town_kindOf x_127.2.2.2.2.1 x_127.2.2.2.2.2.1 v_now_town_row x_127.2.2.2.2.2.2.1 x_127.2.2.2.2.2.2.2 v_now_seen_size v_now_seen_house v_now_seen_night v_now_had)) (nW := 23) (ci := 1) (As := [.int a1, .ref q_now]) (rest := []) X hw rfl rfl rfl (cX1_kindsOf_ct l D cI cZ cG q_guess q_guess_track q_guess_town q_now q_now_town q_now_had q_now_wishes q_now_seen q_now_seen_house q_now_seen_plot q_now_seen_night q_guess_town_kindOf q_guess_town_plotOf q_guess_town_row q_guess_town_standsOn q_now_town_kindOf q_now_town_plotOf q_now_town_row q_now_town_standsOn v_now_nights v_now_seen_size v_now_seen_night v_guess_town_houses v_guess_town_front v_guess_town_downFor v_now_town_houses v_now_town_front v_now_town_downFor v_now_town_kindOf v_guess_town_kindOf v_now_town_plotOf v_guess_town_plotOf v_now_town_row v_guess_town_row v_now_town_standsOn v_guess_town_standsOn v_now_seen_house a1 N x_127 hc_127 H.size) mX1_kindsOf tw_391 (hrm.call (by decide) (by decide)) [11, 2, 19, 21, 12, 4, 13, 14, 6, 15, 16, 17, 9, 18, 20] rfl (by decide) rfl (by decide) rfl ⟨rfl, ⟨rfl, ⟨rfl, ⟨rfl, ⟨rfl, ⟨rfl, ⟨rfl, ⟨rfl, trivial⟩⟩⟩⟩⟩⟩⟩⟩ rfl hl.1 rfl (Nat.le_of_ble_eq_true rfl) dX8_house_127 ⟨hrm.2.2.1, hrm.2.2.2⟩ (fun H locs hw => ?_)
      obtain rfl := Option.some.inj h
      exact ret _ _ _ _ dX8_house_130 hw
    have h := iff_ c_12_5 h
    by_cases c_12_6 : a2 = (6 : Int32)
    · have h := ift c_12_6 h
      refine lv_tableIn (off := 119) (tgt := 131) hx hb dX8_house_12 (by rw [c_12_6]; decide) (by rw [c_12_6]; decide) (by rw [c_12_6]; rfl) (by decide) ?_
      refine lv_aload_n hx hb dX8_house_131 rfl (lv_at hl 0 rfl) ?_
      refine kget (ci := 8) (v := .ref q_guess) X hw iX8 0 rfl rfl 7 (by decide) tw_390 rfl dX8_house_132 ?_
      refine lv_iload_n hx hb dX8_house_135 rfl (lv_at hl 1 rfl) ?_
      refine lv_aload_n hx hb dX8_house_136 rfl (lv_at hl 0 rfl) ?_
      refine kget (ci := 8) (v := .ref q_now) X hw iX8 0 rfl rfl 2 (by decide) tw_372 rfl dX8_house_137 ?_
      obtain ⟨x_140, hc_140, h⟩ := obd h
      refine ksV_i (ws2 := (kwX8_house cI cZ q q_page q_ground q_now q_kept q_ahead q_trade q_plan q_guess q_ground_worth q_ground_liked q_now_town q_now_had q_now_wishes q_now_seen q_trade_gets q_trade_pointsTo q_trade_isLeft q_now_town_kindOf q_now_town_plotOf q_now_town_row q_now_town_standsOn q_guess_track q_guess_town q_guess_town_kindOf q_guess_town_plotOf q_guess_town_row q_guess_town_standsOn q_now_seen_house q_now_seen_plot q_now_seen_night v_isKept v_squaresRead v_ordersDone v_ground_houses v_now_nights v_trade_rings v_now_town_houses v_now_town_front v_now_town_downFor v_trade_gets v_now_town_plotOf v_trade_isLeft v_ground_liked v_now_town_standsOn v_trade_pointsTo x_140.2.1 x_140.2.2.1 x_140.2.2.2.1 v_now_town_kindOf x_140.2.2.2.2.1 x_140.2.2.2.2.2.1 v_now_town_row x_140.2.2.2.2.2.2.1 x_140.2.2.2.2.2.2.2 v_now_seen_size v_now_seen_house v_now_seen_night v_now_had)) (nW := 23) (ci := 1) (As := [.int a1, .ref q_now]) (rest := []) X hw rfl rfl rfl (cX1_nightToLook_ct l D cI cZ cG q_guess q_guess_track q_guess_town q_now q_now_town q_now_had q_now_wishes q_now_seen q_guess_town_kindOf q_guess_town_plotOf q_guess_town_row q_guess_town_standsOn q_now_town_kindOf q_now_town_plotOf q_now_town_row q_now_town_standsOn q_now_seen_house q_now_seen_plot q_now_seen_night v_now_nights v_guess_town_houses v_guess_town_front v_guess_town_downFor v_now_town_houses v_now_town_front v_now_town_downFor v_now_town_kindOf v_guess_town_kindOf v_now_town_plotOf v_guess_town_plotOf v_now_town_row v_guess_town_row v_now_town_standsOn v_guess_town_standsOn v_now_seen_size v_now_seen_house a1 N x_140 hc_140 H.size) mX1_nightToLook tw_392 (hrm.call (by decide) (by decide)) [11, 2, 12, 4, 13, 14, 6, 15, 16, 17, 9, 18, 19, 20] rfl (by decide) rfl (by decide) rfl ⟨rfl, ⟨rfl, ⟨rfl, ⟨rfl, ⟨rfl, ⟨rfl, ⟨rfl, ⟨rfl, ⟨rfl, trivial⟩⟩⟩⟩⟩⟩⟩⟩⟩ rfl hl.1 rfl (Nat.le_of_ble_eq_true rfl) dX8_house_140 ⟨hrm.2.2.1, hrm.2.2.2⟩ (fun H locs hw => ?_)
      obtain rfl := Option.some.inj h
      exact ret _ _ _ _ dX8_house_143 hw
    have h := iff_ c_12_6 h
    by_cases c_12_7 : a2 = (7 : Int32)
    · have h := ift c_12_7 h
      refine lv_tableIn (off := 132) (tgt := 144) hx hb dX8_house_12 (by rw [c_12_7]; decide) (by rw [c_12_7]; decide) (by rw [c_12_7]; rfl) (by decide) ?_
      refine lv_aload_n hx hb dX8_house_144 rfl (lv_at hl 0 rfl) ?_
      refine kget (ci := 8) (v := .ref q_trade) X hw iX8 0 rfl rfl 5 (by decide) tw_393 rfl dX8_house_145 ?_
      refine lv_aload_n hx hb dX8_house_148 rfl (lv_at hl 0 rfl) ?_
      refine kget (ci := 8) (v := .ref q_now) X hw iX8 0 rfl rfl 2 (by decide) tw_372 rfl dX8_house_149 ?_
      refine kget (ci := 5) (v := .ref q_now_town) X hw iX5 2 rfl rfl 0 (by decide) tw_384 rfl dX8_house_152 ?_
      refine lv_aload_n hx hb dX8_house_155 rfl (lv_at hl 0 rfl) ?_
      refine kget (ci := 8) (v := .ref q_ground) X hw iX8 0 rfl rfl 1 (by decide) tw_370 rfl dX8_house_156 ?_
      obtain ⟨x_159, hc_159, h⟩ := obd h
      refine ksV_v (ws2 := (kwX8_house cI cZ q q_page q_ground q_now q_kept q_ahead q_trade q_plan q_guess q_ground_worth q_ground_liked q_now_town q_now_had q_now_wishes q_now_seen q_trade_gets q_trade_pointsTo q_trade_isLeft q_now_town_kindOf q_now_town_plotOf q_now_town_row q_now_town_standsOn q_guess_track q_guess_town q_guess_town_kindOf q_guess_town_plotOf q_guess_town_row q_guess_town_standsOn q_now_seen_house q_now_seen_plot q_now_seen_night v_isKept v_squaresRead v_ordersDone v_ground_houses v_now_nights x_159.1 v_now_town_houses v_now_town_front v_now_town_downFor x_159.2.1 v_now_town_plotOf x_159.2.2.1 v_ground_liked v_now_town_standsOn x_159.2.2.2 v_guess_town_houses v_guess_town_front v_guess_town_downFor v_now_town_kindOf v_guess_town_kindOf v_guess_town_plotOf v_now_town_row v_guess_town_row v_guess_town_standsOn v_now_seen_size v_now_seen_house v_now_seen_night v_now_had)) (nW := 23) (ci := 7) (As := [.ref q_now_town, .ref q_ground]) (rest := []) X hw rfl rfl rfl (cX7_close_ct l D cI cZ cG q_trade q_trade_gets q_trade_pointsTo q_trade_isLeft q_now_town q_now_town_kindOf q_now_town_plotOf q_now_town_row q_now_town_standsOn q_ground q_ground_worth q_ground_liked v_trade_rings v_now_town_houses v_now_town_front v_now_town_downFor v_trade_gets v_now_town_plotOf v_trade_isLeft v_ground_houses v_ground_liked v_now_town_standsOn v_trade_pointsTo N x_159 hc_159 H.size) mX7_close tw_394 (hrm.call (by decide) (by decide)) [3, 4, 5, 6, 7, 1, 8, 9, 10] rfl (by decide) rfl (by decide) rfl ⟨rfl, ⟨rfl, ⟨rfl, ⟨rfl, ⟨rfl, ⟨rfl, ⟨rfl, ⟨rfl, ⟨rfl, ⟨rfl, ⟨rfl, ⟨rfl, ⟨rfl, ⟨rfl, trivial⟩⟩⟩⟩⟩⟩⟩⟩⟩⟩⟩⟩⟩⟩ rfl hl.1 rfl (Nat.le_of_ble_eq_true rfl) dX8_house_159 ⟨hrm.2.2.1, hrm.2.2.2⟩ (fun H locs hw => ?_)
      refine lv_aload_n hx hb dX8_house_162 rfl (lv_at hl 0 rfl) ?_
      refine kget (ci := 8) (v := .ref q_trade) X hw iX8 0 rfl rfl 5 (by decide) tw_393 rfl dX8_house_163 ?_
      refine kget (ci := 7) (v := .ref q_trade_gets) X hw iX7 3 rfl rfl 0 (by decide) tw_395 rfl dX8_house_166 ?_
      refine lv_iload_n hx hb dX8_house_169 rfl (lv_at hl 1 rfl) ?_
      obtain ⟨g_170, h⟩ := gd h
      refine kiald X hw 5 rfl rfl g_170 dX8_house_170 ?_
      obtain rfl := Option.some.inj h
      exact ret _ _ _ _ dX8_house_171 hw
    have h := iff_ c_12_7 h
    refine lv_tableOut (tgt := 172) hx hb dX8_house_12 (by have n0 := lv_neT c_12_0 (a := 0) (by decide); have n1 := lv_neT c_12_1 (a := 1) (by decide); have n2 := lv_neT c_12_2 (a := 2) (by decide); have n3 := lv_neT c_12_3 (a := 3) (by decide); have n4 := lv_neT c_12_4 (a := 4) (by decide); have n5 := lv_neT c_12_5 (a := 5) (by decide); have n6 := lv_neT c_12_6 (a := 6) (by decide); have n7 := lv_neT c_12_7 (a := 7) (by decide); omega) (by decide) ?_
    refine lv_bipush (v := (-102 : Int32)) hx hb dX8_house_172 (by decide) ?_
    obtain rfl := Option.some.inj h
    exact ret _ _ _ _ dX8_house_174 hw
  · have h := ift c_5 h
    refine lv_bipush (v := (-101 : Int32)) hx hb dX8_house_8 (by decide) ?_
    obtain rfl := Option.some.inj h
    exact ret _ _ _ _ dX8_house_10 hw
set_option maxHeartbeats 4000000 in
set_option maxRecDepth 100000 in
theorem cX8_house_ct (l : Launch) (D : va_G) (cI cZ cG : ClassId) (q q_page q_ground q_now q_kept q_ahead q_trade q_plan q_guess q_ground_worth q_ground_liked q_now_town q_now_had q_now_wishes q_now_seen q_trade_gets q_trade_pointsTo q_trade_isLeft q_now_town_kindOf q_now_town_plotOf q_now_town_row q_now_town_standsOn q_guess_track q_guess_town q_guess_town_kindOf q_guess_town_plotOf q_guess_town_row q_guess_town_standsOn q_now_seen_house q_now_seen_plot q_now_seen_night : Nat)  (v_isKept : Int32) (v_squaresRead : Int32) (v_ordersDone : Int32) (v_ground_houses : Int32) (v_now_nights : Int32) (v_trade_rings : Int32) (v_now_town_houses : Int32) (v_now_town_front : Int32) (v_now_town_downFor : Int32) (v_trade_gets : (Nat → Int32)) (v_now_town_plotOf : (Nat → Int32)) (v_trade_isLeft : (Nat → Int32)) (v_ground_liked : (Nat → Int32)) (v_now_town_standsOn : (Nat → Int32)) (v_trade_pointsTo : (Nat → Int32)) (v_guess_town_houses : Int32) (v_guess_town_front : Int32) (v_guess_town_downFor : Int32) (v_now_town_kindOf : (Nat → Int32)) (v_guess_town_kindOf : (Nat → Int32)) (v_guess_town_plotOf : (Nat → Int32)) (v_now_town_row : (Nat → Int32)) (v_guess_town_row : (Nat → Int32)) (v_guess_town_standsOn : (Nat → Int32)) (v_now_seen_size : Int32) (v_now_seen_house : (Nat → Int32)) (v_now_seen_night : (Nat → Int32)) (v_now_had : (Nat → Int32)) (a1 : Int32) (a2 : Int32) (N : Nat) (ρ : Int32 × Int32 × (Nat → Int32) × (Nat → Int32) × (Nat → Int32) × Int32 × Int32 × Int32 × (Nat → Int32) × (Nat → Int32) × (Nat → Int32) × (Nat → Int32)) (h : fX8_house N v_ground_houses v_now_town_houses v_now_town_front v_now_town_downFor v_now_town_plotOf v_ground_liked v_now_town_standsOn v_now_town_kindOf v_now_town_row v_now_seen_size v_now_seen_house v_now_seen_night v_now_had a1 a2 v_trade_rings v_trade_gets v_trade_isLeft v_trade_pointsTo v_guess_town_houses v_guess_town_front v_guess_town_downFor v_guess_town_kindOf v_guess_town_plotOf v_guess_town_row v_guess_town_standsOn  = some ρ) (sz : Nat) : Met l yX8_house (wz yX8_house cX8_house 3 (some .int)) (cRm 5 120) (cPre D (TY cI cZ cG) [.ref q, .int a1, .int a2] (kwX8_house cI cZ q q_page q_ground q_now q_kept q_ahead q_trade q_plan q_guess q_ground_worth q_ground_liked q_now_town q_now_had q_now_wishes q_now_seen q_trade_gets q_trade_pointsTo q_trade_isLeft q_now_town_kindOf q_now_town_plotOf q_now_town_row q_now_town_standsOn q_guess_track q_guess_town q_guess_town_kindOf q_guess_town_plotOf q_guess_town_row q_guess_town_standsOn q_now_seen_house q_now_seen_plot q_now_seen_night v_isKept v_squaresRead v_ordersDone v_ground_houses v_now_nights v_trade_rings v_now_town_houses v_now_town_front v_now_town_downFor v_trade_gets v_now_town_plotOf v_trade_isLeft v_ground_liked v_now_town_standsOn v_trade_pointsTo v_guess_town_houses v_guess_town_front v_guess_town_downFor v_now_town_kindOf v_guess_town_kindOf v_guess_town_plotOf v_now_town_row v_guess_town_row v_guess_town_standsOn v_now_seen_size v_now_seen_house v_now_seen_night v_now_had) sz) (cQi D (ρ.1) (kwX8_house cI cZ q q_page q_ground q_now q_kept q_ahead q_trade q_plan q_guess q_ground_worth q_ground_liked q_now_town q_now_had q_now_wishes q_now_seen q_trade_gets q_trade_pointsTo q_trade_isLeft q_now_town_kindOf q_now_town_plotOf q_now_town_row q_now_town_standsOn q_guess_track q_guess_town q_guess_town_kindOf q_guess_town_plotOf q_guess_town_row q_guess_town_standsOn q_now_seen_house q_now_seen_plot q_now_seen_night v_isKept v_squaresRead v_ordersDone v_ground_houses v_now_nights v_trade_rings v_now_town_houses v_now_town_front v_now_town_downFor v_trade_gets v_now_town_plotOf v_trade_isLeft v_ground_liked v_now_town_standsOn v_trade_pointsTo v_guess_town_houses v_guess_town_front v_guess_town_downFor v_now_town_kindOf v_guess_town_kindOf v_guess_town_plotOf v_now_town_row v_guess_town_row v_guess_town_standsOn v_now_seen_size v_now_seen_house v_now_seen_night v_now_had) (kwX8_house cI cZ q q_page q_ground q_now q_kept q_ahead q_trade q_plan q_guess q_ground_worth q_ground_liked q_now_town q_now_had q_now_wishes q_now_seen q_trade_gets q_trade_pointsTo q_trade_isLeft q_now_town_kindOf q_now_town_plotOf q_now_town_row q_now_town_standsOn q_guess_track q_guess_town q_guess_town_kindOf q_guess_town_plotOf q_guess_town_row q_guess_town_standsOn q_now_seen_house q_now_seen_plot q_now_seen_night v_isKept v_squaresRead v_ordersDone v_ground_houses v_now_nights (ρ.2.1) v_now_town_houses v_now_town_front v_now_town_downFor (ρ.2.2.1) v_now_town_plotOf (ρ.2.2.2.1) v_ground_liked v_now_town_standsOn (ρ.2.2.2.2.1) (ρ.2.2.2.2.2.1) (ρ.2.2.2.2.2.2.1) (ρ.2.2.2.2.2.2.2.1) v_now_town_kindOf (ρ.2.2.2.2.2.2.2.2.1) (ρ.2.2.2.2.2.2.2.2.2.1) v_now_town_row (ρ.2.2.2.2.2.2.2.2.2.2.1) (ρ.2.2.2.2.2.2.2.2.2.2.2) v_now_seen_size v_now_seen_house v_now_seen_night v_now_had) sz) 0 0 (va_A (kwX8_house cI cZ q q_page q_ground q_now q_kept q_ahead q_trade q_plan q_guess q_ground_worth q_ground_liked q_now_town q_now_had q_now_wishes q_now_seen q_trade_gets q_trade_pointsTo q_trade_isLeft q_now_town_kindOf q_now_town_plotOf q_now_town_row q_now_town_standsOn q_guess_track q_guess_town q_guess_town_kindOf q_guess_town_plotOf q_guess_town_row q_guess_town_standsOn q_now_seen_house q_now_seen_plot q_now_seen_night v_isKept v_squaresRead v_ordersDone v_ground_houses v_now_nights v_trade_rings v_now_town_houses v_now_town_front v_now_town_downFor v_trade_gets v_now_town_plotOf v_trade_isLeft v_ground_liked v_now_town_standsOn v_trade_pointsTo v_guess_town_houses v_guess_town_front v_guess_town_downFor v_now_town_kindOf v_guess_town_kindOf v_guess_town_plotOf v_now_town_row v_guess_town_row v_guess_town_standsOn v_now_seen_size v_now_seen_house v_now_seen_night v_now_had) sz) :=
  mk_i (by decide) (Nat.le_of_ble_eq_true rfl) (fun X hrm ret hw hl => wX8_house X hrm ret h _ _ _ hw hl)
theorem dX8_isKind_0 : decode cX8_isKind 0 = .ok (.iload_n 0, 1) := by decide +kernel
theorem dX8_isKind_1 : decode cX8_isKind 1 = .ok (.ifCond .lt 12, 3) := by decide +kernel
theorem dX8_isKind_4 : decode cX8_isKind 4 = .ok (.iload_n 0, 1) := by decide +kernel
theorem dX8_isKind_5 : decode cX8_isKind 5 = .ok (.iconst 5, 1) := by decide +kernel
theorem dX8_isKind_6 : decode cX8_isKind 6 = .ok (.if_icmp .ge 7, 3) := by decide +kernel
theorem dX8_isKind_9 : decode cX8_isKind 9 = .ok (.iconst 1, 1) := by decide +kernel
theorem dX8_isKind_10 : decode cX8_isKind 10 = .ok (.goto 4, 3) := by decide +kernel
theorem dX8_isKind_13 : decode cX8_isKind 13 = .ok (.iconst 0, 1) := by decide +kernel
theorem dX8_isKind_14 : decode cX8_isKind 14 = .ok (.ireturn, 1) := by decide +kernel
abbrev kwX8_isKind (cI cZ : ClassId) : va_W := []
noncomputable def fX8_isKind (N : Nat) (a0 : Int32)   : Option (Int32) := if a0 < 0 then (some (0 : Int32)) else (if (5 : Int32) ≤ a0 then (some (0 : Int32)) else (some (1 : Int32)))
set_option maxHeartbeats 4000000 in
set_option maxRecDepth 100000 in
theorem wX8_isKind {p : Program} {l : Launch} {e : Env} {R : Room} {s : State} {m : MethodId} {args : Array Value} {below : List Frame} {meth : Method} {c : Code} {cells slots : Nat} {Q : State → Prop} {D : va_G} {A : Nat → Prop} {cI cZ cG : ClassId} {a0 : Int32} {N : Nat} {ρ : Int32} (X : CX p s m args c cX8_isKind 1 RX8 D (TY cI cZ cG) A) (hrm : RM R 0 0 cells slots) (ret : ∀ (pc : Nat) (H : Heap) (locs : List Loc) (ls : Array Slot), narrow .boolean (.int ρ) = .int ρ → decode cX8_isKind pc = .ok (.ireturn, 1) → WD D A (kwX8_isKind cI cZ) s.heap H locs → W p l e R s m args below meth c H locs cells slots Q (F0 m pc ls [.int ρ])) (h : fX8_isKind N a0   = some ρ) (H : Heap) (locs : List Loc) (ls : Array Slot) (hw : WD D A (kwX8_isKind cI cZ) s.heap H locs) (hl : lv_has ls 1 [(0, .int a0)]) : W p l e R s m args below meth c H locs cells slots Q (F0 m 0 ls []) := by
  have hx := X.1.1
  have hb := X.1.2.1
  unfold fX8_isKind at h
  refine lv_iload_n hx hb dX8_isKind_0 rfl (lv_at hl 0 rfl) ?_
  refine lv_if_lt (tgt := 13) hx hb dX8_isKind_1 (by decide) (fun c_1 => ?_) (fun c_1 => ?_)
  · have h := ift c_1 h
    refine lv_iconst (v := (0 : Int32)) hx hb dX8_isKind_13 (by decide) ?_
    obtain rfl := Option.some.inj h
    exact ret _ _ _ _ (show narrow .boolean (.int (0 : Int32)) = .int (0 : Int32) from rfl) dX8_isKind_14 hw
  · have h := iff_ c_1 h
    refine lv_iload_n hx hb dX8_isKind_4 rfl (lv_at hl 0 rfl) ?_
    refine lv_iconst (v := (5 : Int32)) hx hb dX8_isKind_5 (by decide) ?_
    refine lv_icmp_ge (tgt := 13) hx hb dX8_isKind_6 (by decide) (fun c_6 => ?_) (fun c_6 => ?_)
    · have h := ift c_6 h
      refine lv_iconst (v := (0 : Int32)) hx hb dX8_isKind_13 (by decide) ?_
      obtain rfl := Option.some.inj h
      exact ret _ _ _ _ (show narrow .boolean (.int (0 : Int32)) = .int (0 : Int32) from rfl) dX8_isKind_14 hw
    · have h := iff_ c_6 h
      refine lv_iconst (v := (1 : Int32)) hx hb dX8_isKind_9 (by decide) ?_
      refine lv_goto (tgt := 14) hx hb dX8_isKind_10 (by decide) ?_
      obtain rfl := Option.some.inj h
      exact ret _ _ _ _ (show narrow .boolean (.int (1 : Int32)) = .int (1 : Int32) from rfl) dX8_isKind_14 hw
set_option maxHeartbeats 4000000 in
set_option maxRecDepth 100000 in
theorem cX8_isKind_ct (l : Launch) (D : va_G) (cI cZ cG : ClassId)    (a0 : Int32) (N : Nat) (ρ : Int32) (h : fX8_isKind N a0   = some ρ) (sz : Nat) : Met l yX8_isKind (wz yX8_isKind cX8_isKind 1 (some .boolean)) (cRm 0 0) (cPre D (TY cI cZ cG) [.int a0] (kwX8_isKind cI cZ) sz) (cQi D (ρ) (kwX8_isKind cI cZ) (kwX8_isKind cI cZ) sz) 0 0 (va_A (kwX8_isKind cI cZ) sz) :=
  mk_z (by decide) (Nat.le_of_ble_eq_true rfl) (fun X hrm ret hw hl => wX8_isKind X hrm ret h _ _ _ hw hl)
theorem dX8_as_0 : decode cX8_as 0 = .ok (.aload_n 0, 1) := by decide +kernel
theorem dX8_as_1 : decode cX8_as 1 = .ok (.iload_n 1, 1) := by decide +kernel
theorem dX8_as_2 : decode cX8_as 2 = .ok (.invokevirtual 94, 3) := by decide +kernel
theorem dX8_as_5 : decode cX8_as 5 = .ok (.ifCond .ne 6, 3) := by decide +kernel
theorem dX8_as_8 : decode cX8_as 8 = .ok (.bipush (-101), 2) := by decide +kernel
theorem dX8_as_10 : decode cX8_as 10 = .ok (.ireturn, 1) := by decide +kernel
theorem dX8_as_11 : decode cX8_as 11 = .ok (.iload_n 2, 1) := by decide +kernel
theorem dX8_as_12 : decode cX8_as 12 = .ok (.invokestatic 132, 3) := by decide +kernel
theorem dX8_as_15 : decode cX8_as 15 = .ok (.ifCond .ne 6, 3) := by decide +kernel
theorem dX8_as_18 : decode cX8_as 18 = .ok (.bipush (-102), 2) := by decide +kernel
theorem dX8_as_20 : decode cX8_as 20 = .ok (.ireturn, 1) := by decide +kernel
theorem dX8_as_21 : decode cX8_as 21 = .ok (.aload_n 0, 1) := by decide +kernel
theorem dX8_as_22 : decode cX8_as 22 = .ok (.getfield 26, 3) := by decide +kernel
theorem dX8_as_25 : decode cX8_as 25 = .ok (.getfield 98, 3) := by decide +kernel
theorem dX8_as_28 : decode cX8_as 28 = .ok (.getfield 101, 3) := by decide +kernel
theorem dX8_as_31 : decode cX8_as 31 = .ok (.iload_n 1, 1) := by decide +kernel
theorem dX8_as_32 : decode cX8_as 32 = .ok (.iaload, 1) := by decide +kernel
theorem dX8_as_33 : decode cX8_as 33 = .ok (.istore_n 3, 1) := by decide +kernel
theorem dX8_as_34 : decode cX8_as 34 = .ok (.iload_n 2, 1) := by decide +kernel
theorem dX8_as_35 : decode cX8_as 35 = .ok (.ifCond .eq 18, 3) := by decide +kernel
theorem dX8_as_38 : decode cX8_as 38 = .ok (.iload_n 2, 1) := by decide +kernel
theorem dX8_as_39 : decode cX8_as 39 = .ok (.iload_n 3, 1) := by decide +kernel
theorem dX8_as_40 : decode cX8_as 40 = .ok (.if_icmp .eq 13, 3) := by decide +kernel
theorem dX8_as_43 : decode cX8_as 43 = .ok (.iload_n 2, 1) := by decide +kernel
theorem dX8_as_44 : decode cX8_as 44 = .ok (.iconst 1, 1) := by decide +kernel
theorem dX8_as_45 : decode cX8_as 45 = .ok (.if_icmp .ne 12, 3) := by decide +kernel
theorem dX8_as_48 : decode cX8_as 48 = .ok (.iload_n 3, 1) := by decide +kernel
theorem dX8_as_49 : decode cX8_as 49 = .ok (.iconst 4, 1) := by decide +kernel
theorem dX8_as_50 : decode cX8_as 50 = .ok (.if_icmp .ne 7, 3) := by decide +kernel
theorem dX8_as_53 : decode cX8_as 53 = .ok (.iconst 1, 1) := by decide +kernel
theorem dX8_as_54 : decode cX8_as 54 = .ok (.goto 4, 3) := by decide +kernel
theorem dX8_as_57 : decode cX8_as 57 = .ok (.iconst 0, 1) := by decide +kernel
theorem dX8_as_58 : decode cX8_as 58 = .ok (.istore 4, 2) := by decide +kernel
theorem dX8_as_60 : decode cX8_as 60 = .ok (.iload 4, 2) := by decide +kernel
theorem dX8_as_62 : decode cX8_as 62 = .ok (.ifCond .eq 7, 3) := by decide +kernel
theorem dX8_as_65 : decode cX8_as 65 = .ok (.iload_n 1, 1) := by decide +kernel
theorem dX8_as_66 : decode cX8_as 66 = .ok (.goto 4, 3) := by decide +kernel
theorem dX8_as_69 : decode cX8_as 69 = .ok (.iconst (-1), 1) := by decide +kernel
theorem dX8_as_70 : decode cX8_as 70 = .ok (.ireturn, 1) := by decide +kernel
abbrev kwX8_as (cI cZ : ClassId) (q q_page q_ground q_now q_kept q_ahead q_trade q_plan q_guess q_ground_worth q_ground_liked q_now_town q_now_had q_now_wishes q_now_seen q_now_town_kindOf q_now_town_plotOf q_now_town_row q_now_town_standsOn : Nat) (v_isKept : Int32) (v_squaresRead : Int32) (v_ordersDone : Int32) (v_ground_houses : Int32) (v_now_nights : Int32) (v_now_town_houses : Int32) (v_now_town_front : Int32) (v_now_town_downFor : Int32) (v_now_town_kindOf : (Nat → Int32)) : va_W := [(q, .inr (8, [.ref q_page, .ref q_ground, .ref q_now, .ref q_kept, .ref q_ahead, .ref q_trade, .ref q_plan, .ref q_guess, .int v_isKept, .int v_squaresRead, .int v_ordersDone])), (q_ground, .inr (0, [.ref q_ground_worth, .ref q_ground_liked, .int v_ground_houses])), (q_now, .inr (5, [.ref q_now_town, .ref q_now_had, .ref q_now_wishes, .ref q_now_seen, .int v_now_nights])), (q_now_town, .inr (6, [.ref q_now_town_kindOf, .ref q_now_town_plotOf, .ref q_now_town_row, .ref q_now_town_standsOn, .int v_now_town_houses, .int v_now_town_front, .int v_now_town_downFor])), (q_now_town_kindOf, .inl (cI, 6, .inl v_now_town_kindOf))]
noncomputable def fX8_as (N : Nat) (v_ground_houses : Int32) (v_now_town_kindOf : (Nat → Int32)) (a1 : Int32) (a2 : Int32)   : Option (Int32) := (fX8_isHouse N v_ground_houses a1).bind (fun x_2 => if x_2 = 0 then (some (-101 : Int32)) else ((fX8_isKind N a2).bind (fun x_12 => if x_12 = 0 then (some (-102 : Int32)) else (if a1 < 0 ∨ 6 ≤ (a1).toNatClampNeg then none else (if a2 = 0 then (some a1) else (if a2 = (v_now_town_kindOf (a1).toNatClampNeg) then (some a1) else (if a2 = (1 : Int32) then (if (v_now_town_kindOf (a1).toNatClampNeg) = (4 : Int32) then (some a1) else (some (-1 : Int32))) else (some (-1 : Int32)))))))))
set_option maxHeartbeats 4000000 in
set_option maxRecDepth 100000 in
theorem wX8_as {p : Program} {l : Launch} {e : Env} {R : Room} {s : State} {m : MethodId} {args : Array Value} {below : List Frame} {meth : Method} {c : Code} {cells slots : Nat} {Q : State → Prop} {D : va_G} {A : Nat → Prop} {cI cZ cG : ClassId} {q q_page q_ground q_now q_kept q_ahead q_trade q_plan q_guess q_ground_worth q_ground_liked q_now_town q_now_had q_now_wishes q_now_seen q_now_town_kindOf q_now_town_plotOf q_now_town_row q_now_town_standsOn : Nat} {v_isKept : Int32} {v_squaresRead : Int32} {v_ordersDone : Int32} {v_ground_houses : Int32} {v_now_nights : Int32} {v_now_town_houses : Int32} {v_now_town_front : Int32} {v_now_town_downFor : Int32} {v_now_town_kindOf : (Nat → Int32)} {a1 : Int32} {a2 : Int32} {N : Nat} {ρ : Int32} (X : CX p s m args c cX8_as 5 RX8 D (TY cI cZ cG) A) (hrm : RM R 1 21 cells slots) (ret : ∀ (pc : Nat) (H : Heap) (locs : List Loc) (ls : Array Slot), decode cX8_as pc = .ok (.ireturn, 1) → WD D A (kwX8_as cI cZ q q_page q_ground q_now q_kept q_ahead q_trade q_plan q_guess q_ground_worth q_ground_liked q_now_town q_now_had q_now_wishes q_now_seen q_now_town_kindOf q_now_town_plotOf q_now_town_row q_now_town_standsOn v_isKept v_squaresRead v_ordersDone v_ground_houses v_now_nights v_now_town_houses v_now_town_front v_now_town_downFor v_now_town_kindOf) s.heap H locs → W p l e R s m args below meth c H locs cells slots Q (F0 m pc ls [.int ρ])) (h : fX8_as N v_ground_houses v_now_town_kindOf a1 a2   = some ρ) (H : Heap) (locs : List Loc) (ls : Array Slot) (hw : WD D A (kwX8_as cI cZ q q_page q_ground q_now q_kept q_ahead q_trade q_plan q_guess q_ground_worth q_ground_liked q_now_town q_now_had q_now_wishes q_now_seen q_now_town_kindOf q_now_town_plotOf q_now_town_row q_now_town_standsOn v_isKept v_squaresRead v_ordersDone v_ground_houses v_now_nights v_now_town_houses v_now_town_front v_now_town_downFor v_now_town_kindOf) s.heap H locs) (hl : lv_has ls 5 [(0, .ref q), (1, .int a1), (2, .int a2)]) : W p l e R s m args below meth c H locs cells slots Q (F0 m 0 ls []) := by
  have hx := X.1.1
  have hb := X.1.2.1
  unfold fX8_as at h
  refine lv_aload_n hx hb dX8_as_0 rfl (lv_at hl 0 rfl) ?_
  refine lv_iload_n hx hb dX8_as_1 rfl (lv_at hl 1 rfl) ?_
  obtain ⟨x_2, hc_2, h⟩ := obd h
  refine ksV_i (ws2 := (kwX8_as cI cZ q q_page q_ground q_now q_kept q_ahead q_trade q_plan q_guess q_ground_worth q_ground_liked q_now_town q_now_had q_now_wishes q_now_seen q_now_town_kindOf q_now_town_plotOf q_now_town_row q_now_town_standsOn v_isKept v_squaresRead v_ordersDone v_ground_houses v_now_nights v_now_town_houses v_now_town_front v_now_town_downFor v_now_town_kindOf)) (nW := 5) (ci := 8) (As := [.int a1]) (rest := []) X hw rfl rfl rfl (cX8_isHouse_ct l D cI cZ cG q q_page q_ground q_now q_kept q_ahead q_trade q_plan q_guess q_ground_worth q_ground_liked v_isKept v_squaresRead v_ordersDone v_ground_houses a1 N x_2 hc_2 H.size) mX8_isHouse tw_383 (hrm.call (by decide) (by decide)) [0, 1] rfl (by decide) rfl (by decide) rfl ⟨rfl, ⟨rfl, ⟨rfl, trivial⟩⟩⟩ rfl hl.1 rfl (Nat.le_of_ble_eq_true rfl) dX8_as_2 ⟨hrm.2.2.1, hrm.2.2.2⟩ (fun H locs hw => ?_)
  refine lv_if_ne (tgt := 11) hx hb dX8_as_5 (by decide) (fun c_5 => ?_) (fun c_5 => ?_)
  · have h := iff_ c_5 h
    refine lv_iload_n hx hb dX8_as_11 rfl (lv_at hl 2 rfl) ?_
    obtain ⟨x_12, hc_12, h⟩ := obd h
    refine ksS_i (ws2 := (kwX8_as cI cZ q q_page q_ground q_now q_kept q_ahead q_trade q_plan q_guess q_ground_worth q_ground_liked q_now_town q_now_had q_now_wishes q_now_seen q_now_town_kindOf q_now_town_plotOf q_now_town_row q_now_town_standsOn v_isKept v_squaresRead v_ordersDone v_ground_houses v_now_nights v_now_town_houses v_now_town_front v_now_town_downFor v_now_town_kindOf)) (nW := 5) (As := [.int a2]) (rest := []) X hw (cX8_isKind_ct l D cI cZ cG a2 N x_12 hc_12 H.size) mX8_isKind tw_401 (hrm.call (by decide) (by decide)) [] rfl (by decide) rfl (by decide) rfl ⟨rfl, ⟨rfl, ⟨rfl, ⟨rfl, ⟨rfl, trivial⟩⟩⟩⟩⟩ rfl hl.1 rfl (Nat.le_of_ble_eq_true rfl) dX8_as_12 ⟨hrm.2.2.1, hrm.2.2.2⟩ (fun H locs hw => ?_)
    refine lv_if_ne (tgt := 21) hx hb dX8_as_15 (by decide) (fun c_15 => ?_) (fun c_15 => ?_)
    · have h := iff_ c_15 h
      refine lv_aload_n hx hb dX8_as_21 rfl (lv_at hl 0 rfl) ?_
      refine kget (ci := 8) (v := .ref q_now) X hw iX8 0 rfl rfl 2 (by decide) tw_372 rfl dX8_as_22 ?_
      refine kget (ci := 5) (v := .ref q_now_town) X hw iX5 2 rfl rfl 0 (by decide) tw_384 rfl dX8_as_25 ?_
      refine kget (ci := 6) (v := .ref q_now_town_kindOf) X hw iX6 3 rfl rfl 0 (by decide) tw_385 rfl dX8_as_28 ?_
      refine lv_iload_n hx hb dX8_as_31 rfl (lv_at hl 1 rfl) ?_
      obtain ⟨g_32, h⟩ := gd h
      refine kiald X hw 4 rfl rfl g_32 dX8_as_32 ?_
      refine lv_istore_n (lv' := [(3, .int (v_now_town_kindOf (a1).toNatClampNeg)), (0, .ref q), (1, .int a1), (2, .int a2)]) hx hb dX8_as_33 rfl hl (by decide) rfl (fun ls hl => ?_)
      refine lv_iload_n hx hb dX8_as_34 rfl (lv_at hl 3 rfl) ?_
      refine lv_if_eq (tgt := 53) hx hb dX8_as_35 (by decide) (fun c_35 => ?_) (fun c_35 => ?_)
      · have h := ift c_35 h
        refine lv_iconst (v := (1 : Int32)) hx hb dX8_as_53 (by decide) ?_
        refine lv_goto (tgt := 58) hx hb dX8_as_54 (by decide) ?_
        refine lv_istore (lv' := [(4, .int (1 : Int32)), (3, .int (v_now_town_kindOf (a1).toNatClampNeg)), (0, .ref q), (1, .int a1), (2, .int a2)]) hx hb dX8_as_58 hl (by decide) rfl (fun ls hl => ?_)
        refine lv_iload hx hb dX8_as_60 (lv_at hl 0 rfl) ?_
        refine lv_if_eq (tgt := 69) hx hb dX8_as_62 (by decide) (fun c_62 => absurd c_62 (by decide)) (fun c_62 => ?_)
        refine lv_iload_n hx hb dX8_as_65 rfl (lv_at hl 3 rfl) ?_
        refine lv_goto (tgt := 70) hx hb dX8_as_66 (by decide) ?_
        obtain rfl := Option.some.inj h
        exact ret _ _ _ _ dX8_as_70 hw
      · have h := iff_ c_35 h
        refine lv_iload_n hx hb dX8_as_38 rfl (lv_at hl 3 rfl) ?_
        refine lv_iload_n hx hb dX8_as_39 rfl (lv_at hl 0 rfl) ?_
        refine lv_icmp_eq (tgt := 53) hx hb dX8_as_40 (by decide) (fun c_40 => ?_) (fun c_40 => ?_)
        · have h := ift c_40 h
          refine lv_iconst (v := (1 : Int32)) hx hb dX8_as_53 (by decide) ?_
          refine lv_goto (tgt := 58) hx hb dX8_as_54 (by decide) ?_
          refine lv_istore (lv' := [(4, .int (1 : Int32)), (3, .int (v_now_town_kindOf (a1).toNatClampNeg)), (0, .ref q), (1, .int a1), (2, .int a2)]) hx hb dX8_as_58 hl (by decide) rfl (fun ls hl => ?_)
          refine lv_iload hx hb dX8_as_60 (lv_at hl 0 rfl) ?_
          refine lv_if_eq (tgt := 69) hx hb dX8_as_62 (by decide) (fun c_62 => absurd c_62 (by decide)) (fun c_62 => ?_)
          refine lv_iload_n hx hb dX8_as_65 rfl (lv_at hl 3 rfl) ?_
          refine lv_goto (tgt := 70) hx hb dX8_as_66 (by decide) ?_
          obtain rfl := Option.some.inj h
          exact ret _ _ _ _ dX8_as_70 hw
        · have h := iff_ c_40 h
          refine lv_iload_n hx hb dX8_as_43 rfl (lv_at hl 3 rfl) ?_
          refine lv_iconst (v := (1 : Int32)) hx hb dX8_as_44 (by decide) ?_
          refine lv_icmp_ne (tgt := 57) hx hb dX8_as_45 (by decide) (fun c_45 => ?_) (fun c_45 => ?_)
          · have h := iff_ c_45 h
            refine lv_iconst (v := (0 : Int32)) hx hb dX8_as_57 (by decide) ?_
            refine lv_istore (lv' := [(4, .int (0 : Int32)), (3, .int (v_now_town_kindOf (a1).toNatClampNeg)), (0, .ref q), (1, .int a1), (2, .int a2)]) hx hb dX8_as_58 hl (by decide) rfl (fun ls hl => ?_)
            refine lv_iload hx hb dX8_as_60 (lv_at hl 0 rfl) ?_
            refine lv_if_eq (tgt := 69) hx hb dX8_as_62 (by decide) (fun c_62 => ?_) (fun c_62 => absurd c_62 (by decide))
            refine lv_iconst (v := (-1 : Int32)) hx hb dX8_as_69 (by decide) ?_
            obtain rfl := Option.some.inj h
            exact ret _ _ _ _ dX8_as_70 hw
          · have h := ift c_45 h
            refine lv_iload_n hx hb dX8_as_48 rfl (lv_at hl 0 rfl) ?_
            refine lv_iconst (v := (4 : Int32)) hx hb dX8_as_49 (by decide) ?_
            refine lv_icmp_ne (tgt := 57) hx hb dX8_as_50 (by decide) (fun c_50 => ?_) (fun c_50 => ?_)
            · have h := iff_ c_50 h
              refine lv_iconst (v := (0 : Int32)) hx hb dX8_as_57 (by decide) ?_
              refine lv_istore (lv' := [(4, .int (0 : Int32)), (3, .int (v_now_town_kindOf (a1).toNatClampNeg)), (0, .ref q), (1, .int a1), (2, .int a2)]) hx hb dX8_as_58 hl (by decide) rfl (fun ls hl => ?_)
              refine lv_iload hx hb dX8_as_60 (lv_at hl 0 rfl) ?_
              refine lv_if_eq (tgt := 69) hx hb dX8_as_62 (by decide) (fun c_62 => ?_) (fun c_62 => absurd c_62 (by decide))
              refine lv_iconst (v := (-1 : Int32)) hx hb dX8_as_69 (by decide) ?_
              obtain rfl := Option.some.inj h
              exact ret _ _ _ _ dX8_as_70 hw
            · have h := ift c_50 h
              refine lv_iconst (v := (1 : Int32)) hx hb dX8_as_53 (by decide) ?_
              refine lv_goto (tgt := 58) hx hb dX8_as_54 (by decide) ?_
              refine lv_istore (lv' := [(4, .int (1 : Int32)), (3, .int (v_now_town_kindOf (a1).toNatClampNeg)), (0, .ref q), (1, .int a1), (2, .int a2)]) hx hb dX8_as_58 hl (by decide) rfl (fun ls hl => ?_)
              refine lv_iload hx hb dX8_as_60 (lv_at hl 0 rfl) ?_
              refine lv_if_eq (tgt := 69) hx hb dX8_as_62 (by decide) (fun c_62 => absurd c_62 (by decide)) (fun c_62 => ?_)
              refine lv_iload_n hx hb dX8_as_65 rfl (lv_at hl 3 rfl) ?_
              refine lv_goto (tgt := 70) hx hb dX8_as_66 (by decide) ?_
              obtain rfl := Option.some.inj h
              exact ret _ _ _ _ dX8_as_70 hw
    · have h := ift c_15 h
      refine lv_bipush (v := (-102 : Int32)) hx hb dX8_as_18 (by decide) ?_
      obtain rfl := Option.some.inj h
      exact ret _ _ _ _ dX8_as_20 hw
  · have h := ift c_5 h
    refine lv_bipush (v := (-101 : Int32)) hx hb dX8_as_8 (by decide) ?_
    obtain rfl := Option.some.inj h
    exact ret _ _ _ _ dX8_as_10 hw
set_option maxHeartbeats 4000000 in
set_option maxRecDepth 100000 in
theorem cX8_as_ct (l : Launch) (D : va_G) (cI cZ cG : ClassId) (q q_page q_ground q_now q_kept q_ahead q_trade q_plan q_guess q_ground_worth q_ground_liked q_now_town q_now_had q_now_wishes q_now_seen q_now_town_kindOf q_now_town_plotOf q_now_town_row q_now_town_standsOn : Nat)  (v_isKept : Int32) (v_squaresRead : Int32) (v_ordersDone : Int32) (v_ground_houses : Int32) (v_now_nights : Int32) (v_now_town_houses : Int32) (v_now_town_front : Int32) (v_now_town_downFor : Int32) (v_now_town_kindOf : (Nat → Int32)) (a1 : Int32) (a2 : Int32) (N : Nat) (ρ : Int32) (h : fX8_as N v_ground_houses v_now_town_kindOf a1 a2   = some ρ) (sz : Nat) : Met l yX8_as (wz yX8_as cX8_as 5 (some .int)) (cRm 1 21) (cPre D (TY cI cZ cG) [.ref q, .int a1, .int a2] (kwX8_as cI cZ q q_page q_ground q_now q_kept q_ahead q_trade q_plan q_guess q_ground_worth q_ground_liked q_now_town q_now_had q_now_wishes q_now_seen q_now_town_kindOf q_now_town_plotOf q_now_town_row q_now_town_standsOn v_isKept v_squaresRead v_ordersDone v_ground_houses v_now_nights v_now_town_houses v_now_town_front v_now_town_downFor v_now_town_kindOf) sz) (cQi D (ρ) (kwX8_as cI cZ q q_page q_ground q_now q_kept q_ahead q_trade q_plan q_guess q_ground_worth q_ground_liked q_now_town q_now_had q_now_wishes q_now_seen q_now_town_kindOf q_now_town_plotOf q_now_town_row q_now_town_standsOn v_isKept v_squaresRead v_ordersDone v_ground_houses v_now_nights v_now_town_houses v_now_town_front v_now_town_downFor v_now_town_kindOf) (kwX8_as cI cZ q q_page q_ground q_now q_kept q_ahead q_trade q_plan q_guess q_ground_worth q_ground_liked q_now_town q_now_had q_now_wishes q_now_seen q_now_town_kindOf q_now_town_plotOf q_now_town_row q_now_town_standsOn v_isKept v_squaresRead v_ordersDone v_ground_houses v_now_nights v_now_town_houses v_now_town_front v_now_town_downFor v_now_town_kindOf) sz) 0 0 (va_A (kwX8_as cI cZ q q_page q_ground q_now q_kept q_ahead q_trade q_plan q_guess q_ground_worth q_ground_liked q_now_town q_now_had q_now_wishes q_now_seen q_now_town_kindOf q_now_town_plotOf q_now_town_row q_now_town_standsOn v_isKept v_squaresRead v_ordersDone v_ground_houses v_now_nights v_now_town_houses v_now_town_front v_now_town_downFor v_now_town_kindOf) sz) :=
  mk_i (by decide) (Nat.le_of_ble_eq_true rfl) (fun X hrm ret hw hl => wX8_as X hrm ret h _ _ _ hw hl)
theorem dX8_hasSquare_0 : decode cX8_hasSquare 0 = .ok (.aload_n 0, 1) := by decide +kernel
theorem dX8_hasSquare_1 : decode cX8_hasSquare 1 = .ok (.getfield 19, 3) := by decide +kernel
theorem dX8_hasSquare_4 : decode cX8_hasSquare 4 = .ok (.getfield 91, 3) := by decide +kernel
theorem dX8_hasSquare_7 : decode cX8_hasSquare 7 = .ok (.ifCond .le 7, 3) := by decide +kernel
theorem dX8_hasSquare_10 : decode cX8_hasSquare 10 = .ok (.iconst 1, 1) := by decide +kernel
theorem dX8_hasSquare_11 : decode cX8_hasSquare 11 = .ok (.goto 4, 3) := by decide +kernel
theorem dX8_hasSquare_14 : decode cX8_hasSquare 14 = .ok (.iconst 0, 1) := by decide +kernel
theorem dX8_hasSquare_15 : decode cX8_hasSquare 15 = .ok (.ireturn, 1) := by decide +kernel
abbrev kwX8_hasSquare (cI cZ : ClassId) (q q_page q_ground q_now q_kept q_ahead q_trade q_plan q_guess q_ground_worth q_ground_liked : Nat) (v_isKept : Int32) (v_squaresRead : Int32) (v_ordersDone : Int32) (v_ground_houses : Int32) : va_W := [(q, .inr (8, [.ref q_page, .ref q_ground, .ref q_now, .ref q_kept, .ref q_ahead, .ref q_trade, .ref q_plan, .ref q_guess, .int v_isKept, .int v_squaresRead, .int v_ordersDone])), (q_ground, .inr (0, [.ref q_ground_worth, .ref q_ground_liked, .int v_ground_houses]))]
noncomputable def fX8_hasSquare (N : Nat) (v_ground_houses : Int32)   : Option (Int32) := if v_ground_houses ≤ 0 then (some (0 : Int32)) else (some (1 : Int32))
set_option maxHeartbeats 4000000 in
set_option maxRecDepth 100000 in
theorem wX8_hasSquare {p : Program} {l : Launch} {e : Env} {R : Room} {s : State} {m : MethodId} {args : Array Value} {below : List Frame} {meth : Method} {c : Code} {cells slots : Nat} {Q : State → Prop} {D : va_G} {A : Nat → Prop} {cI cZ cG : ClassId} {q q_page q_ground q_now q_kept q_ahead q_trade q_plan q_guess q_ground_worth q_ground_liked : Nat} {v_isKept : Int32} {v_squaresRead : Int32} {v_ordersDone : Int32} {v_ground_houses : Int32} {N : Nat} {ρ : Int32} (X : CX p s m args c cX8_hasSquare 1 RX8 D (TY cI cZ cG) A) (hrm : RM R 0 0 cells slots) (ret : ∀ (pc : Nat) (H : Heap) (locs : List Loc) (ls : Array Slot), narrow .boolean (.int ρ) = .int ρ → decode cX8_hasSquare pc = .ok (.ireturn, 1) → WD D A (kwX8_hasSquare cI cZ q q_page q_ground q_now q_kept q_ahead q_trade q_plan q_guess q_ground_worth q_ground_liked v_isKept v_squaresRead v_ordersDone v_ground_houses) s.heap H locs → W p l e R s m args below meth c H locs cells slots Q (F0 m pc ls [.int ρ])) (h : fX8_hasSquare N v_ground_houses   = some ρ) (H : Heap) (locs : List Loc) (ls : Array Slot) (hw : WD D A (kwX8_hasSquare cI cZ q q_page q_ground q_now q_kept q_ahead q_trade q_plan q_guess q_ground_worth q_ground_liked v_isKept v_squaresRead v_ordersDone v_ground_houses) s.heap H locs) (hl : lv_has ls 1 [(0, .ref q)]) : W p l e R s m args below meth c H locs cells slots Q (F0 m 0 ls []) := by
  have hx := X.1.1
  have hb := X.1.2.1
  unfold fX8_hasSquare at h
  refine lv_aload_n hx hb dX8_hasSquare_0 rfl (lv_at hl 0 rfl) ?_
  refine kget (ci := 8) (v := .ref q_ground) X hw iX8 0 rfl rfl 1 (by decide) tw_370 rfl dX8_hasSquare_1 ?_
  refine kget (ci := 0) (v := .int v_ground_houses) X hw iX0 1 rfl rfl 2 (by decide) tw_376 rfl dX8_hasSquare_4 ?_
  refine lv_if_le (tgt := 14) hx hb dX8_hasSquare_7 (by decide) (fun c_7 => ?_) (fun c_7 => ?_)
  · have h := ift c_7 h
    refine lv_iconst (v := (0 : Int32)) hx hb dX8_hasSquare_14 (by decide) ?_
    obtain rfl := Option.some.inj h
    exact ret _ _ _ _ (show narrow .boolean (.int (0 : Int32)) = .int (0 : Int32) from rfl) dX8_hasSquare_15 hw
  · have h := iff_ c_7 h
    refine lv_iconst (v := (1 : Int32)) hx hb dX8_hasSquare_10 (by decide) ?_
    refine lv_goto (tgt := 15) hx hb dX8_hasSquare_11 (by decide) ?_
    obtain rfl := Option.some.inj h
    exact ret _ _ _ _ (show narrow .boolean (.int (1 : Int32)) = .int (1 : Int32) from rfl) dX8_hasSquare_15 hw
set_option maxHeartbeats 4000000 in
set_option maxRecDepth 100000 in
theorem cX8_hasSquare_ct (l : Launch) (D : va_G) (cI cZ cG : ClassId) (q q_page q_ground q_now q_kept q_ahead q_trade q_plan q_guess q_ground_worth q_ground_liked : Nat)  (v_isKept : Int32) (v_squaresRead : Int32) (v_ordersDone : Int32) (v_ground_houses : Int32)  (N : Nat) (ρ : Int32) (h : fX8_hasSquare N v_ground_houses   = some ρ) (sz : Nat) : Met l yX8_hasSquare (wz yX8_hasSquare cX8_hasSquare 1 (some .boolean)) (cRm 0 0) (cPre D (TY cI cZ cG) [.ref q] (kwX8_hasSquare cI cZ q q_page q_ground q_now q_kept q_ahead q_trade q_plan q_guess q_ground_worth q_ground_liked v_isKept v_squaresRead v_ordersDone v_ground_houses) sz) (cQi D (ρ) (kwX8_hasSquare cI cZ q q_page q_ground q_now q_kept q_ahead q_trade q_plan q_guess q_ground_worth q_ground_liked v_isKept v_squaresRead v_ordersDone v_ground_houses) (kwX8_hasSquare cI cZ q q_page q_ground q_now q_kept q_ahead q_trade q_plan q_guess q_ground_worth q_ground_liked v_isKept v_squaresRead v_ordersDone v_ground_houses) sz) 0 0 (va_A (kwX8_hasSquare cI cZ q q_page q_ground q_now q_kept q_ahead q_trade q_plan q_guess q_ground_worth q_ground_liked v_isKept v_squaresRead v_ordersDone v_ground_houses) sz) :=
  mk_z (by decide) (Nat.le_of_ble_eq_true rfl) (fun X hrm ret hw hl => wX8_hasSquare X hrm ret h _ _ _ hw hl)
theorem dX8_isPlot_0 : decode cX8_isPlot 0 = .ok (.iload_n 0, 1) := by decide +kernel
theorem dX8_isPlot_1 : decode cX8_isPlot 1 = .ok (.ifCond .lt 13, 3) := by decide +kernel
theorem dX8_isPlot_4 : decode cX8_isPlot 4 = .ok (.iload_n 0, 1) := by decide +kernel
theorem dX8_isPlot_5 : decode cX8_isPlot 5 = .ok (.bipush 12, 2) := by decide +kernel
theorem dX8_isPlot_7 : decode cX8_isPlot 7 = .ok (.if_icmp .ge 7, 3) := by decide +kernel
theorem dX8_isPlot_10 : decode cX8_isPlot 10 = .ok (.iconst 1, 1) := by decide +kernel
theorem dX8_isPlot_11 : decode cX8_isPlot 11 = .ok (.goto 4, 3) := by decide +kernel
theorem dX8_isPlot_14 : decode cX8_isPlot 14 = .ok (.iconst 0, 1) := by decide +kernel
theorem dX8_isPlot_15 : decode cX8_isPlot 15 = .ok (.ireturn, 1) := by decide +kernel
abbrev kwX8_isPlot (cI cZ : ClassId) : va_W := []
noncomputable def fX8_isPlot (N : Nat) (a0 : Int32)   : Option (Int32) := if a0 < 0 then (some (0 : Int32)) else (if (12 : Int32) ≤ a0 then (some (0 : Int32)) else (some (1 : Int32)))
set_option maxHeartbeats 4000000 in
set_option maxRecDepth 100000 in
theorem wX8_isPlot {p : Program} {l : Launch} {e : Env} {R : Room} {s : State} {m : MethodId} {args : Array Value} {below : List Frame} {meth : Method} {c : Code} {cells slots : Nat} {Q : State → Prop} {D : va_G} {A : Nat → Prop} {cI cZ cG : ClassId} {a0 : Int32} {N : Nat} {ρ : Int32} (X : CX p s m args c cX8_isPlot 1 RX8 D (TY cI cZ cG) A) (hrm : RM R 0 0 cells slots) (ret : ∀ (pc : Nat) (H : Heap) (locs : List Loc) (ls : Array Slot), narrow .boolean (.int ρ) = .int ρ → decode cX8_isPlot pc = .ok (.ireturn, 1) → WD D A (kwX8_isPlot cI cZ) s.heap H locs → W p l e R s m args below meth c H locs cells slots Q (F0 m pc ls [.int ρ])) (h : fX8_isPlot N a0   = some ρ) (H : Heap) (locs : List Loc) (ls : Array Slot) (hw : WD D A (kwX8_isPlot cI cZ) s.heap H locs) (hl : lv_has ls 1 [(0, .int a0)]) : W p l e R s m args below meth c H locs cells slots Q (F0 m 0 ls []) := by
  have hx := X.1.1
  have hb := X.1.2.1
  unfold fX8_isPlot at h
  refine lv_iload_n hx hb dX8_isPlot_0 rfl (lv_at hl 0 rfl) ?_
  refine lv_if_lt (tgt := 14) hx hb dX8_isPlot_1 (by decide) (fun c_1 => ?_) (fun c_1 => ?_)
  · have h := ift c_1 h
    refine lv_iconst (v := (0 : Int32)) hx hb dX8_isPlot_14 (by decide) ?_
    obtain rfl := Option.some.inj h
    exact ret _ _ _ _ (show narrow .boolean (.int (0 : Int32)) = .int (0 : Int32) from rfl) dX8_isPlot_15 hw
  · have h := iff_ c_1 h
    refine lv_iload_n hx hb dX8_isPlot_4 rfl (lv_at hl 0 rfl) ?_
    refine lv_bipush (v := (12 : Int32)) hx hb dX8_isPlot_5 (by decide) ?_
    refine lv_icmp_ge (tgt := 14) hx hb dX8_isPlot_7 (by decide) (fun c_7 => ?_) (fun c_7 => ?_)
    · have h := ift c_7 h
      refine lv_iconst (v := (0 : Int32)) hx hb dX8_isPlot_14 (by decide) ?_
      obtain rfl := Option.some.inj h
      exact ret _ _ _ _ (show narrow .boolean (.int (0 : Int32)) = .int (0 : Int32) from rfl) dX8_isPlot_15 hw
    · have h := iff_ c_7 h
      refine lv_iconst (v := (1 : Int32)) hx hb dX8_isPlot_10 (by decide) ?_
      refine lv_goto (tgt := 15) hx hb dX8_isPlot_11 (by decide) ?_
      obtain rfl := Option.some.inj h
      exact ret _ _ _ _ (show narrow .boolean (.int (1 : Int32)) = .int (1 : Int32) from rfl) dX8_isPlot_15 hw
set_option maxHeartbeats 4000000 in
set_option maxRecDepth 100000 in
theorem cX8_isPlot_ct (l : Launch) (D : va_G) (cI cZ cG : ClassId)    (a0 : Int32) (N : Nat) (ρ : Int32) (h : fX8_isPlot N a0   = some ρ) (sz : Nat) : Met l yX8_isPlot (wz yX8_isPlot cX8_isPlot 1 (some .boolean)) (cRm 0 0) (cPre D (TY cI cZ cG) [.int a0] (kwX8_isPlot cI cZ) sz) (cQi D (ρ) (kwX8_isPlot cI cZ) (kwX8_isPlot cI cZ) sz) 0 0 (va_A (kwX8_isPlot cI cZ) sz) :=
  mk_z (by decide) (Nat.le_of_ble_eq_true rfl) (fun X hrm ret hw hl => wX8_isPlot X hrm ret h _ _ _ hw hl)
theorem dX8_plot_0 : decode cX8_plot 0 = .ok (.aload_n 0, 1) := by decide +kernel
theorem dX8_plot_1 : decode cX8_plot 1 = .ok (.invokevirtual 135, 3) := by decide +kernel
theorem dX8_plot_4 : decode cX8_plot 4 = .ok (.ifCond .eq 10, 3) := by decide +kernel
theorem dX8_plot_7 : decode cX8_plot 7 = .ok (.iload_n 1, 1) := by decide +kernel
theorem dX8_plot_8 : decode cX8_plot 8 = .ok (.invokestatic 138, 3) := by decide +kernel
theorem dX8_plot_11 : decode cX8_plot 11 = .ok (.ifCond .ne 6, 3) := by decide +kernel
theorem dX8_plot_14 : decode cX8_plot 14 = .ok (.bipush (-101), 2) := by decide +kernel
theorem dX8_plot_16 : decode cX8_plot 16 = .ok (.ireturn, 1) := by decide +kernel
theorem dX8_plot_17 : decode cX8_plot 17 = .ok (.iload_n 2, 1) := by decide +kernel
theorem dX8_plot_18 : decode cX8_plot 18 = .ok (.tableswitch 58 0 2 #[26, 36, 49], 26) := by decide +kernel
theorem dX8_plot_44 : decode cX8_plot 44 = .ok (.aload_n 0, 1) := by decide +kernel
theorem dX8_plot_45 : decode cX8_plot 45 = .ok (.getfield 19, 3) := by decide +kernel
theorem dX8_plot_48 : decode cX8_plot 48 = .ok (.getfield 141, 3) := by decide +kernel
theorem dX8_plot_51 : decode cX8_plot 51 = .ok (.iload_n 1, 1) := by decide +kernel
theorem dX8_plot_52 : decode cX8_plot 52 = .ok (.iaload, 1) := by decide +kernel
theorem dX8_plot_53 : decode cX8_plot 53 = .ok (.ireturn, 1) := by decide +kernel
theorem dX8_plot_54 : decode cX8_plot 54 = .ok (.aload_n 0, 1) := by decide +kernel
theorem dX8_plot_55 : decode cX8_plot 55 = .ok (.getfield 26, 3) := by decide +kernel
theorem dX8_plot_58 : decode cX8_plot 58 = .ok (.getfield 98, 3) := by decide +kernel
theorem dX8_plot_61 : decode cX8_plot 61 = .ok (.getfield 144, 3) := by decide +kernel
theorem dX8_plot_64 : decode cX8_plot 64 = .ok (.iload_n 1, 1) := by decide +kernel
theorem dX8_plot_65 : decode cX8_plot 65 = .ok (.iaload, 1) := by decide +kernel
theorem dX8_plot_66 : decode cX8_plot 66 = .ok (.ireturn, 1) := by decide +kernel
theorem dX8_plot_67 : decode cX8_plot 67 = .ok (.aload_n 0, 1) := by decide +kernel
theorem dX8_plot_68 : decode cX8_plot 68 = .ok (.getfield 19, 3) := by decide +kernel
theorem dX8_plot_71 : decode cX8_plot 71 = .ok (.iload_n 1, 1) := by decide +kernel
theorem dX8_plot_72 : decode cX8_plot 72 = .ok (.invokevirtual 147, 3) := by decide +kernel
theorem dX8_plot_75 : decode cX8_plot 75 = .ok (.ireturn, 1) := by decide +kernel
theorem dX8_plot_76 : decode cX8_plot 76 = .ok (.bipush (-102), 2) := by decide +kernel
theorem dX8_plot_78 : decode cX8_plot 78 = .ok (.ireturn, 1) := by decide +kernel
abbrev kwX8_plot (cI cZ : ClassId) (q q_page q_ground q_now q_kept q_ahead q_trade q_plan q_guess q_ground_worth q_ground_liked q_now_town q_now_had q_now_wishes q_now_seen q_now_town_kindOf q_now_town_plotOf q_now_town_row q_now_town_standsOn : Nat) (v_isKept : Int32) (v_squaresRead : Int32) (v_ordersDone : Int32) (v_ground_houses : Int32) (v_ground_liked : (Nat → Int32)) (v_now_nights : Int32) (v_now_town_houses : Int32) (v_now_town_front : Int32) (v_now_town_downFor : Int32) (v_now_town_standsOn : (Nat → Int32)) (v_ground_worth : (Nat → Int32)) : va_W := [(q, .inr (8, [.ref q_page, .ref q_ground, .ref q_now, .ref q_kept, .ref q_ahead, .ref q_trade, .ref q_plan, .ref q_guess, .int v_isKept, .int v_squaresRead, .int v_ordersDone])), (q_ground, .inr (0, [.ref q_ground_worth, .ref q_ground_liked, .int v_ground_houses])), (q_ground_liked, .inl (cI, 6, .inl v_ground_liked)), (q_now, .inr (5, [.ref q_now_town, .ref q_now_had, .ref q_now_wishes, .ref q_now_seen, .int v_now_nights])), (q_now_town, .inr (6, [.ref q_now_town_kindOf, .ref q_now_town_plotOf, .ref q_now_town_row, .ref q_now_town_standsOn, .int v_now_town_houses, .int v_now_town_front, .int v_now_town_downFor])), (q_now_town_standsOn, .inl (cI, 12, .inl v_now_town_standsOn)), (q_ground_worth, .inl (cI, 12, .inl v_ground_worth))]
noncomputable def fX8_plot (N : Nat) (v_ground_houses : Int32) (v_ground_liked : (Nat → Int32)) (v_now_town_standsOn : (Nat → Int32)) (v_ground_worth : (Nat → Int32)) (a1 : Int32) (a2 : Int32)   : Option (Int32) := (fX8_hasSquare N v_ground_houses).bind (fun x_1 => if x_1 = 0 then (some (-101 : Int32)) else ((fX8_isPlot N a1).bind (fun x_8 => if x_8 = 0 then (some (-101 : Int32)) else (if a2 = (0 : Int32) then (if a1 < 0 ∨ 12 ≤ (a1).toNatClampNeg then none else (some (v_ground_worth (a1).toNatClampNeg))) else (if a2 = (1 : Int32) then (if a1 < 0 ∨ 12 ≤ (a1).toNatClampNeg then none else (some (v_now_town_standsOn (a1).toNatClampNeg))) else (if a2 = (2 : Int32) then ((fX0_likersOf N v_ground_houses v_ground_liked a1).bind (fun x_72 => some x_72)) else (some (-102 : Int32))))))))
set_option maxHeartbeats 4000000 in
set_option maxRecDepth 100000 in
theorem wX8_plot {p : Program} {l : Launch} {e : Env} {R : Room} {s : State} {m : MethodId} {args : Array Value} {below : List Frame} {meth : Method} {c : Code} {cells slots : Nat} {Q : State → Prop} {D : va_G} {A : Nat → Prop} {cI cZ cG : ClassId} {q q_page q_ground q_now q_kept q_ahead q_trade q_plan q_guess q_ground_worth q_ground_liked q_now_town q_now_had q_now_wishes q_now_seen q_now_town_kindOf q_now_town_plotOf q_now_town_row q_now_town_standsOn : Nat} {v_isKept : Int32} {v_squaresRead : Int32} {v_ordersDone : Int32} {v_ground_houses : Int32} {v_ground_liked : (Nat → Int32)} {v_now_nights : Int32} {v_now_town_houses : Int32} {v_now_town_front : Int32} {v_now_town_downFor : Int32} {v_now_town_standsOn : (Nat → Int32)} {v_ground_worth : (Nat → Int32)} {a1 : Int32} {a2 : Int32} {N : Nat} {ρ : Int32} (X : CX p s m args c cX8_plot 3 RX8 D (TY cI cZ cG) A) (hrm : RM R 1 23 cells slots) (ret : ∀ (pc : Nat) (H : Heap) (locs : List Loc) (ls : Array Slot), decode cX8_plot pc = .ok (.ireturn, 1) → WD D A (kwX8_plot cI cZ q q_page q_ground q_now q_kept q_ahead q_trade q_plan q_guess q_ground_worth q_ground_liked q_now_town q_now_had q_now_wishes q_now_seen q_now_town_kindOf q_now_town_plotOf q_now_town_row q_now_town_standsOn v_isKept v_squaresRead v_ordersDone v_ground_houses v_ground_liked v_now_nights v_now_town_houses v_now_town_front v_now_town_downFor v_now_town_standsOn v_ground_worth) s.heap H locs → W p l e R s m args below meth c H locs cells slots Q (F0 m pc ls [.int ρ])) (h : fX8_plot N v_ground_houses v_ground_liked v_now_town_standsOn v_ground_worth a1 a2   = some ρ) (H : Heap) (locs : List Loc) (ls : Array Slot) (hw : WD D A (kwX8_plot cI cZ q q_page q_ground q_now q_kept q_ahead q_trade q_plan q_guess q_ground_worth q_ground_liked q_now_town q_now_had q_now_wishes q_now_seen q_now_town_kindOf q_now_town_plotOf q_now_town_row q_now_town_standsOn v_isKept v_squaresRead v_ordersDone v_ground_houses v_ground_liked v_now_nights v_now_town_houses v_now_town_front v_now_town_downFor v_now_town_standsOn v_ground_worth) s.heap H locs) (hl : lv_has ls 3 [(0, .ref q), (1, .int a1), (2, .int a2)]) : W p l e R s m args below meth c H locs cells slots Q (F0 m 0 ls []) := by
  have hx := X.1.1
  have hb := X.1.2.1
  unfold fX8_plot at h
  refine lv_aload_n hx hb dX8_plot_0 rfl (lv_at hl 0 rfl) ?_
  obtain ⟨x_1, hc_1, h⟩ := obd h
  refine ksV_i (ws2 := (kwX8_plot cI cZ q q_page q_ground q_now q_kept q_ahead q_trade q_plan q_guess q_ground_worth q_ground_liked q_now_town q_now_had q_now_wishes q_now_seen q_now_town_kindOf q_now_town_plotOf q_now_town_row q_now_town_standsOn v_isKept v_squaresRead v_ordersDone v_ground_houses v_ground_liked v_now_nights v_now_town_houses v_now_town_front v_now_town_downFor v_now_town_standsOn v_ground_worth)) (nW := 7) (ci := 8) (As := []) (rest := []) X hw rfl rfl rfl (cX8_hasSquare_ct l D cI cZ cG q q_page q_ground q_now q_kept q_ahead q_trade q_plan q_guess q_ground_worth q_ground_liked v_isKept v_squaresRead v_ordersDone v_ground_houses N x_1 hc_1 H.size) mX8_hasSquare tw_410 (hrm.call (by decide) (by decide)) [0, 1] rfl (by decide) rfl (by decide) rfl ⟨rfl, ⟨rfl, ⟨rfl, ⟨rfl, ⟨rfl, trivial⟩⟩⟩⟩⟩ rfl hl.1 rfl (Nat.le_of_ble_eq_true rfl) dX8_plot_1 ⟨hrm.2.2.1, hrm.2.2.2⟩ (fun H locs hw => ?_)
  refine lv_if_eq (tgt := 14) hx hb dX8_plot_4 (by decide) (fun c_4 => ?_) (fun c_4 => ?_)
  · have h := ift c_4 h
    refine lv_bipush (v := (-101 : Int32)) hx hb dX8_plot_14 (by decide) ?_
    obtain rfl := Option.some.inj h
    exact ret _ _ _ _ dX8_plot_16 hw
  · have h := iff_ c_4 h
    refine lv_iload_n hx hb dX8_plot_7 rfl (lv_at hl 1 rfl) ?_
    obtain ⟨x_8, hc_8, h⟩ := obd h
    refine ksS_i (ws2 := (kwX8_plot cI cZ q q_page q_ground q_now q_kept q_ahead q_trade q_plan q_guess q_ground_worth q_ground_liked q_now_town q_now_had q_now_wishes q_now_seen q_now_town_kindOf q_now_town_plotOf q_now_town_row q_now_town_standsOn v_isKept v_squaresRead v_ordersDone v_ground_houses v_ground_liked v_now_nights v_now_town_houses v_now_town_front v_now_town_downFor v_now_town_standsOn v_ground_worth)) (nW := 7) (As := [.int a1]) (rest := []) X hw (cX8_isPlot_ct l D cI cZ cG a1 N x_8 hc_8 H.size) mX8_isPlot tw_411 (hrm.call (by decide) (by decide)) [] rfl (by decide) rfl (by decide) rfl ⟨rfl, ⟨rfl, ⟨rfl, ⟨rfl, ⟨rfl, ⟨rfl, ⟨rfl, trivial⟩⟩⟩⟩⟩⟩⟩ rfl hl.1 rfl (Nat.le_of_ble_eq_true rfl) dX8_plot_8 ⟨hrm.2.2.1, hrm.2.2.2⟩ (fun H locs hw => ?_)
    refine lv_if_ne (tgt := 17) hx hb dX8_plot_11 (by decide) (fun c_11 => ?_) (fun c_11 => ?_)
    · have h := iff_ c_11 h
      refine lv_iload_n hx hb dX8_plot_17 rfl (lv_at hl 2 rfl) ?_
      by_cases c_18_0 : a2 = (0 : Int32)
      · have h := ift c_18_0 h
        refine lv_tableIn (off := 26) (tgt := 44) hx hb dX8_plot_18 (by rw [c_18_0]; decide) (by rw [c_18_0]; decide) (by rw [c_18_0]; rfl) (by decide) ?_
        refine lv_aload_n hx hb dX8_plot_44 rfl (lv_at hl 0 rfl) ?_
        refine kget (ci := 8) (v := .ref q_ground) X hw iX8 0 rfl rfl 1 (by decide) tw_370 rfl dX8_plot_45 ?_
        refine kget (ci := 0) (v := .ref q_ground_worth) X hw iX0 1 rfl rfl 0 (by decide) tw_412 rfl dX8_plot_48 ?_
        refine lv_iload_n hx hb dX8_plot_51 rfl (lv_at hl 1 rfl) ?_
        obtain ⟨g_52, h⟩ := gd h
        refine kiald X hw 6 rfl rfl g_52 dX8_plot_52 ?_
        obtain rfl := Option.some.inj h
        exact ret _ _ _ _ dX8_plot_53 hw
      have h := iff_ c_18_0 h
      by_cases c_18_1 : a2 = (1 : Int32)
      · have h := ift c_18_1 h
        refine lv_tableIn (off := 36) (tgt := 54) hx hb dX8_plot_18 (by rw [c_18_1]; decide) (by rw [c_18_1]; decide) (by rw [c_18_1]; rfl) (by decide) ?_
        refine lv_aload_n hx hb dX8_plot_54 rfl (lv_at hl 0 rfl) ?_
        refine kget (ci := 8) (v := .ref q_now) X hw iX8 0 rfl rfl 2 (by decide) tw_372 rfl dX8_plot_55 ?_
        refine kget (ci := 5) (v := .ref q_now_town) X hw iX5 3 rfl rfl 0 (by decide) tw_384 rfl dX8_plot_58 ?_
        refine kget (ci := 6) (v := .ref q_now_town_standsOn) X hw iX6 4 rfl rfl 3 (by decide) tw_413 rfl dX8_plot_61 ?_
        refine lv_iload_n hx hb dX8_plot_64 rfl (lv_at hl 1 rfl) ?_
        obtain ⟨g_65, h⟩ := gd h
        refine kiald X hw 5 rfl rfl g_65 dX8_plot_65 ?_
        obtain rfl := Option.some.inj h
        exact ret _ _ _ _ dX8_plot_66 hw
      have h := iff_ c_18_1 h
      by_cases c_18_2 : a2 = (2 : Int32)
      · have h := ift c_18_2 h
        refine lv_tableIn (off := 49) (tgt := 67) hx hb dX8_plot_18 (by rw [c_18_2]; decide) (by rw [c_18_2]; decide) (by rw [c_18_2]; rfl) (by decide) ?_
        refine lv_aload_n hx hb dX8_plot_67 rfl (lv_at hl 0 rfl) ?_
        refine kget (ci := 8) (v := .ref q_ground) X hw iX8 0 rfl rfl 1 (by decide) tw_370 rfl dX8_plot_68 ?_
        refine lv_iload_n hx hb dX8_plot_71 rfl (lv_at hl 1 rfl) ?_
        obtain ⟨x_72, hc_72, h⟩ := obd h
        refine ksV_i (ws2 := (kwX8_plot cI cZ q q_page q_ground q_now q_kept q_ahead q_trade q_plan q_guess q_ground_worth q_ground_liked q_now_town q_now_had q_now_wishes q_now_seen q_now_town_kindOf q_now_town_plotOf q_now_town_row q_now_town_standsOn v_isKept v_squaresRead v_ordersDone v_ground_houses v_ground_liked v_now_nights v_now_town_houses v_now_town_front v_now_town_downFor v_now_town_standsOn v_ground_worth)) (nW := 7) (ci := 0) (As := [.int a1]) (rest := []) X hw rfl rfl rfl (cX0_likersOf_ct l D cI cZ cG q_ground q_ground_worth q_ground_liked v_ground_houses v_ground_liked a1 N x_72 hc_72 H.size) mX0_likersOf tw_414 (hrm.call (by decide) (by decide)) [1, 2] rfl (by decide) rfl (by decide) rfl ⟨rfl, ⟨rfl, ⟨rfl, ⟨rfl, ⟨rfl, trivial⟩⟩⟩⟩⟩ rfl hl.1 rfl (Nat.le_of_ble_eq_true rfl) dX8_plot_72 ⟨hrm.2.2.1, hrm.2.2.2⟩ (fun H locs hw => ?_)
        obtain rfl := Option.some.inj h
        exact ret _ _ _ _ dX8_plot_75 hw
      have h := iff_ c_18_2 h
      refine lv_tableOut (tgt := 76) hx hb dX8_plot_18 (by have n0 := lv_neT c_18_0 (a := 0) (by decide); have n1 := lv_neT c_18_1 (a := 1) (by decide); have n2 := lv_neT c_18_2 (a := 2) (by decide); omega) (by decide) ?_
      refine lv_bipush (v := (-102 : Int32)) hx hb dX8_plot_76 (by decide) ?_
      obtain rfl := Option.some.inj h
      exact ret _ _ _ _ dX8_plot_78 hw
    · have h := ift c_11 h
      refine lv_bipush (v := (-101 : Int32)) hx hb dX8_plot_14 (by decide) ?_
      obtain rfl := Option.some.inj h
      exact ret _ _ _ _ dX8_plot_16 hw
set_option maxHeartbeats 4000000 in
set_option maxRecDepth 100000 in
theorem cX8_plot_ct (l : Launch) (D : va_G) (cI cZ cG : ClassId) (q q_page q_ground q_now q_kept q_ahead q_trade q_plan q_guess q_ground_worth q_ground_liked q_now_town q_now_had q_now_wishes q_now_seen q_now_town_kindOf q_now_town_plotOf q_now_town_row q_now_town_standsOn : Nat)  (v_isKept : Int32) (v_squaresRead : Int32) (v_ordersDone : Int32) (v_ground_houses : Int32) (v_ground_liked : (Nat → Int32)) (v_now_nights : Int32) (v_now_town_houses : Int32) (v_now_town_front : Int32) (v_now_town_downFor : Int32) (v_now_town_standsOn : (Nat → Int32)) (v_ground_worth : (Nat → Int32)) (a1 : Int32) (a2 : Int32) (N : Nat) (ρ : Int32) (h : fX8_plot N v_ground_houses v_ground_liked v_now_town_standsOn v_ground_worth a1 a2   = some ρ) (sz : Nat) : Met l yX8_plot (wz yX8_plot cX8_plot 3 (some .int)) (cRm 1 23) (cPre D (TY cI cZ cG) [.ref q, .int a1, .int a2] (kwX8_plot cI cZ q q_page q_ground q_now q_kept q_ahead q_trade q_plan q_guess q_ground_worth q_ground_liked q_now_town q_now_had q_now_wishes q_now_seen q_now_town_kindOf q_now_town_plotOf q_now_town_row q_now_town_standsOn v_isKept v_squaresRead v_ordersDone v_ground_houses v_ground_liked v_now_nights v_now_town_houses v_now_town_front v_now_town_downFor v_now_town_standsOn v_ground_worth) sz) (cQi D (ρ) (kwX8_plot cI cZ q q_page q_ground q_now q_kept q_ahead q_trade q_plan q_guess q_ground_worth q_ground_liked q_now_town q_now_had q_now_wishes q_now_seen q_now_town_kindOf q_now_town_plotOf q_now_town_row q_now_town_standsOn v_isKept v_squaresRead v_ordersDone v_ground_houses v_ground_liked v_now_nights v_now_town_houses v_now_town_front v_now_town_downFor v_now_town_standsOn v_ground_worth) (kwX8_plot cI cZ q q_page q_ground q_now q_kept q_ahead q_trade q_plan q_guess q_ground_worth q_ground_liked q_now_town q_now_had q_now_wishes q_now_seen q_now_town_kindOf q_now_town_plotOf q_now_town_row q_now_town_standsOn v_isKept v_squaresRead v_ordersDone v_ground_houses v_ground_liked v_now_nights v_now_town_houses v_now_town_front v_now_town_downFor v_now_town_standsOn v_ground_worth) sz) 0 0 (va_A (kwX8_plot cI cZ q q_page q_ground q_now q_kept q_ahead q_trade q_plan q_guess q_ground_worth q_ground_liked q_now_town q_now_had q_now_wishes q_now_seen q_now_town_kindOf q_now_town_plotOf q_now_town_row q_now_town_standsOn v_isKept v_squaresRead v_ordersDone v_ground_houses v_ground_liked v_now_nights v_now_town_houses v_now_town_front v_now_town_downFor v_now_town_standsOn v_ground_worth) sz) :=
  mk_i (by decide) (Nat.le_of_ble_eq_true rfl) (fun X hrm ret hw hl => wX8_plot X hrm ret h _ _ _ hw hl)
theorem dX8_night_0 : decode cX8_night 0 = .ok (.aload_n 0, 1) := by decide +kernel
theorem dX8_night_1 : decode cX8_night 1 = .ok (.invokevirtual 135, 3) := by decide +kernel
theorem dX8_night_4 : decode cX8_night 4 = .ok (.ifCond .ne 6, 3) := by decide +kernel
theorem dX8_night_7 : decode cX8_night 7 = .ok (.bipush (-103), 2) := by decide +kernel
theorem dX8_night_9 : decode cX8_night 9 = .ok (.ireturn, 1) := by decide +kernel
theorem dX8_night_10 : decode cX8_night 10 = .ok (.aload_n 0, 1) := by decide +kernel
theorem dX8_night_11 : decode cX8_night 11 = .ok (.getfield 26, 3) := by decide +kernel
theorem dX8_night_14 : decode cX8_night 14 = .ok (.getfield 150, 3) := by decide +kernel
theorem dX8_night_17 : decode cX8_night 17 = .ok (.sipush 999, 3) := by decide +kernel
theorem dX8_night_20 : decode cX8_night 20 = .ok (.if_icmp .lt 6, 3) := by decide +kernel
theorem dX8_night_23 : decode cX8_night 23 = .ok (.bipush (-104), 2) := by decide +kernel
theorem dX8_night_25 : decode cX8_night 25 = .ok (.ireturn, 1) := by decide +kernel
theorem dX8_night_26 : decode cX8_night 26 = .ok (.aload_n 0, 1) := by decide +kernel
theorem dX8_night_27 : decode cX8_night 27 = .ok (.getfield 26, 3) := by decide +kernel
theorem dX8_night_30 : decode cX8_night 30 = .ok (.getfield 98, 3) := by decide +kernel
theorem dX8_night_33 : decode cX8_night 33 = .ok (.invokevirtual 153, 3) := by decide +kernel
theorem dX8_night_36 : decode cX8_night 36 = .ok (.istore_n 1, 1) := by decide +kernel
theorem dX8_night_37 : decode cX8_night 37 = .ok (.aload_n 0, 1) := by decide +kernel
theorem dX8_night_38 : decode cX8_night 38 = .ok (.getfield 26, 3) := by decide +kernel
theorem dX8_night_41 : decode cX8_night 41 = .ok (.aload_n 0, 1) := by decide +kernel
theorem dX8_night_42 : decode cX8_night 42 = .ok (.getfield 19, 3) := by decide +kernel
theorem dX8_night_45 : decode cX8_night 45 = .ok (.invokevirtual 156, 3) := by decide +kernel
theorem dX8_night_48 : decode cX8_night 48 = .ok (.iload_n 1, 1) := by decide +kernel
theorem dX8_night_49 : decode cX8_night 49 = .ok (.ireturn, 1) := by decide +kernel
abbrev kwX8_night (cI cZ : ClassId) (q q_page q_ground q_now q_kept q_ahead q_trade q_plan q_guess q_ground_worth q_ground_liked q_now_town q_now_had q_now_wishes q_now_seen q_now_town_kindOf q_now_town_plotOf q_now_town_row q_now_town_standsOn : Nat) (v_isKept : Int32) (v_squaresRead : Int32) (v_ordersDone : Int32) (v_ground_houses : Int32) (v_now_nights : Int32) (v_now_town_houses : Int32) (v_now_town_front : Int32) (v_now_town_downFor : Int32) (v_now_town_row : (Nat → Int32)) (v_now_town_kindOf : (Nat → Int32)) (v_now_town_plotOf : (Nat → Int32)) (v_now_town_standsOn : (Nat → Int32)) (v_now_had : (Nat → Int32)) (v_ground_worth : (Nat → Int32)) : va_W := [(q, .inr (8, [.ref q_page, .ref q_ground, .ref q_now, .ref q_kept, .ref q_ahead, .ref q_trade, .ref q_plan, .ref q_guess, .int v_isKept, .int v_squaresRead, .int v_ordersDone])), (q_ground, .inr (0, [.ref q_ground_worth, .ref q_ground_liked, .int v_ground_houses])), (q_now, .inr (5, [.ref q_now_town, .ref q_now_had, .ref q_now_wishes, .ref q_now_seen, .int v_now_nights])), (q_now_town, .inr (6, [.ref q_now_town_kindOf, .ref q_now_town_plotOf, .ref q_now_town_row, .ref q_now_town_standsOn, .int v_now_town_houses, .int v_now_town_front, .int v_now_town_downFor])), (q_now_town_row, .inl (cI, 6, .inl v_now_town_row)), (q_now_town_kindOf, .inl (cI, 6, .inl v_now_town_kindOf)), (q_now_town_plotOf, .inl (cI, 6, .inl v_now_town_plotOf)), (q_now_town_standsOn, .inl (cI, 12, .inl v_now_town_standsOn)), (q_now_had, .inl (cI, 6, .inl v_now_had)), (q_ground_worth, .inl (cI, 12, .inl v_ground_worth))]
noncomputable def fX8_night (N : Nat) (v_ground_houses : Int32) (v_now_town_houses : Int32) (v_now_town_kindOf : (Nat → Int32)) (v_ground_worth : (Nat → Int32)) (v_now_nights : Int32) (v_now_town_front : Int32) (v_now_town_downFor : Int32) (v_now_town_row : (Nat → Int32)) (v_now_town_plotOf : (Nat → Int32)) (v_now_town_standsOn : (Nat → Int32)) (v_now_had : (Nat → Int32))  : Option (Int32 × Int32 × Int32 × Int32 × (Nat → Int32) × (Nat → Int32) × (Nat → Int32) × (Nat → Int32)) := (fX8_hasSquare N v_ground_houses).bind (fun x_1 => if x_1 = 0 then (some ((-103 : Int32), v_now_nights, v_now_town_front, v_now_town_downFor, v_now_town_row, v_now_town_plotOf, v_now_town_standsOn, v_now_had)) else (if v_now_nights < (999 : Int32) then ((fX6_turn N v_now_town_houses v_now_town_kindOf v_now_town_front v_now_town_downFor v_now_town_row v_now_town_plotOf v_now_town_standsOn).bind (fun x_33 => (fX5_endNight N v_now_town_houses x_33.2.2.2.2.1 v_ground_worth v_now_nights v_now_had).bind (fun x_45 => some (x_33.1, x_45.1, x_33.2.1, x_33.2.2.1, x_33.2.2.2.1, x_33.2.2.2.2.1, x_33.2.2.2.2.2, x_45.2)))) else (some ((-104 : Int32), v_now_nights, v_now_town_front, v_now_town_downFor, v_now_town_row, v_now_town_plotOf, v_now_town_standsOn, v_now_had))))
set_option maxHeartbeats 4000000 in
set_option maxRecDepth 100000 in
theorem wX8_night {p : Program} {l : Launch} {e : Env} {R : Room} {s : State} {m : MethodId} {args : Array Value} {below : List Frame} {meth : Method} {c : Code} {cells slots : Nat} {Q : State → Prop} {D : va_G} {A : Nat → Prop} {cI cZ cG : ClassId} {q q_page q_ground q_now q_kept q_ahead q_trade q_plan q_guess q_ground_worth q_ground_liked q_now_town q_now_had q_now_wishes q_now_seen q_now_town_kindOf q_now_town_plotOf q_now_town_row q_now_town_standsOn : Nat} {v_isKept : Int32} {v_squaresRead : Int32} {v_ordersDone : Int32} {v_ground_houses : Int32} {v_now_nights : Int32} {v_now_town_houses : Int32} {v_now_town_front : Int32} {v_now_town_downFor : Int32} {v_now_town_row : (Nat → Int32)} {v_now_town_kindOf : (Nat → Int32)} {v_now_town_plotOf : (Nat → Int32)} {v_now_town_standsOn : (Nat → Int32)} {v_now_had : (Nat → Int32)} {v_ground_worth : (Nat → Int32)} {N : Nat} {ρ : Int32 × Int32 × Int32 × Int32 × (Nat → Int32) × (Nat → Int32) × (Nat → Int32) × (Nat → Int32)} (X : CX p s m args c cX8_night 2 RX8 D (TY cI cZ cG) A) (hrm : RM R 3 67 cells slots) (ret : ∀ (pc : Nat) (H : Heap) (locs : List Loc) (ls : Array Slot), decode cX8_night pc = .ok (.ireturn, 1) → WD D A (kwX8_night cI cZ q q_page q_ground q_now q_kept q_ahead q_trade q_plan q_guess q_ground_worth q_ground_liked q_now_town q_now_had q_now_wishes q_now_seen q_now_town_kindOf q_now_town_plotOf q_now_town_row q_now_town_standsOn v_isKept v_squaresRead v_ordersDone v_ground_houses (ρ.2.1) v_now_town_houses (ρ.2.2.1) (ρ.2.2.2.1) (ρ.2.2.2.2.1) v_now_town_kindOf (ρ.2.2.2.2.2.1) (ρ.2.2.2.2.2.2.1) (ρ.2.2.2.2.2.2.2) v_ground_worth) s.heap H locs → W p l e R s m args below meth c H locs cells slots Q (F0 m pc ls [.int ρ.1])) (h : fX8_night N v_ground_houses v_now_town_houses v_now_town_kindOf v_ground_worth v_now_nights v_now_town_front v_now_town_downFor v_now_town_row v_now_town_plotOf v_now_town_standsOn v_now_had  = some ρ) (H : Heap) (locs : List Loc) (ls : Array Slot) (hw : WD D A (kwX8_night cI cZ q q_page q_ground q_now q_kept q_ahead q_trade q_plan q_guess q_ground_worth q_ground_liked q_now_town q_now_had q_now_wishes q_now_seen q_now_town_kindOf q_now_town_plotOf q_now_town_row q_now_town_standsOn v_isKept v_squaresRead v_ordersDone v_ground_houses v_now_nights v_now_town_houses v_now_town_front v_now_town_downFor v_now_town_row v_now_town_kindOf v_now_town_plotOf v_now_town_standsOn v_now_had v_ground_worth) s.heap H locs) (hl : lv_has ls 2 [(0, .ref q)]) : W p l e R s m args below meth c H locs cells slots Q (F0 m 0 ls []) := by
  have hx := X.1.1
  have hb := X.1.2.1
  unfold fX8_night at h
  refine lv_aload_n hx hb dX8_night_0 rfl (lv_at hl 0 rfl) ?_
  obtain ⟨x_1, hc_1, h⟩ := obd h
  refine ksV_i (ws2 := (kwX8_night cI cZ q q_page q_ground q_now q_kept q_ahead q_trade q_plan q_guess q_ground_worth q_ground_liked q_now_town q_now_had q_now_wishes q_now_seen q_now_town_kindOf q_now_town_plotOf q_now_town_row q_now_town_standsOn v_isKept v_squaresRead v_ordersDone v_ground_houses v_now_nights v_now_town_houses v_now_town_front v_now_town_downFor v_now_town_row v_now_town_kindOf v_now_town_plotOf v_now_town_standsOn v_now_had v_ground_worth)) (nW := 10) (ci := 8) (As := []) (rest := []) X hw rfl rfl rfl (cX8_hasSquare_ct l D cI cZ cG q q_page q_ground q_now q_kept q_ahead q_trade q_plan q_guess q_ground_worth q_ground_liked v_isKept v_squaresRead v_ordersDone v_ground_houses N x_1 hc_1 H.size) mX8_hasSquare tw_410 (hrm.call (by decide) (by decide)) [0, 1] rfl (by decide) rfl (by decide) rfl ⟨rfl, ⟨rfl, ⟨rfl, ⟨rfl, ⟨rfl, ⟨rfl, ⟨rfl, ⟨rfl, trivial⟩⟩⟩⟩⟩⟩⟩⟩ rfl hl.1 rfl (Nat.le_of_ble_eq_true rfl) dX8_night_1 ⟨hrm.2.2.1, hrm.2.2.2⟩ (fun H locs hw => ?_)
  refine lv_if_ne (tgt := 10) hx hb dX8_night_4 (by decide) (fun c_4 => ?_) (fun c_4 => ?_)
  · have h := iff_ c_4 h
    refine lv_aload_n hx hb dX8_night_10 rfl (lv_at hl 0 rfl) ?_
    refine kget (ci := 8) (v := .ref q_now) X hw iX8 0 rfl rfl 2 (by decide) tw_372 rfl dX8_night_11 ?_
    refine kget (ci := 5) (v := .int v_now_nights) X hw iX5 2 rfl rfl 4 (by decide) tw_418 rfl dX8_night_14 ?_
    refine lv_sipush (v := (999 : Int32)) hx hb dX8_night_17 (by decide) ?_
    refine lv_icmp_lt (tgt := 26) hx hb dX8_night_20 (by decide) (fun c_20 => ?_) (fun c_20 => ?_)
    · have h := ift c_20 h
      refine lv_aload_n hx hb dX8_night_26 rfl (lv_at hl 0 rfl) ?_
      refine kget (ci := 8) (v := .ref q_now) X hw iX8 0 rfl rfl 2 (by decide) tw_372 rfl dX8_night_27 ?_
      refine kget (ci := 5) (v := .ref q_now_town) X hw iX5 2 rfl rfl 0 (by decide) tw_384 rfl dX8_night_30 ?_
      obtain ⟨x_33, hc_33, h⟩ := obd h
      refine ksV_i (ws2 := (kwX8_night cI cZ q q_page q_ground q_now q_kept q_ahead q_trade q_plan q_guess q_ground_worth q_ground_liked q_now_town q_now_had q_now_wishes q_now_seen q_now_town_kindOf q_now_town_plotOf q_now_town_row q_now_town_standsOn v_isKept v_squaresRead v_ordersDone v_ground_houses v_now_nights v_now_town_houses x_33.2.1 x_33.2.2.1 x_33.2.2.2.1 v_now_town_kindOf x_33.2.2.2.2.1 x_33.2.2.2.2.2 v_now_had v_ground_worth)) (nW := 10) (ci := 6) (As := []) (rest := []) X hw rfl rfl rfl (cX6_turn_ct l D cI cZ cG q_now_town q_now_town_kindOf q_now_town_plotOf q_now_town_row q_now_town_standsOn v_now_town_houses v_now_town_front v_now_town_downFor v_now_town_row v_now_town_kindOf v_now_town_plotOf v_now_town_standsOn N x_33 hc_33 H.size) mX6_turn tw_419 (hrm.call (by decide) (by decide)) [3, 4, 5, 6, 7] rfl (by decide) rfl (by decide) rfl ⟨rfl, ⟨rfl, ⟨rfl, ⟨rfl, ⟨rfl, trivial⟩⟩⟩⟩⟩ rfl hl.1 rfl (Nat.le_of_ble_eq_true rfl) dX8_night_33 ⟨hrm.2.2.1, hrm.2.2.2⟩ (fun H locs hw => ?_)
      refine lv_istore_n (lv' := [(1, .int x_33.1), (0, .ref q)]) hx hb dX8_night_36 rfl hl (by decide) rfl (fun ls hl => ?_)
      refine lv_aload_n hx hb dX8_night_37 rfl (lv_at hl 1 rfl) ?_
      refine kget (ci := 8) (v := .ref q_now) X hw iX8 0 rfl rfl 2 (by decide) tw_372 rfl dX8_night_38 ?_
      refine lv_aload_n hx hb dX8_night_41 rfl (lv_at hl 1 rfl) ?_
      refine kget (ci := 8) (v := .ref q_ground) X hw iX8 0 rfl rfl 1 (by decide) tw_370 rfl dX8_night_42 ?_
      obtain ⟨x_45, hc_45, h⟩ := obd h
      refine ksV_v (ws2 := (kwX8_night cI cZ q q_page q_ground q_now q_kept q_ahead q_trade q_plan q_guess q_ground_worth q_ground_liked q_now_town q_now_had q_now_wishes q_now_seen q_now_town_kindOf q_now_town_plotOf q_now_town_row q_now_town_standsOn v_isKept v_squaresRead v_ordersDone v_ground_houses x_45.1 v_now_town_houses x_33.2.1 x_33.2.2.1 x_33.2.2.2.1 v_now_town_kindOf x_33.2.2.2.2.1 x_33.2.2.2.2.2 x_45.2 v_ground_worth)) (nW := 10) (ci := 5) (As := [.ref q_ground]) (rest := []) X hw rfl rfl rfl (cX5_endNight_ct l D cI cZ cG q_now q_now_town q_now_had q_now_wishes q_now_seen q_now_town_kindOf q_now_town_plotOf q_now_town_row q_now_town_standsOn q_ground q_ground_worth q_ground_liked v_now_nights v_now_town_houses x_33.2.1 x_33.2.2.1 v_now_had v_ground_houses x_33.2.2.2.2.1 v_ground_worth N x_45 hc_45 H.size) mX5_endNight tw_420 (hrm.call (by decide) (by decide)) [2, 3, 8, 1, 6, 9] rfl (by decide) rfl (by decide) rfl ⟨rfl, ⟨rfl, ⟨rfl, ⟨rfl, trivial⟩⟩⟩⟩ rfl hl.1 rfl (Nat.le_of_ble_eq_true rfl) dX8_night_45 ⟨hrm.2.2.1, hrm.2.2.2⟩ (fun H locs hw => ?_)
      refine lv_iload_n hx hb dX8_night_48 rfl (lv_at hl 0 rfl) ?_
      obtain rfl := Option.some.inj h
      exact ret _ _ _ _ dX8_night_49 hw
    · have h := iff_ c_20 h
      refine lv_bipush (v := (-104 : Int32)) hx hb dX8_night_23 (by decide) ?_
      obtain rfl := Option.some.inj h
      exact ret _ _ _ _ dX8_night_25 hw
  · have h := ift c_4 h
    refine lv_bipush (v := (-103 : Int32)) hx hb dX8_night_7 (by decide) ?_
    obtain rfl := Option.some.inj h
    exact ret _ _ _ _ dX8_night_9 hw
set_option maxHeartbeats 4000000 in
set_option maxRecDepth 100000 in
theorem cX8_night_ct (l : Launch) (D : va_G) (cI cZ cG : ClassId) (q q_page q_ground q_now q_kept q_ahead q_trade q_plan q_guess q_ground_worth q_ground_liked q_now_town q_now_had q_now_wishes q_now_seen q_now_town_kindOf q_now_town_plotOf q_now_town_row q_now_town_standsOn : Nat)  (v_isKept : Int32) (v_squaresRead : Int32) (v_ordersDone : Int32) (v_ground_houses : Int32) (v_now_nights : Int32) (v_now_town_houses : Int32) (v_now_town_front : Int32) (v_now_town_downFor : Int32) (v_now_town_row : (Nat → Int32)) (v_now_town_kindOf : (Nat → Int32)) (v_now_town_plotOf : (Nat → Int32)) (v_now_town_standsOn : (Nat → Int32)) (v_now_had : (Nat → Int32)) (v_ground_worth : (Nat → Int32))  (N : Nat) (ρ : Int32 × Int32 × Int32 × Int32 × (Nat → Int32) × (Nat → Int32) × (Nat → Int32) × (Nat → Int32)) (h : fX8_night N v_ground_houses v_now_town_houses v_now_town_kindOf v_ground_worth v_now_nights v_now_town_front v_now_town_downFor v_now_town_row v_now_town_plotOf v_now_town_standsOn v_now_had  = some ρ) (sz : Nat) : Met l yX8_night (wz yX8_night cX8_night 2 (some .int)) (cRm 3 67) (cPre D (TY cI cZ cG) [.ref q] (kwX8_night cI cZ q q_page q_ground q_now q_kept q_ahead q_trade q_plan q_guess q_ground_worth q_ground_liked q_now_town q_now_had q_now_wishes q_now_seen q_now_town_kindOf q_now_town_plotOf q_now_town_row q_now_town_standsOn v_isKept v_squaresRead v_ordersDone v_ground_houses v_now_nights v_now_town_houses v_now_town_front v_now_town_downFor v_now_town_row v_now_town_kindOf v_now_town_plotOf v_now_town_standsOn v_now_had v_ground_worth) sz) (cQi D (ρ.1) (kwX8_night cI cZ q q_page q_ground q_now q_kept q_ahead q_trade q_plan q_guess q_ground_worth q_ground_liked q_now_town q_now_had q_now_wishes q_now_seen q_now_town_kindOf q_now_town_plotOf q_now_town_row q_now_town_standsOn v_isKept v_squaresRead v_ordersDone v_ground_houses v_now_nights v_now_town_houses v_now_town_front v_now_town_downFor v_now_town_row v_now_town_kindOf v_now_town_plotOf v_now_town_standsOn v_now_had v_ground_worth) (kwX8_night cI cZ q q_page q_ground q_now q_kept q_ahead q_trade q_plan q_guess q_ground_worth q_ground_liked q_now_town q_now_had q_now_wishes q_now_seen q_now_town_kindOf q_now_town_plotOf q_now_town_row q_now_town_standsOn v_isKept v_squaresRead v_ordersDone v_ground_houses (ρ.2.1) v_now_town_houses (ρ.2.2.1) (ρ.2.2.2.1) (ρ.2.2.2.2.1) v_now_town_kindOf (ρ.2.2.2.2.2.1) (ρ.2.2.2.2.2.2.1) (ρ.2.2.2.2.2.2.2) v_ground_worth) sz) 0 0 (va_A (kwX8_night cI cZ q q_page q_ground q_now q_kept q_ahead q_trade q_plan q_guess q_ground_worth q_ground_liked q_now_town q_now_had q_now_wishes q_now_seen q_now_town_kindOf q_now_town_plotOf q_now_town_row q_now_town_standsOn v_isKept v_squaresRead v_ordersDone v_ground_houses v_now_nights v_now_town_houses v_now_town_front v_now_town_downFor v_now_town_row v_now_town_kindOf v_now_town_plotOf v_now_town_standsOn v_now_had v_ground_worth) sz) :=
  mk_i (by decide) (Nat.le_of_ble_eq_true rfl) (fun X hrm ret hw hl => wX8_night X hrm ret h _ _ _ hw hl)
