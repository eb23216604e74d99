theorem dX1_follow_0 : decode cX1_follow 0 = .ok (.iload_n 3, 1) := by decide +kernel
theorem dX1_follow_1 : decode cX1_follow 1 = .ok (.bipush 40, 2) := by decide +kernel
theorem dX1_follow_3 : decode cX1_follow 3 = .ok (.invokestatic 48, 3) := by decide +kernel
theorem dX1_follow_6 : decode cX1_follow 6 = .ok (.istore 4, 2) := by decide +kernel
theorem dX1_follow_8 : decode cX1_follow 8 = .ok (.iconst 0, 1) := by decide +kernel
theorem dX1_follow_9 : decode cX1_follow 9 = .ok (.istore 5, 2) := by decide +kernel
theorem dX1_follow_11 : decode cX1_follow 11 = .ok (.iload 5, 2) := by decide +kernel
theorem dX1_follow_13 : decode cX1_follow 13 = .ok (.iconst 5, 1) := by decide +kernel
theorem dX1_follow_14 : decode cX1_follow 14 = .ok (.if_icmp .ge 71, 3) := by decide +kernel
theorem dX1_follow_17 : decode cX1_follow 17 = .ok (.aload_n 0, 1) := by decide +kernel
theorem dX1_follow_18 : decode cX1_follow 18 = .ok (.getfield 19, 3) := by decide +kernel
theorem dX1_follow_21 : decode cX1_follow 21 = .ok (.aload_n 2, 1) := by decide +kernel
theorem dX1_follow_22 : decode cX1_follow 22 = .ok (.invokevirtual 53, 3) := by decide +kernel
theorem dX1_follow_25 : decode cX1_follow 25 = .ok (.aload_n 0, 1) := by decide +kernel
theorem dX1_follow_26 : decode cX1_follow 26 = .ok (.getfield 19, 3) := by decide +kernel
theorem dX1_follow_29 : decode cX1_follow 29 = .ok (.getfield 57, 3) := by decide +kernel
theorem dX1_follow_32 : decode cX1_follow 32 = .ok (.iload_n 1, 1) := by decide +kernel
theorem dX1_follow_33 : decode cX1_follow 33 = .ok (.iload 5, 2) := by decide +kernel
theorem dX1_follow_35 : decode cX1_follow 35 = .ok (.iastore, 1) := by decide +kernel
theorem dX1_follow_36 : decode cX1_follow 36 = .ok (.iconst 1, 1) := by decide +kernel
theorem dX1_follow_37 : decode cX1_follow 37 = .ok (.istore 6, 2) := by decide +kernel
theorem dX1_follow_39 : decode cX1_follow 39 = .ok (.iload 6, 2) := by decide +kernel
theorem dX1_follow_41 : decode cX1_follow 41 = .ok (.iload 4, 2) := by decide +kernel
theorem dX1_follow_43 : decode cX1_follow 43 = .ok (.if_icmp .gt 36, 3) := by decide +kernel
theorem dX1_follow_46 : decode cX1_follow 46 = .ok (.aload_n 0, 1) := by decide +kernel
theorem dX1_follow_47 : decode cX1_follow 47 = .ok (.getfield 19, 3) := by decide +kernel
theorem dX1_follow_50 : decode cX1_follow 50 = .ok (.invokevirtual 61, 3) := by decide +kernel
theorem dX1_follow_53 : decode cX1_follow 53 = .ok (.pop, 1) := by decide +kernel
theorem dX1_follow_54 : decode cX1_follow 54 = .ok (.aload_n 0, 1) := by decide +kernel
theorem dX1_follow_55 : decode cX1_follow 55 = .ok (.getfield 11, 3) := by decide +kernel
theorem dX1_follow_58 : decode cX1_follow 58 = .ok (.iload 5, 2) := by decide +kernel
theorem dX1_follow_60 : decode cX1_follow 60 = .ok (.aaload, 1) := by decide +kernel
theorem dX1_follow_61 : decode cX1_follow 61 = .ok (.iload 6, 2) := by decide +kernel
theorem dX1_follow_63 : decode cX1_follow 63 = .ok (.aload_n 0, 1) := by decide +kernel
theorem dX1_follow_64 : decode cX1_follow 64 = .ok (.getfield 19, 3) := by decide +kernel
theorem dX1_follow_67 : decode cX1_follow 67 = .ok (.getfield 64, 3) := by decide +kernel
theorem dX1_follow_70 : decode cX1_follow 70 = .ok (.iload_n 1, 1) := by decide +kernel
theorem dX1_follow_71 : decode cX1_follow 71 = .ok (.iaload, 1) := by decide +kernel
theorem dX1_follow_72 : decode cX1_follow 72 = .ok (.iastore, 1) := by decide +kernel
theorem dX1_follow_73 : decode cX1_follow 73 = .ok (.iinc 6 1, 3) := by decide +kernel
theorem dX1_follow_76 : decode cX1_follow 76 = .ok (.goto (-37), 3) := by decide +kernel
theorem dX1_follow_79 : decode cX1_follow 79 = .ok (.iinc 5 1, 3) := by decide +kernel
theorem dX1_follow_82 : decode cX1_follow 82 = .ok (.goto (-71), 3) := by decide +kernel
theorem dX1_follow_85 : decode cX1_follow 85 = .ok (.return_, 1) := by decide +kernel
abbrev kwX1_follow (cI cZ cG : ClassId) (q q_track q_town q_town_kindOf q_town_plotOf q_town_row q_town_standsOn q2 q2_kindOf q2_plotOf q2_row q2_standsOn q_track_0 q_track_1 q_track_2 q_track_3 q_track_4 : Nat) (v_town_houses : Int32) (v_town_front : Int32) (v_town_downFor : Int32) (w2_houses : Int32) (w2_front : Int32) (w2_downFor : Int32) (w2_kindOf : (Nat → Int32)) (v_town_kindOf : (Nat → Int32)) (w2_plotOf : (Nat → Int32)) (v_town_plotOf : (Nat → Int32)) (w2_row : (Nat → Int32)) (v_town_row : (Nat → Int32)) (w2_standsOn : (Nat → Int32)) (v_town_standsOn : (Nat → Int32)) (v_track_0 : (Nat → Int32)) (v_track_1 : (Nat → Int32)) (v_track_2 : (Nat → Int32)) (v_track_3 : (Nat → Int32)) (v_track_4 : (Nat → Int32)) : va_W := [(q, .inr (1, [.ref q_track, .ref q_town])), (q_town, .inr (6, [.ref q_town_kindOf, .ref q_town_plotOf, .ref q_town_row, .ref q_town_standsOn, .int v_town_houses, .int v_town_front, .int v_town_downFor])), (q2, .inr (6, [.ref q2_kindOf, .ref q2_plotOf, .ref q2_row, .ref q2_standsOn, .int w2_houses, .int w2_front, .int w2_downFor])), (q2_kindOf, .inl (cI, 6, .inl w2_kindOf)), (q_town_kindOf, .inl (cI, 6, .inl v_town_kindOf)), (q2_plotOf, .inl (cI, 6, .inl w2_plotOf)), (q_town_plotOf, .inl (cI, 6, .inl v_town_plotOf)), (q2_row, .inl (cI, 6, .inl w2_row)), (q_town_row, .inl (cI, 6, .inl v_town_row)), (q2_standsOn, .inl (cI, 12, .inl w2_standsOn)), (q_town_standsOn, .inl (cI, 12, .inl v_town_standsOn)), (q_track, .inl (cG, 5, .inr (.inr (.inr (.inr (fun i => if i = 0 then some q_track_0 else if i = 1 then some q_track_1 else if i = 2 then some q_track_2 else if i = 3 then some q_track_3 else if i = 4 then some q_track_4 else none)))))), (q_track_0, .inl (cI, 41, .inl v_track_0)), (q_track_1, .inl (cI, 41, .inl v_track_1)), (q_track_2, .inl (cI, 41, .inl v_track_2)), (q_track_3, .inl (cI, 41, .inl v_track_3)), (q_track_4, .inl (cI, 41, .inl v_track_4))]
noncomputable def fX1_follow_39 (N : Nat) (w2_houses : Int32) (w2_front : Int32) (w2_downFor : Int32) (w2_kindOf : (Nat → Int32)) (w2_plotOf : (Nat → Int32)) (w2_row : (Nat → Int32)) (w2_standsOn : (Nat → Int32)) (a1 : Int32) (a3 : Int32) (K_11 : Int32 → Int32 → Int32 → Int32 → Int32 → (Nat → Int32) → (Nat → Int32) → (Nat → Int32) → (Nat → Int32) → (Nat → Int32) → (Nat → Int32) → (Nat → Int32) → (Nat → Int32) → (Nat → Int32) → Option (Int32 × Int32 × Int32 × (Nat → Int32) × (Nat → Int32) × (Nat → Int32) × (Nat → Int32) × (Nat → Int32) × (Nat → Int32) × (Nat → Int32) × (Nat → Int32) × (Nat → Int32))) (K_39 : Int32 → Int32 → Int32 → Int32 → Int32 → Int32 → (Nat → Int32) → (Nat → Int32) → (Nat → Int32) → (Nat → Int32) → (Nat → Int32) → (Nat → Int32) → (Nat → Int32) → (Nat → Int32) → (Nat → Int32) → Option (Int32 × Int32 × Int32 × (Nat → Int32) × (Nat → Int32) × (Nat → Int32) × (Nat → Int32) × (Nat → Int32) × (Nat → Int32) × (Nat → Int32) × (Nat → Int32) × (Nat → Int32))) (l4 : Int32) (l5 : Int32) (l6 : Int32) (v_town_houses : Int32) (v_town_front : Int32) (v_town_downFor : Int32) (v_town_kindOf : (Nat → Int32)) (v_town_plotOf : (Nat → Int32)) (v_town_row : (Nat → Int32)) (v_town_standsOn : (Nat → Int32)) (v_track_0 : (Nat → Int32)) (v_track_1 : (Nat → Int32)) (v_track_2 : (Nat → Int32)) (v_track_3 : (Nat → Int32)) (v_track_4 : (Nat → Int32)) : Option (Int32 × Int32 × Int32 × (Nat → Int32) × (Nat → Int32) × (Nat → Int32) × (Nat → Int32) × (Nat → Int32) × (Nat → Int32) × (Nat → Int32) × (Nat → Int32) × (Nat → Int32)) := if l4 < l6 then (K_11 l4 (l5 + (1 : Int32)) v_town_houses v_town_front v_town_downFor v_town_kindOf v_town_plotOf v_town_row v_town_standsOn v_track_0 v_track_1 v_track_2 v_track_3 v_track_4) else ((fX6_turn N v_town_houses v_town_kindOf v_town_front v_town_downFor v_town_row v_town_plotOf v_town_standsOn).bind (fun x_50 => if l5 < 0 ∨ 5 ≤ (l5).toNatClampNeg then none else (if l5 = (0 : Int32) then (if a1 < 0 ∨ 6 ≤ (a1).toNatClampNeg then none else (if l6 < 0 ∨ 41 ≤ (l6).toNatClampNeg then none else (K_39 l4 l5 (l6 + (1 : Int32)) v_town_houses x_50.2.1 x_50.2.2.1 v_town_kindOf x_50.2.2.2.2.1 x_50.2.2.2.1 x_50.2.2.2.2.2 (upd v_track_0 (l6).toNatClampNeg (x_50.2.2.2.2.1 (a1).toNatClampNeg)) v_track_1 v_track_2 v_track_3 v_track_4))) else (if l5 = (1 : Int32) then (if a1 < 0 ∨ 6 ≤ (a1).toNatClampNeg then none else (if l6 < 0 ∨ 41 ≤ (l6).toNatClampNeg then none else (K_39 l4 l5 (l6 + (1 : Int32)) v_town_houses x_50.2.1 x_50.2.2.1 v_town_kindOf x_50.2.2.2.2.1 x_50.2.2.2.1 x_50.2.2.2.2.2 v_track_0 (upd v_track_1 (l6).toNatClampNeg (x_50.2.2.2.2.1 (a1).toNatClampNeg)) v_track_2 v_track_3 v_track_4))) else (if l5 = (2 : Int32) then (if a1 < 0 ∨ 6 ≤ (a1).toNatClampNeg then none else (if l6 < 0 ∨ 41 ≤ (l6).toNatClampNeg then none else (K_39 l4 l5 (l6 + (1 : Int32)) v_town_houses x_50.2.1 x_50.2.2.1 v_town_kindOf x_50.2.2.2.2.1 x_50.2.2.2.1 x_50.2.2.2.2.2 v_track_0 v_track_1 (upd v_track_2 (l6).toNatClampNeg (x_50.2.2.2.2.1 (a1).toNatClampNeg)) v_track_3 v_track_4))) else (if l5 = (3 : Int32) then (if a1 < 0 ∨ 6 ≤ (a1).toNatClampNeg then none else (if l6 < 0 ∨ 41 ≤ (l6).toNatClampNeg then none else (K_39 l4 l5 (l6 + (1 : Int32)) v_town_houses x_50.2.1 x_50.2.2.1 v_town_kindOf x_50.2.2.2.2.1 x_50.2.2.2.1 x_50.2.2.2.2.2 v_track_0 v_track_1 v_track_2 (upd v_track_3 (l6).toNatClampNeg (x_50.2.2.2.2.1 (a1).toNatClampNeg)) v_track_4))) else (if l5 = (4 : Int32) then (if a1 < 0 ∨ 6 ≤ (a1).toNatClampNeg then none else (if l6 < 0 ∨ 41 ≤ (l6).toNatClampNeg then none else (K_39 l4 l5 (l6 + (1 : Int32)) v_town_houses x_50.2.1 x_50.2.2.1 v_town_kindOf x_50.2.2.2.2.1 x_50.2.2.2.1 x_50.2.2.2.2.2 v_track_0 v_track_1 v_track_2 v_track_3 (upd v_track_4 (l6).toNatClampNeg (x_50.2.2.2.2.1 (a1).toNatClampNeg))))) else (none))))))))
noncomputable def fX1_follow_11 (N : Nat) (w2_houses : Int32) (w2_front : Int32) (w2_downFor : Int32) (w2_kindOf : (Nat → Int32)) (w2_plotOf : (Nat → Int32)) (w2_row : (Nat → Int32)) (w2_standsOn : (Nat → Int32)) (a1 : Int32) (a3 : Int32)  (K_11 : Int32 → Int32 → Int32 → Int32 → Int32 → (Nat → Int32) → (Nat → Int32) → (Nat → Int32) → (Nat → Int32) → (Nat → Int32) → (Nat → Int32) → (Nat → Int32) → (Nat → Int32) → (Nat → Int32) → Option (Int32 × Int32 × Int32 × (Nat → Int32) × (Nat → Int32) × (Nat → Int32) × (Nat → Int32) × (Nat → Int32) × (Nat → Int32) × (Nat → Int32) × (Nat → Int32) × (Nat → Int32))) (l4 : Int32) (l5 : Int32) (v_town_houses : Int32) (v_town_front : Int32) (v_town_downFor : Int32) (v_town_kindOf : (Nat → Int32)) (v_town_plotOf : (Nat → Int32)) (v_town_row : (Nat → Int32)) (v_town_standsOn : (Nat → Int32)) (v_track_0 : (Nat → Int32)) (v_track_1 : (Nat → Int32)) (v_track_2 : (Nat → Int32)) (v_track_3 : (Nat → Int32)) (v_track_4 : (Nat → Int32)) : Option (Int32 × Int32 × Int32 × (Nat → Int32) × (Nat → Int32) × (Nat → Int32) × (Nat → Int32) × (Nat → Int32) × (Nat → Int32) × (Nat → Int32) × (Nat → Int32) × (Nat → Int32)) := if (5 : Int32) ≤ l5 then (some (v_town_houses, v_town_front, v_town_downFor, v_town_kindOf, v_town_plotOf, v_town_row, v_town_standsOn, v_track_0, v_track_1, v_track_2, v_track_3, v_track_4)) else ((fX6_copyFrom N w2_houses w2_front w2_downFor w2_kindOf w2_plotOf w2_row w2_standsOn v_town_houses v_town_front v_town_downFor v_town_kindOf v_town_plotOf v_town_row v_town_standsOn).bind (fun x_22 => if a1 < 0 ∨ 6 ≤ (a1).toNatClampNeg then none else (lfix (fun (K : Int32 × Int32 × Int32 × Int32 × Int32 × Int32 × (Nat → Int32) × (Nat → Int32) × (Nat → Int32) × (Nat → Int32) × (Nat → Int32) × (Nat → Int32) × (Nat → Int32) × (Nat → Int32) × (Nat → Int32) → Option (Int32 × Int32 × Int32 × (Nat → Int32) × (Nat → Int32) × (Nat → Int32) × (Nat → Int32) × (Nat → Int32) × (Nat → Int32) × (Nat → Int32) × (Nat → Int32) × (Nat → Int32))) (a : Int32 × Int32 × Int32 × Int32 × Int32 × Int32 × (Nat → Int32) × (Nat → Int32) × (Nat → Int32) × (Nat → Int32) × (Nat → Int32) × (Nat → Int32) × (Nat → Int32) × (Nat → Int32) × (Nat → Int32)) => fX1_follow_39 N w2_houses w2_front w2_downFor w2_kindOf w2_plotOf w2_row w2_standsOn a1 a3 K_11 (fun (l4 : Int32) (l5 : Int32) (l6 : Int32) (v_town_houses : Int32) (v_town_front : Int32) (v_town_downFor : Int32) (v_town_kindOf : (Nat → Int32)) (v_town_plotOf : (Nat → Int32)) (v_town_row : (Nat → Int32)) (v_town_standsOn : (Nat → Int32)) (v_track_0 : (Nat → Int32)) (v_track_1 : (Nat → Int32)) (v_track_2 : (Nat → Int32)) (v_track_3 : (Nat → Int32)) (v_track_4 : (Nat → Int32)) => K (l4, l5, l6, v_town_houses, v_town_front, v_town_downFor, v_town_kindOf, v_town_plotOf, v_town_row, v_town_standsOn, v_track_0, v_track_1, v_track_2, v_track_3, v_track_4)) a.1 a.2.1 a.2.2.1 a.2.2.2.1 a.2.2.2.2.1 a.2.2.2.2.2.1 a.2.2.2.2.2.2.1 a.2.2.2.2.2.2.2.1 a.2.2.2.2.2.2.2.2.1 a.2.2.2.2.2.2.2.2.2.1 a.2.2.2.2.2.2.2.2.2.2.1 a.2.2.2.2.2.2.2.2.2.2.2.1 a.2.2.2.2.2.2.2.2.2.2.2.2.1 a.2.2.2.2.2.2.2.2.2.2.2.2.2.1 a.2.2.2.2.2.2.2.2.2.2.2.2.2.2) N (l4, l5, (1 : Int32), x_22.1, x_22.2.1, x_22.2.2.1, (upd x_22.2.2.2.1 (a1).toNatClampNeg l5), x_22.2.2.2.2.1, x_22.2.2.2.2.2.1, x_22.2.2.2.2.2.2, v_track_0, v_track_1, v_track_2, v_track_3, v_track_4))))
noncomputable def fX1_follow (N : Nat) (w2_houses : Int32) (w2_front : Int32) (w2_downFor : Int32) (w2_kindOf : (Nat → Int32)) (w2_plotOf : (Nat → Int32)) (w2_row : (Nat → Int32)) (w2_standsOn : (Nat → Int32)) (a1 : Int32) (a3 : Int32) (v_town_houses : Int32) (v_town_front : Int32) (v_town_downFor : Int32) (v_town_kindOf : (Nat → Int32)) (v_town_plotOf : (Nat → Int32)) (v_town_row : (Nat → Int32)) (v_town_standsOn : (Nat → Int32)) (v_track_0 : (Nat → Int32)) (v_track_1 : (Nat → Int32)) (v_track_2 : (Nat → Int32)) (v_track_3 : (Nat → Int32)) (v_track_4 : (Nat → Int32))  : Option (Int32 × Int32 × Int32 × (Nat → Int32) × (Nat → Int32) × (Nat → Int32) × (Nat → Int32) × (Nat → Int32) × (Nat → Int32) × (Nat → Int32) × (Nat → Int32) × (Nat → Int32)) := lfix (fun (K : Int32 × Int32 × Int32 × Int32 × Int32 × (Nat → Int32) × (Nat → Int32) × (Nat → Int32) × (Nat → Int32) × (Nat → Int32) × (Nat → Int32) × (Nat → Int32) × (Nat → Int32) × (Nat → Int32) → Option (Int32 × Int32 × Int32 × (Nat → Int32) × (Nat → Int32) × (Nat → Int32) × (Nat → Int32) × (Nat → Int32) × (Nat → Int32) × (Nat → Int32) × (Nat → Int32) × (Nat → Int32))) (a : Int32 × Int32 × Int32 × Int32 × Int32 × (Nat → Int32) × (Nat → Int32) × (Nat → Int32) × (Nat → Int32) × (Nat → Int32) × (Nat → Int32) × (Nat → Int32) × (Nat → Int32) × (Nat → Int32)) => fX1_follow_11 N w2_houses w2_front w2_downFor w2_kindOf w2_plotOf w2_row w2_standsOn a1 a3 (fun (l4 : Int32) (l5 : Int32) (v_town_houses : Int32) (v_town_front : Int32) (v_town_downFor : Int32) (v_town_kindOf : (Nat → Int32)) (v_town_plotOf : (Nat → Int32)) (v_town_row : (Nat → Int32)) (v_town_standsOn : (Nat → Int32)) (v_track_0 : (Nat → Int32)) (v_track_1 : (Nat → Int32)) (v_track_2 : (Nat → Int32)) (v_track_3 : (Nat → Int32)) (v_track_4 : (Nat → Int32)) => K (l4, l5, v_town_houses, v_town_front, v_town_downFor, v_town_kindOf, v_town_plotOf, v_town_row, v_town_standsOn, v_track_0, v_track_1, v_track_2, v_track_3, v_track_4)) a.1 a.2.1 a.2.2.1 a.2.2.2.1 a.2.2.2.2.1 a.2.2.2.2.2.1 a.2.2.2.2.2.2.1 a.2.2.2.2.2.2.2.1 a.2.2.2.2.2.2.2.2.1 a.2.2.2.2.2.2.2.2.2.1 a.2.2.2.2.2.2.2.2.2.2.1 a.2.2.2.2.2.2.2.2.2.2.2.1 a.2.2.2.2.2.2.2.2.2.2.2.2.1 a.2.2.2.2.2.2.2.2.2.2.2.2.2) N ((if (40 : Int32) < a3 then (40 : Int32) else a3), (0 : Int32), v_town_houses, v_town_front, v_town_downFor, v_town_kindOf, v_town_plotOf, v_town_row, v_town_standsOn, v_track_0, v_track_1, v_track_2, v_track_3, v_track_4)
set_option maxHeartbeats 4000000 in
set_option maxRecDepth 100000 in
theorem wX1_follow_39 {p : Program} {l : Launch} {e : Env} {R : Room} {s : State} {m : MethodId} {args : Array Value} {below : List Frame} {meth : Method} {c : Code} {cells slots : Nat} {Q : State → Prop} {D : va_G} {A : Nat → Prop} {cI cZ cG : ClassId} {q q_track q_town q_town_kindOf q_town_plotOf q_town_row q_town_standsOn q2 q2_kindOf q2_plotOf q2_row q2_standsOn q_track_0 q_track_1 q_track_2 q_track_3 q_track_4 : Nat} {w2_houses : Int32} {w2_front : Int32} {w2_downFor : Int32} {w2_kindOf : (Nat → Int32)} {w2_plotOf : (Nat → Int32)} {w2_row : (Nat → Int32)} {w2_standsOn : (Nat → Int32)} {a1 : Int32} {a3 : Int32} {N : Nat} {ρ : Int32 × Int32 × Int32 × (Nat → Int32) × (Nat → Int32) × (Nat → Int32) × (Nat → Int32) × (Nat → Int32) × (Nat → Int32) × (Nat → Int32) × (Nat → Int32) × (Nat → Int32)} (X : CX p s m args c cX1_follow 7 RX1 D (TY cI cZ cG) A) (hrm : RM R 3 67 cells slots) (ret : ∀ (pc : Nat) (H : Heap) (locs : List Loc) (ls : Array Slot), decode cX1_follow pc = .ok (.return_, 1) → WD D A (kwX1_follow cI cZ cG q q_track q_town q_town_kindOf q_town_plotOf q_town_row q_town_standsOn q2 q2_kindOf q2_plotOf q2_row q2_standsOn q_track_0 q_track_1 q_track_2 q_track_3 q_track_4 (ρ.1) (ρ.2.1) (ρ.2.2.1) w2_houses w2_front w2_downFor w2_kindOf (ρ.2.2.2.1) w2_plotOf (ρ.2.2.2.2.1) w2_row (ρ.2.2.2.2.2.1) w2_standsOn (ρ.2.2.2.2.2.2.1) (ρ.2.2.2.2.2.2.2.1) (ρ.2.2.2.2.2.2.2.2.1) (ρ.2.2.2.2.2.2.2.2.2.1) (ρ.2.2.2.2.2.2.2.2.2.2.1) (ρ.2.2.2.2.2.2.2.2.2.2.2)) s.heap H locs → W p l e R s m args below meth c H locs cells slots Q (F0 m pc ls [])) {K_11 : Int32 → Int32 → Int32 → Int32 → Int32 → (Nat → Int32) → (Nat → Int32) → (Nat → Int32) → (Nat → Int32) → (Nat → Int32) → (Nat → Int32) → (Nat → Int32) → (Nat → Int32) → (Nat → Int32) → Option (Int32 × Int32 × Int32 × (Nat → Int32) × (Nat → Int32) × (Nat → Int32) × (Nat → Int32) × (Nat → Int32) × (Nat → Int32) × (Nat → Int32) × (Nat → Int32) × (Nat → Int32))} (hK_11 : ∀ (l4 : Int32) (l5 : Int32) (v_town_houses : Int32) (v_town_front : Int32) (v_town_downFor : Int32) (v_town_kindOf : (Nat → Int32)) (v_town_plotOf : (Nat → Int32)) (v_town_row : (Nat → Int32)) (v_town_standsOn : (Nat → Int32)) (v_track_0 : (Nat → Int32)) (v_track_1 : (Nat → Int32)) (v_track_2 : (Nat → Int32)) (v_track_3 : (Nat → Int32)) (v_track_4 : (Nat → Int32)), K_11 l4 l5 v_town_houses v_town_front v_town_downFor v_town_kindOf v_town_plotOf v_town_row v_town_standsOn v_track_0 v_track_1 v_track_2 v_track_3 v_track_4 = some ρ → ∀ (H : Heap) (locs : List Loc) (ls : Array Slot), WD D A (kwX1_follow cI cZ cG q q_track q_town q_town_kindOf q_town_plotOf q_town_row q_town_standsOn q2 q2_kindOf q2_plotOf q2_row q2_standsOn q_track_0 q_track_1 q_track_2 q_track_3 q_track_4 v_town_houses v_town_front v_town_downFor w2_houses w2_front w2_downFor w2_kindOf v_town_kindOf w2_plotOf v_town_plotOf w2_row v_town_row w2_standsOn v_town_standsOn v_track_0 v_track_1 v_track_2 v_track_3 v_track_4) s.heap H locs → lv_has ls 7 [(0, .ref q), (1, .int a1), (2, .ref q2), (4, .int l4), (5, .int l5)] → W p l e R s m args below meth c H locs cells slots Q (F0 m 11 ls [])) : ∀ (n : Nat) (a : Int32 × Int32 × Int32 × Int32 × Int32 × Int32 × (Nat → Int32) × (Nat → Int32) × (Nat → Int32) × (Nat → Int32) × (Nat → Int32) × (Nat → Int32) × (Nat → Int32) × (Nat → Int32) × (Nat → Int32)), lfix (fun (K : Int32 × Int32 × Int32 × Int32 × Int32 × Int32 × (Nat → Int32) × (Nat → Int32) × (Nat → Int32) × (Nat → Int32) × (Nat → Int32) × (Nat → Int32) × (Nat → Int32) × (Nat → Int32) × (Nat → Int32) → Option (Int32 × Int32 × Int32 × (Nat → Int32) × (Nat → Int32) × (Nat → Int32) × (Nat → Int32) × (Nat → Int32) × (Nat → Int32) × (Nat → Int32) × (Nat → Int32) × (Nat → Int32))) (a : Int32 × Int32 × Int32 × Int32 × Int32 × Int32 × (Nat → Int32) × (Nat → Int32) × (Nat → Int32) × (Nat → Int32) × (Nat → Int32) × (Nat → Int32) × (Nat → Int32) × (Nat → Int32) × (Nat → Int32)) => fX1_follow_39 N w2_houses w2_front w2_downFor w2_kindOf w2_plotOf w2_row w2_standsOn a1 a3 K_11 (fun (l4 : Int32) (l5 : Int32) (l6 : Int32) (v_town_houses : Int32) (v_town_front : Int32) (v_town_downFor : Int32) (v_town_kindOf : (Nat → Int32)) (v_town_plotOf : (Nat → Int32)) (v_town_row : (Nat → Int32)) (v_town_standsOn : (Nat → Int32)) (v_track_0 : (Nat → Int32)) (v_track_1 : (Nat → Int32)) (v_track_2 : (Nat → Int32)) (v_track_3 : (Nat → Int32)) (v_track_4 : (Nat → Int32)) => K (l4, l5, l6, v_town_houses, v_town_front, v_town_downFor, v_town_kindOf, v_town_plotOf, v_town_row, v_town_standsOn, v_track_0, v_track_1, v_track_2, v_track_3, v_track_4)) a.1 a.2.1 a.2.2.1 a.2.2.2.1 a.2.2.2.2.1 a.2.2.2.2.2.1 a.2.2.2.2.2.2.1 a.2.2.2.2.2.2.2.1 a.2.2.2.2.2.2.2.2.1 a.2.2.2.2.2.2.2.2.2.1 a.2.2.2.2.2.2.2.2.2.2.1 a.2.2.2.2.2.2.2.2.2.2.2.1 a.2.2.2.2.2.2.2.2.2.2.2.2.1 a.2.2.2.2.2.2.2.2.2.2.2.2.2.1 a.2.2.2.2.2.2.2.2.2.2.2.2.2.2) n a = some ρ → (fun (l4 : Int32) (l5 : Int32) (l6 : Int32) (v_town_houses : Int32) (v_town_front : Int32) (v_town_downFor : Int32) (v_town_kindOf : (Nat → Int32)) (v_town_plotOf : (Nat → Int32)) (v_town_row : (Nat → Int32)) (v_town_standsOn : (Nat → Int32)) (v_track_0 : (Nat → Int32)) (v_track_1 : (Nat → Int32)) (v_track_2 : (Nat → Int32)) (v_track_3 : (Nat → Int32)) (v_track_4 : (Nat → Int32)) => ∀ (H : Heap) (locs : List Loc) (ls : Array Slot), WD D A (kwX1_follow cI cZ cG q q_track q_town q_town_kindOf q_town_plotOf q_town_row q_town_standsOn q2 q2_kindOf q2_plotOf q2_row q2_standsOn q_track_0 q_track_1 q_track_2 q_track_3 q_track_4 v_town_houses v_town_front v_town_downFor w2_houses w2_front w2_downFor w2_kindOf v_town_kindOf w2_plotOf v_town_plotOf w2_row v_town_row w2_standsOn v_town_standsOn v_track_0 v_track_1 v_track_2 v_track_3 v_track_4) s.heap H locs → lv_has ls 7 [(0, .ref q), (1, .int a1), (2, .ref q2), (4, .int l4), (5, .int l5), (6, .int l6)] → W p l e R s m args below meth c H locs cells slots Q (F0 m 39 ls [])) (a.1) (a.2.1) (a.2.2.1) (a.2.2.2.1) (a.2.2.2.2.1) (a.2.2.2.2.2.1) (a.2.2.2.2.2.2.1) (a.2.2.2.2.2.2.2.1) (a.2.2.2.2.2.2.2.2.1) (a.2.2.2.2.2.2.2.2.2.1) (a.2.2.2.2.2.2.2.2.2.2.1) (a.2.2.2.2.2.2.2.2.2.2.2.1) (a.2.2.2.2.2.2.2.2.2.2.2.2.1) (a.2.2.2.2.2.2.2.2.2.2.2.2.2.1) (a.2.2.2.2.2.2.2.2.2.2.2.2.2.2) := by
  have hx := X.1.1
  have hb := X.1.2.1
  refine lfix_W (fun K hK a h => ?_)
  obtain ⟨l4, l5, l6, v_town_houses, v_town_front, v_town_downFor, v_town_kindOf, v_town_plotOf, v_town_row, v_town_standsOn, v_track_0, v_track_1, v_track_2, v_track_3, v_track_4⟩ := a
  intro H locs ls hw hl
  have h : fX1_follow_39 N w2_houses w2_front w2_downFor w2_kindOf w2_plotOf w2_row w2_standsOn a1 a3 K_11 (fun (l4 : Int32) (l5 : Int32) (l6 : Int32) (v_town_houses : Int32) (v_town_front : Int32) (v_town_downFor : Int32) (v_town_kindOf : (Nat → Int32)) (v_town_plotOf : (Nat → Int32)) (v_town_row : (Nat → Int32)) (v_town_standsOn : (Nat → Int32)) (v_track_0 : (Nat → Int32)) (v_track_1 : (Nat → Int32)) (v_track_2 : (Nat → Int32)) (v_track_3 : (Nat → Int32)) (v_track_4 : (Nat → Int32)) => K (l4, l5, l6, v_town_houses, v_town_front, v_town_downFor, v_town_kindOf, v_town_plotOf, v_town_row, v_town_standsOn, v_track_0, v_track_1, v_track_2, v_track_3, v_track_4)) l4 l5 l6 v_town_houses v_town_front v_town_downFor v_town_kindOf v_town_plotOf v_town_row v_town_standsOn v_track_0 v_track_1 v_track_2 v_track_3 v_track_4 = some ρ := h
  have hK_39 : ∀ (l4 : Int32) (l5 : Int32) (l6 : Int32) (v_town_houses : Int32) (v_town_front : Int32) (v_town_downFor : Int32) (v_town_kindOf : (Nat → Int32)) (v_town_plotOf : (Nat → Int32)) (v_town_row : (Nat → Int32)) (v_town_standsOn : (Nat → Int32)) (v_track_0 : (Nat → Int32)) (v_track_1 : (Nat → Int32)) (v_track_2 : (Nat → Int32)) (v_track_3 : (Nat → Int32)) (v_track_4 : (Nat → Int32)), (fun (l4 : Int32) (l5 : Int32) (l6 : Int32) (v_town_houses : Int32) (v_town_front : Int32) (v_town_downFor : Int32) (v_town_kindOf : (Nat → Int32)) (v_town_plotOf : (Nat → Int32)) (v_town_row : (Nat → Int32)) (v_town_standsOn : (Nat → Int32)) (v_track_0 : (Nat → Int32)) (v_track_1 : (Nat → Int32)) (v_track_2 : (Nat → Int32)) (v_track_3 : (Nat → Int32)) (v_track_4 : (Nat → Int32)) => K (l4, l5, l6, v_town_houses, v_town_front, v_town_downFor, v_town_kindOf, v_town_plotOf, v_town_row, v_town_standsOn, v_track_0, v_track_1, v_track_2, v_track_3, v_track_4)) l4 l5 l6 v_town_houses v_town_front v_town_downFor v_town_kindOf v_town_plotOf v_town_row v_town_standsOn v_track_0 v_track_1 v_track_2 v_track_3 v_track_4 = some ρ → ∀ (H : Heap) (locs : List Loc) (ls : Array Slot), WD D A (kwX1_follow cI cZ cG q q_track q_town q_town_kindOf q_town_plotOf q_town_row q_town_standsOn q2 q2_kindOf q2_plotOf q2_row q2_standsOn q_track_0 q_track_1 q_track_2 q_track_3 q_track_4 v_town_houses v_town_front v_town_downFor w2_houses w2_front w2_downFor w2_kindOf v_town_kindOf w2_plotOf v_town_plotOf w2_row v_town_row w2_standsOn v_town_standsOn v_track_0 v_track_1 v_track_2 v_track_3 v_track_4) s.heap H locs → lv_has ls 7 [(0, .ref q), (1, .int a1), (2, .ref q2), (4, .int l4), (5, .int l5), (6, .int l6)] → W p l e R s m args below meth c H locs cells slots Q (F0 m 39 ls []) := fun l4 l5 l6 v_town_houses v_town_front v_town_downFor v_town_kindOf v_town_plotOf v_town_row v_town_standsOn v_track_0 v_track_1 v_track_2 v_track_3 v_track_4 h => hK (l4, l5, l6, v_town_houses, v_town_front, v_town_downFor, v_town_kindOf, v_town_plotOf, v_town_row, v_town_standsOn, v_track_0, v_track_1, v_track_2, v_track_3, v_track_4) h
  generalize (fun (l4 : Int32) (l5 : Int32) (l6 : Int32) (v_town_houses : Int32) (v_town_front : Int32) (v_town_downFor : Int32) (v_town_kindOf : (Nat → Int32)) (v_town_plotOf : (Nat → Int32)) (v_town_row : (Nat → Int32)) (v_town_standsOn : (Nat → Int32)) (v_track_0 : (Nat → Int32)) (v_track_1 : (Nat → Int32)) (v_track_2 : (Nat → Int32)) (v_track_3 : (Nat → Int32)) (v_track_4 : (Nat → Int32)) => K (l4, l5, l6, v_town_houses, v_town_front, v_town_downFor, v_town_kindOf, v_town_plotOf, v_town_row, v_town_standsOn, v_track_0, v_track_1, v_track_2, v_track_3, v_track_4)) = K_39 at h hK_39
  have hw : WD D A (kwX1_follow cI cZ cG q q_track q_town q_town_kindOf q_town_plotOf q_town_row q_town_standsOn q2 q2_kindOf q2_plotOf q2_row q2_standsOn q_track_0 q_track_1 q_track_2 q_track_3 q_track_4 v_town_houses v_town_front v_town_downFor w2_houses w2_front w2_downFor w2_kindOf v_town_kindOf w2_plotOf v_town_plotOf w2_row v_town_row w2_standsOn v_town_standsOn v_track_0 v_track_1 v_track_2 v_track_3 v_track_4) s.heap H locs := hw
  have hl : lv_has ls 7 [(0, .ref q), (1, .int a1), (2, .ref q2), (4, .int l4), (5, .int l5), (6, .int l6)] := hl
  unfold fX1_follow_39 at h
  refine lv_iload hx hb dX1_follow_39 (lv_at hl 5 rfl) ?_
  refine lv_iload hx hb dX1_follow_41 (lv_at hl 3 rfl) ?_
  refine lv_icmp_gt (tgt := 79) hx hb dX1_follow_43 (by decide) (fun c_43 => ?_) (fun c_43 => ?_)
  · have h := ift c_43 h
    refine lv_iinc (v := (l5 + (1 : Int32))) (lv' := [(5, .int (l5 + (1 : Int32))), (0, .ref q), (1, .int a1), (2, .ref q2), (4, .int l4), (6, .int l6)]) hx hb dX1_follow_79 hl (k := 4) rfl (congrArg (l5 + ·) (by decide)) (by decide) rfl (fun ls hl => ?_)
    refine lv_goto (tgt := 11) hx hb dX1_follow_82 (by decide) ?_
    exact hK_11 _ _ _ _ _ _ _ _ _ _ _ _ _ _ h _ _ _ hw (lv_sub hl [1, 2, 3, 4, 0] rfl)
  · have h := iff_ c_43 h
    refine lv_aload_n hx hb dX1_follow_46 rfl (lv_at hl 0 rfl) ?_
    refine kget (ci := 1) (v := .ref q_town) X hw iX1 0 rfl rfl 1 (by decide) tw_172 rfl dX1_follow_47 ?_
    obtain ⟨x_50, hc_50, h⟩ := obd h
    refine ksV_i (ws2 := (kwX1_follow cI cZ cG q q_track q_town q_town_kindOf q_town_plotOf q_town_row q_town_standsOn q2 q2_kindOf q2_plotOf q2_row q2_standsOn q_track_0 q_track_1 q_track_2 q_track_3 q_track_4 v_town_houses x_50.2.1 x_50.2.2.1 w2_houses w2_front w2_downFor w2_kindOf v_town_kindOf w2_plotOf x_50.2.2.2.2.1 w2_row x_50.2.2.2.1 w2_standsOn x_50.2.2.2.2.2 v_track_0 v_track_1 v_track_2 v_track_3 v_track_4)) (nW := 17) (ci := 6) (As := []) (rest := []) X hw rfl rfl rfl (cX6_turn_ct l D cI cZ cG q_town q_town_kindOf q_town_plotOf q_town_row q_town_standsOn v_town_houses v_town_front v_town_downFor v_town_row v_town_kindOf v_town_plotOf v_town_standsOn N x_50 hc_50 H.size) mX6_turn tw_175 (hrm.call (by decide) (by decide)) [1, 8, 4, 6, 10] rfl (by decide) rfl (by decide) rfl ⟨rfl, ⟨rfl, ⟨rfl, ⟨rfl, ⟨rfl, ⟨rfl, ⟨rfl, ⟨rfl, ⟨rfl, ⟨rfl, ⟨rfl, ⟨rfl, trivial⟩⟩⟩⟩⟩⟩⟩⟩⟩⟩⟩⟩ rfl hl.1 rfl (Nat.le_of_ble_eq_true rfl) dX1_follow_50 ⟨hrm.2.2.1, hrm.2.2.2⟩ (fun H locs hw => ?_)
    refine lv_pop hx hb dX1_follow_53 rfl ?_
    refine lv_aload_n hx hb dX1_follow_54 rfl (lv_at hl 0 rfl) ?_
    refine kget (ci := 1) (v := .ref q_track) X hw iX1 0 rfl rfl 0 (by decide) tw_176 rfl dX1_follow_55 ?_
    refine lv_iload hx hb dX1_follow_58 (lv_at hl 4 rfl) ?_
    obtain ⟨g_60, h⟩ := gd h
    by_cases c_60_0 : l5 = (0 : Int32)
    · have h := ift c_60_0 h
      refine kaald (v := .ref q_track_0) X hw 11 rfl g_60 (by rw [c_60_0]; rfl) dX1_follow_60 ?_
      refine lv_iload hx hb dX1_follow_61 (lv_at hl 5 rfl) ?_
      refine lv_aload_n hx hb dX1_follow_63 rfl (lv_at hl 0 rfl) ?_
      refine kget (ci := 1) (v := .ref q_town) X hw iX1 0 rfl rfl 1 (by decide) tw_172 rfl dX1_follow_64 ?_
      refine kget (ci := 6) (v := .ref q_town_plotOf) X hw iX6 1 rfl rfl 1 (by decide) tw_177 rfl dX1_follow_67 ?_
      refine lv_iload_n hx hb dX1_follow_70 rfl (lv_at hl 1 rfl) ?_
      obtain ⟨g_71, h⟩ := gd h
      refine kiald X hw 6 rfl rfl g_71 dX1_follow_71 ?_
      obtain ⟨g_72, h⟩ := gd h
      refine kiast X hw 12 rfl rfl g_72 dX1_follow_72 (fun H locs hw => ?_)
      have hw : WD D A (kwX1_follow cI cZ cG q q_track q_town q_town_kindOf q_town_plotOf q_town_row q_town_standsOn q2 q2_kindOf q2_plotOf q2_row q2_standsOn q_track_0 q_track_1 q_track_2 q_track_3 q_track_4 v_town_houses x_50.2.1 x_50.2.2.1 w2_houses w2_front w2_downFor w2_kindOf v_town_kindOf w2_plotOf x_50.2.2.2.2.1 w2_row x_50.2.2.2.1 w2_standsOn x_50.2.2.2.2.2 (upd v_track_0 (l6).toNatClampNeg (x_50.2.2.2.2.1 (a1).toNatClampNeg)) v_track_1 v_track_2 v_track_3 v_track_4) s.heap H locs := hw
      refine lv_iinc (v := (l6 + (1 : Int32))) (lv' := [(6, .int (l6 + (1 : Int32))), (0, .ref q), (1, .int a1), (2, .ref q2), (4, .int l4), (5, .int l5)]) hx hb dX1_follow_73 hl (k := 5) rfl (congrArg (l6 + ·) (by decide)) (by decide) rfl (fun ls hl => ?_)
      refine lv_goto (tgt := 39) hx hb dX1_follow_76 (by decide) ?_
      exact hK_39 _ _ _ _ _ _ _ _ _ _ _ _ _ _ _ h _ _ _ hw (lv_sub hl [1, 2, 3, 4, 5, 0] rfl)
    have h := iff_ c_60_0 h
    by_cases c_60_1 : l5 = (1 : Int32)
    · have h := ift c_60_1 h
      refine kaald (v := .ref q_track_1) X hw 11 rfl g_60 (by rw [c_60_1]; rfl) dX1_follow_60 ?_
      refine lv_iload hx hb dX1_follow_61 (lv_at hl 5 rfl) ?_
      refine lv_aload_n hx hb dX1_follow_63 rfl (lv_at hl 0 rfl) ?_
      refine kget (ci := 1) (v := .ref q_town) X hw iX1 0 rfl rfl 1 (by decide) tw_172 rfl dX1_follow_64 ?_
      refine kget (ci := 6) (v := .ref q_town_plotOf) X hw iX6 1 rfl rfl 1 (by decide) tw_177 rfl dX1_follow_67 ?_
      refine lv_iload_n hx hb dX1_follow_70 rfl (lv_at hl 1 rfl) ?_
      obtain ⟨g_71, h⟩ := gd h
      refine kiald X hw 6 rfl rfl g_71 dX1_follow_71 ?_
      obtain ⟨g_72, h⟩ := gd h
      refine kiast X hw 13 rfl rfl g_72 dX1_follow_72 (fun H locs hw => ?_)
      have hw : WD D A (kwX1_follow cI cZ cG q q_track q_town q_town_kindOf q_town_plotOf q_town_row q_town_standsOn q2 q2_kindOf q2_plotOf q2_row q2_standsOn q_track_0 q_track_1 q_track_2 q_track_3 q_track_4 v_town_houses x_50.2.1 x_50.2.2.1 w2_houses w2_front w2_downFor w2_kindOf v_town_kindOf w2_plotOf x_50.2.2.2.2.1 w2_row x_50.2.2.2.1 w2_standsOn x_50.2.2.2.2.2 v_track_0 (upd v_track_1 (l6).toNatClampNeg (x_50.2.2.2.2.1 (a1).toNatClampNeg)) v_track_2 v_track_3 v_track_4) s.heap H locs := hw
      refine lv_iinc (v := (l6 + (1 : Int32))) (lv' := [(6, .int (l6 + (1 : Int32))), (0, .ref q), (1, .int a1), (2, .ref q2), (4, .int l4), (5, .int l5)]) hx hb dX1_follow_73 hl (k := 5) rfl (congrArg (l6 + ·) (by decide)) (by decide) rfl (fun ls hl => ?_)
      refine lv_goto (tgt := 39) hx hb dX1_follow_76 (by decide) ?_
      exact hK_39 _ _ _ _ _ _ _ _ _ _ _ _ _ _ _ h _ _ _ hw (lv_sub hl [1, 2, 3, 4, 5, 0] rfl)
    have h := iff_ c_60_1 h
    by_cases c_60_2 : l5 = (2 : Int32)
    · have h := ift c_60_2 h
      refine kaald (v := .ref q_track_2) X hw 11 rfl g_60 (by rw [c_60_2]; rfl) dX1_follow_60 ?_
      refine lv_iload hx hb dX1_follow_61 (lv_at hl 5 rfl) ?_
      refine lv_aload_n hx hb dX1_follow_63 rfl (lv_at hl 0 rfl) ?_
      refine kget (ci := 1) (v := .ref q_town) X hw iX1 0 rfl rfl 1 (by decide) tw_172 rfl dX1_follow_64 ?_
      refine kget (ci := 6) (v := .ref q_town_plotOf) X hw iX6 1 rfl rfl 1 (by decide) tw_177 rfl dX1_follow_67 ?_
      refine lv_iload_n hx hb dX1_follow_70 rfl (lv_at hl 1 rfl) ?_
      obtain ⟨g_71, h⟩ := gd h
      refine kiald X hw 6 rfl rfl g_71 dX1_follow_71 ?_
      obtain ⟨g_72, h⟩ := gd h
      refine kiast X hw 14 rfl rfl g_72 dX1_follow_72 (fun H locs hw => ?_)
      have hw : WD D A (kwX1_follow cI cZ cG q q_track q_town q_town_kindOf q_town_plotOf q_town_row q_town_standsOn q2 q2_kindOf q2_plotOf q2_row q2_standsOn q_track_0 q_track_1 q_track_2 q_track_3 q_track_4 v_town_houses x_50.2.1 x_50.2.2.1 w2_houses w2_front w2_downFor w2_kindOf v_town_kindOf w2_plotOf x_50.2.2.2.2.1 w2_row x_50.2.2.2.1 w2_standsOn x_50.2.2.2.2.2 v_track_0 v_track_1 (upd v_track_2 (l6).toNatClampNeg (x_50.2.2.2.2.1 (a1).toNatClampNeg)) v_track_3 v_track_4) s.heap H locs := hw
      refine lv_iinc (v := (l6 + (1 : Int32))) (lv' := [(6, .int (l6 + (1 : Int32))), (0, .ref q), (1, .int a1), (2, .ref q2), (4, .int l4), (5, .int l5)]) hx hb dX1_follow_73 hl (k := 5) rfl (congrArg (l6 + ·) (by decide)) (by decide) rfl (fun ls hl => ?_)
      refine lv_goto (tgt := 39) hx hb dX1_follow_76 (by decide) ?_
      exact hK_39 _ _ _ _ _ _ _ _ _ _ _ _ _ _ _ h _ _ _ hw (lv_sub hl [1, 2, 3, 4, 5, 0] rfl)
    have h := iff_ c_60_2 h
    by_cases c_60_3 : l5 = (3 : Int32)
    · have h := ift c_60_3 h
      refine kaald (v := .ref q_track_3) X hw 11 rfl g_60 (by rw [c_60_3]; rfl) dX1_follow_60 ?_
      refine lv_iload hx hb dX1_follow_61 (lv_at hl 5 rfl) ?_
      refine lv_aload_n hx hb dX1_follow_63 rfl (lv_at hl 0 rfl) ?_
      refine kget (ci := 1) (v := .ref q_town) X hw iX1 0 rfl rfl 1 (by decide) tw_172 rfl dX1_follow_64 ?_
      refine kget (ci := 6) (v := .ref q_town_plotOf) X hw iX6 1 rfl rfl 1 (by decide) tw_177 rfl dX1_follow_67 ?_
      refine lv_iload_n hx hb dX1_follow_70 rfl (lv_at hl 1 rfl) ?_
      obtain ⟨g_71, h⟩ := gd h
      refine kiald X hw 6 rfl rfl g_71 dX1_follow_71 ?_
      obtain ⟨g_72, h⟩ := gd h
      refine kiast X hw 15 rfl rfl g_72 dX1_follow_72 (fun H locs hw => ?_)
      have hw : WD D A (kwX1_follow cI cZ cG q q_track q_town q_town_kindOf q_town_plotOf q_town_row q_town_standsOn q2 q2_kindOf q2_plotOf q2_row q2_standsOn q_track_0 q_track_1 q_track_2 q_track_3 q_track_4 v_town_houses x_50.2.1 x_50.2.2.1 w2_houses w2_front w2_downFor w2_kindOf v_town_kindOf w2_plotOf x_50.2.2.2.2.1 w2_row x_50.2.2.2.1 w2_standsOn x_50.2.2.2.2.2 v_track_0 v_track_1 v_track_2 (upd v_track_3 (l6).toNatClampNeg (x_50.2.2.2.2.1 (a1).toNatClampNeg)) v_track_4) s.heap H locs := hw
      refine lv_iinc (v := (l6 + (1 : Int32))) (lv' := [(6, .int (l6 + (1 : Int32))), (0, .ref q), (1, .int a1), (2, .ref q2), (4, .int l4), (5, .int l5)]) hx hb dX1_follow_73 hl (k := 5) rfl (congrArg (l6 + ·) (by decide)) (by decide) rfl (fun ls hl => ?_)
      refine lv_goto (tgt := 39) hx hb dX1_follow_76 (by decide) ?_
      exact hK_39 _ _ _ _ _ _ _ _ _ _ _ _ _ _ _ h _ _ _ hw (lv_sub hl [1, 2, 3, 4, 5, 0] rfl)
    have h := iff_ c_60_3 h
    by_cases c_60_4 : l5 = (4 : Int32)
    · have h := ift c_60_4 h
      refine kaald (v := .ref q_track_4) X hw 11 rfl g_60 (by rw [c_60_4]; rfl) dX1_follow_60 ?_
      refine lv_iload hx hb dX1_follow_61 (lv_at hl 5 rfl) ?_
      refine lv_aload_n hx hb dX1_follow_63 rfl (lv_at hl 0 rfl) ?_
      refine kget (ci := 1) (v := .ref q_town) X hw iX1 0 rfl rfl 1 (by decide) tw_172 rfl dX1_follow_64 ?_
      refine kget (ci := 6) (v := .ref q_town_plotOf) X hw iX6 1 rfl rfl 1 (by decide) tw_177 rfl dX1_follow_67 ?_
      refine lv_iload_n hx hb dX1_follow_70 rfl (lv_at hl 1 rfl) ?_
      obtain ⟨g_71, h⟩ := gd h
      refine kiald X hw 6 rfl rfl g_71 dX1_follow_71 ?_
      obtain ⟨g_72, h⟩ := gd h
      refine kiast X hw 16 rfl rfl g_72 dX1_follow_72 (fun H locs hw => ?_)
      have hw : WD D A (kwX1_follow cI cZ cG q q_track q_town q_town_kindOf q_town_plotOf q_town_row q_town_standsOn q2 q2_kindOf q2_plotOf q2_row q2_standsOn q_track_0 q_track_1 q_track_2 q_track_3 q_track_4 v_town_houses x_50.2.1 x_50.2.2.1 w2_houses w2_front w2_downFor w2_kindOf v_town_kindOf w2_plotOf x_50.2.2.2.2.1 w2_row x_50.2.2.2.1 w2_standsOn x_50.2.2.2.2.2 v_track_0 v_track_1 v_track_2 v_track_3 (upd v_track_4 (l6).toNatClampNeg (x_50.2.2.2.2.1 (a1).toNatClampNeg))) s.heap H locs := hw
      refine lv_iinc (v := (l6 + (1 : Int32))) (lv' := [(6, .int (l6 + (1 : Int32))), (0, .ref q), (1, .int a1), (2, .ref q2), (4, .int l4), (5, .int l5)]) hx hb dX1_follow_73 hl (k := 5) rfl (congrArg (l6 + ·) (by decide)) (by decide) rfl (fun ls hl => ?_)
      refine lv_goto (tgt := 39) hx hb dX1_follow_76 (by decide) ?_
      exact hK_39 _ _ _ _ _ _ _ _ _ _ _ _ _ _ _ h _ _ _ hw (lv_sub hl [1, 2, 3, 4, 5, 0] rfl)
    have h := iff_ c_60_4 h
    exact nn h
set_option maxHeartbeats 4000000 in
set_option maxRecDepth 100000 in
theorem wX1_follow_11 {p : Program} {l : Launch} {e : Env} {R : Room} {s : State} {m : MethodId} {args : Array Value} {below : List Frame} {meth : Method} {c : Code} {cells slots : Nat} {Q : State → Prop} {D : va_G} {A : Nat → Prop} {cI cZ cG : ClassId} {q q_track q_town q_town_kindOf q_town_plotOf q_town_row q_town_standsOn q2 q2_kindOf q2_plotOf q2_row q2_standsOn q_track_0 q_track_1 q_track_2 q_track_3 q_track_4 : Nat} {w2_houses : Int32} {w2_front : Int32} {w2_downFor : Int32} {w2_kindOf : (Nat → Int32)} {w2_plotOf : (Nat → Int32)} {w2_row : (Nat → Int32)} {w2_standsOn : (Nat → Int32)} {a1 : Int32} {a3 : Int32} {N : Nat} {ρ : Int32 × Int32 × Int32 × (Nat → Int32) × (Nat → Int32) × (Nat → Int32) × (Nat → Int32) × (Nat → Int32) × (Nat → Int32) × (Nat → Int32) × (Nat → Int32) × (Nat → Int32)} (X : CX p s m args c cX1_follow 7 RX1 D (TY cI cZ cG) A) (hrm : RM R 3 67 cells slots) (ret : ∀ (pc : Nat) (H : Heap) (locs : List Loc) (ls : Array Slot), decode cX1_follow pc = .ok (.return_, 1) → WD D A (kwX1_follow cI cZ cG q q_track q_town q_town_kindOf q_town_plotOf q_town_row q_town_standsOn q2 q2_kindOf q2_plotOf q2_row q2_standsOn q_track_0 q_track_1 q_track_2 q_track_3 q_track_4 (ρ.1) (ρ.2.1) (ρ.2.2.1) w2_houses w2_front w2_downFor w2_kindOf (ρ.2.2.2.1) w2_plotOf (ρ.2.2.2.2.1) w2_row (ρ.2.2.2.2.2.1) w2_standsOn (ρ.2.2.2.2.2.2.1) (ρ.2.2.2.2.2.2.2.1) (ρ.2.2.2.2.2.2.2.2.1) (ρ.2.2.2.2.2.2.2.2.2.1) (ρ.2.2.2.2.2.2.2.2.2.2.1) (ρ.2.2.2.2.2.2.2.2.2.2.2)) s.heap H locs → W p l e R s m args below meth c H locs cells slots Q (F0 m pc ls []))  : ∀ (n : Nat) (a : Int32 × Int32 × Int32 × Int32 × Int32 × (Nat → Int32) × (Nat → Int32) × (Nat → Int32) × (Nat → Int32) × (Nat → Int32) × (Nat → Int32) × (Nat → Int32) × (Nat → Int32) × (Nat → Int32)), lfix (fun (K : Int32 × Int32 × Int32 × Int32 × Int32 × (Nat → Int32) × (Nat → Int32) × (Nat → Int32) × (Nat → Int32) × (Nat → Int32) × (Nat → Int32) × (Nat → Int32) × (Nat → Int32) × (Nat → Int32) → Option (Int32 × Int32 × Int32 × (Nat → Int32) × (Nat → Int32) × (Nat → Int32) × (Nat → Int32) × (Nat → Int32) × (Nat → Int32) × (Nat → Int32) × (Nat → Int32) × (Nat → Int32))) (a : Int32 × Int32 × Int32 × Int32 × Int32 × (Nat → Int32) × (Nat → Int32) × (Nat → Int32) × (Nat → Int32) × (Nat → Int32) × (Nat → Int32) × (Nat → Int32) × (Nat → Int32) × (Nat → Int32)) => fX1_follow_11 N w2_houses w2_front w2_downFor w2_kindOf w2_plotOf w2_row w2_standsOn a1 a3 (fun (l4 : Int32) (l5 : Int32) (v_town_houses : Int32) (v_town_front : Int32) (v_town_downFor : Int32) (v_town_kindOf : (Nat → Int32)) (v_town_plotOf : (Nat → Int32)) (v_town_row : (Nat → Int32)) (v_town_standsOn : (Nat → Int32)) (v_track_0 : (Nat → Int32)) (v_track_1 : (Nat → Int32)) (v_track_2 : (Nat → Int32)) (v_track_3 : (Nat → Int32)) (v_track_4 : (Nat → Int32)) => K (l4, l5, v_town_houses, v_town_front, v_town_downFor, v_town_kindOf, v_town_plotOf, v_town_row, v_town_standsOn, v_track_0, v_track_1, v_track_2, v_track_3, v_track_4)) a.1 a.2.1 a.2.2.1 a.2.2.2.1 a.2.2.2.2.1 a.2.2.2.2.2.1 a.2.2.2.2.2.2.1 a.2.2.2.2.2.2.2.1 a.2.2.2.2.2.2.2.2.1 a.2.2.2.2.2.2.2.2.2.1 a.2.2.2.2.2.2.2.2.2.2.1 a.2.2.2.2.2.2.2.2.2.2.2.1 a.2.2.2.2.2.2.2.2.2.2.2.2.1 a.2.2.2.2.2.2.2.2.2.2.2.2.2) n a = some ρ → (fun (l4 : Int32) (l5 : Int32) (v_town_houses : Int32) (v_town_front : Int32) (v_town_downFor : Int32) (v_town_kindOf : (Nat → Int32)) (v_town_plotOf : (Nat → Int32)) (v_town_row : (Nat → Int32)) (v_town_standsOn : (Nat → Int32)) (v_track_0 : (Nat → Int32)) (v_track_1 : (Nat → Int32)) (v_track_2 : (Nat → Int32)) (v_track_3 : (Nat → Int32)) (v_track_4 : (Nat → Int32)) => ∀ (H : Heap) (locs : List Loc) (ls : Array Slot), WD D A (kwX1_follow cI cZ cG q q_track q_town q_town_kindOf q_town_plotOf q_town_row q_town_standsOn q2 q2_kindOf q2_plotOf q2_row q2_standsOn q_track_0 q_track_1 q_track_2 q_track_3 q_track_4 v_town_houses v_town_front v_town_downFor w2_houses w2_front w2_downFor w2_kindOf v_town_kindOf w2_plotOf v_town_plotOf w2_row v_town_row w2_standsOn v_town_standsOn v_track_0 v_track_1 v_track_2 v_track_3 v_track_4) s.heap H locs → lv_has ls 7 [(0, .ref q), (1, .int a1), (2, .ref q2), (4, .int l4), (5, .int l5)] → W p l e R s m args below meth c H locs cells slots Q (F0 m 11 ls [])) (a.1) (a.2.1) (a.2.2.1) (a.2.2.2.1) (a.2.2.2.2.1) (a.2.2.2.2.2.1) (a.2.2.2.2.2.2.1) (a.2.2.2.2.2.2.2.1) (a.2.2.2.2.2.2.2.2.1) (a.2.2.2.2.2.2.2.2.2.1) (a.2.2.2.2.2.2.2.2.2.2.1) (a.2.2.2.2.2.2.2.2.2.2.2.1) (a.2.2.2.2.2.2.2.2.2.2.2.2.1) (a.2.2.2.2.2.2.2.2.2.2.2.2.2) := by
  have hx := X.1.1
  have hb := X.1.2.1
  refine lfix_W (fun K hK a h => ?_)
  obtain ⟨l4, l5, v_town_houses, v_town_front, v_town_downFor, v_town_kindOf, v_town_plotOf, v_town_row, v_town_standsOn, v_track_0, v_track_1, v_track_2, v_track_3, v_track_4⟩ := a
  intro H locs ls hw hl
  have h : fX1_follow_11 N w2_houses w2_front w2_downFor w2_kindOf w2_plotOf w2_row w2_standsOn a1 a3 (fun (l4 : Int32) (l5 : Int32) (v_town_houses : Int32) (v_town_front : Int32) (v_town_downFor : Int32) (v_town_kindOf : (Nat → Int32)) (v_town_plotOf : (Nat → Int32)) (v_town_row : (Nat → Int32)) (v_town_standsOn : (Nat → Int32)) (v_track_0 : (Nat → Int32)) (v_track_1 : (Nat → Int32)) (v_track_2 : (Nat → Int32)) (v_track_3 : (Nat → Int32)) (v_track_4 : (Nat → Int32)) => K (l4, l5, v_town_houses, v_town_front, v_town_downFor, v_town_kindOf, v_town_plotOf, v_town_row, v_town_standsOn, v_track_0, v_track_1, v_track_2, v_track_3, v_track_4)) l4 l5 v_town_houses v_town_front v_town_downFor v_town_kindOf v_town_plotOf v_town_row v_town_standsOn v_track_0 v_track_1 v_track_2 v_track_3 v_track_4 = some ρ := h
  have hK_11 : ∀ (l4 : Int32) (l5 : Int32) (v_town_houses : Int32) (v_town_front : Int32) (v_town_downFor : Int32) (v_town_kindOf : (Nat → Int32)) (v_town_plotOf : (Nat → Int32)) (v_town_row : (Nat → Int32)) (v_town_standsOn : (Nat → Int32)) (v_track_0 : (Nat → Int32)) (v_track_1 : (Nat → Int32)) (v_track_2 : (Nat → Int32)) (v_track_3 : (Nat → Int32)) (v_track_4 : (Nat → Int32)), (fun (l4 : Int32) (l5 : Int32) (v_town_houses : Int32) (v_town_front : Int32) (v_town_downFor : Int32) (v_town_kindOf : (Nat → Int32)) (v_town_plotOf : (Nat → Int32)) (v_town_row : (Nat → Int32)) (v_town_standsOn : (Nat → Int32)) (v_track_0 : (Nat → Int32)) (v_track_1 : (Nat → Int32)) (v_track_2 : (Nat → Int32)) (v_track_3 : (Nat → Int32)) (v_track_4 : (Nat → Int32)) => K (l4, l5, v_town_houses, v_town_front, v_town_downFor, v_town_kindOf, v_town_plotOf, v_town_row, v_town_standsOn, v_track_0, v_track_1, v_track_2, v_track_3, v_track_4)) l4 l5 v_town_houses v_town_front v_town_downFor v_town_kindOf v_town_plotOf v_town_row v_town_standsOn v_track_0 v_track_1 v_track_2 v_track_3 v_track_4 = some ρ → ∀ (H : Heap) (locs : List Loc) (ls : Array Slot), WD D A (kwX1_follow cI cZ cG q q_track q_town q_town_kindOf q_town_plotOf q_town_row q_town_standsOn q2 q2_kindOf q2_plotOf q2_row q2_standsOn q_track_0 q_track_1 q_track_2 q_track_3 q_track_4 v_town_houses v_town_front v_town_downFor w2_houses w2_front w2_downFor w2_kindOf v_town_kindOf w2_plotOf v_town_plotOf w2_row v_town_row w2_standsOn v_town_standsOn v_track_0 v_track_1 v_track_2 v_track_3 v_track_4) s.heap H locs → lv_has ls 7 [(0, .ref q), (1, .int a1), (2, .ref q2), (4, .int l4), (5, .int l5)] → W p l e R s m args below meth c H locs cells slots Q (F0 m 11 ls []) := fun l4 l5 v_town_houses v_town_front v_town_downFor v_town_kindOf v_town_plotOf v_town_row v_town_standsOn v_track_0 v_track_1 v_track_2 v_track_3 v_track_4 h => hK (l4, l5, v_town_houses, v_town_front, v_town_downFor, v_town_kindOf, v_town_plotOf, v_town_row, v_town_standsOn, v_track_0, v_track_1, v_track_2, v_track_3, v_track_4) h
  generalize (fun (l4 : Int32) (l5 : Int32) (v_town_houses : Int32) (v_town_front : Int32) (v_town_downFor : Int32) (v_town_kindOf : (Nat → Int32)) (v_town_plotOf : (Nat → Int32)) (v_town_row : (Nat → Int32)) (v_town_standsOn : (Nat → Int32)) (v_track_0 : (Nat → Int32)) (v_track_1 : (Nat → Int32)) (v_track_2 : (Nat → Int32)) (v_track_3 : (Nat → Int32)) (v_track_4 : (Nat → Int32)) => K (l4, l5, v_town_houses, v_town_front, v_town_downFor, v_town_kindOf, v_town_plotOf, v_town_row, v_town_standsOn, v_track_0, v_track_1, v_track_2, v_track_3, v_track_4)) = K_11 at h hK_11
  have hw : WD D A (kwX1_follow cI cZ cG q q_track q_town q_town_kindOf q_town_plotOf q_town_row q_town_standsOn q2 q2_kindOf q2_plotOf q2_row q2_standsOn q_track_0 q_track_1 q_track_2 q_track_3 q_track_4 v_town_houses v_town_front v_town_downFor w2_houses w2_front w2_downFor w2_kindOf v_town_kindOf w2_plotOf v_town_plotOf w2_row v_town_row w2_standsOn v_town_standsOn v_track_0 v_track_1 v_track_2 v_track_3 v_track_4) s.heap H locs := hw
  have hl : lv_has ls 7 [(0, .ref q), (1, .int a1), (2, .ref q2), (4, .int l4), (5, .int l5)] := hl
  unfold fX1_follow_11 at h
  refine lv_iload hx hb dX1_follow_11 (lv_at hl 4 rfl) ?_
  refine lv_iconst (v := (5 : Int32)) hx hb dX1_follow_13 (by decide) ?_
  refine lv_icmp_ge (tgt := 85) hx hb dX1_follow_14 (by decide) (fun c_14 => ?_) (fun c_14 => ?_)
  · have h := ift c_14 h
    obtain rfl := Option.some.inj h
    exact ret _ _ _ _ dX1_follow_85 hw
  · have h := iff_ c_14 h
    refine lv_aload_n hx hb dX1_follow_17 rfl (lv_at hl 0 rfl) ?_
    refine kget (ci := 1) (v := .ref q_town) X hw iX1 0 rfl rfl 1 (by decide) tw_172 rfl dX1_follow_18 ?_
    refine lv_aload_n hx hb dX1_follow_21 rfl (lv_at hl 2 rfl) ?_
    obtain ⟨x_22, hc_22, h⟩ := obd h
    refine ksV_v (ws2 := (kwX1_follow cI cZ cG q q_track q_town q_town_kindOf q_town_plotOf q_town_row q_town_standsOn q2 q2_kindOf q2_plotOf q2_row q2_standsOn q_track_0 q_track_1 q_track_2 q_track_3 q_track_4 x_22.1 x_22.2.1 x_22.2.2.1 w2_houses w2_front w2_downFor w2_kindOf x_22.2.2.2.1 w2_plotOf x_22.2.2.2.2.1 w2_row x_22.2.2.2.2.2.1 w2_standsOn x_22.2.2.2.2.2.2 v_track_0 v_track_1 v_track_2 v_track_3 v_track_4)) (nW := 17) (ci := 6) (As := [.ref q2]) (rest := []) X hw rfl rfl rfl (cX6_copyFrom_ct l D cI cZ cG q_town q_town_kindOf q_town_plotOf q_town_row q_town_standsOn q2 q2_kindOf q2_plotOf q2_row q2_standsOn v_town_houses v_town_front v_town_downFor w2_houses w2_front w2_downFor w2_kindOf v_town_kindOf w2_plotOf v_town_plotOf w2_row v_town_row w2_standsOn v_town_standsOn N x_22 hc_22 H.size) mX6_copyFrom tw_173 (hrm.call (by decide) (by decide)) [1, 2, 3, 4, 5, 6, 7, 8, 9, 10] rfl (by decide) rfl (by decide) rfl ⟨rfl, ⟨rfl, ⟨rfl, ⟨rfl, ⟨rfl, ⟨rfl, ⟨rfl, trivial⟩⟩⟩⟩⟩⟩⟩ rfl hl.1 rfl (Nat.le_of_ble_eq_true rfl) dX1_follow_22 ⟨hrm.2.2.1, hrm.2.2.2⟩ (fun H locs hw => ?_)
    refine lv_aload_n hx hb dX1_follow_25 rfl (lv_at hl 0 rfl) ?_
    refine kget (ci := 1) (v := .ref q_town) X hw iX1 0 rfl rfl 1 (by decide) tw_172 rfl dX1_follow_26 ?_
    refine kget (ci := 6) (v := .ref q_town_kindOf) X hw iX6 1 rfl rfl 0 (by decide) tw_174 rfl dX1_follow_29 ?_
    refine lv_iload_n hx hb dX1_follow_32 rfl (lv_at hl 1 rfl) ?_
    refine lv_iload hx hb dX1_follow_33 (lv_at hl 4 rfl) ?_
    obtain ⟨g_35, h⟩ := gd h
    refine kiast X hw 4 rfl rfl g_35 dX1_follow_35 (fun H locs hw => ?_)
    have hw : WD D A (kwX1_follow cI cZ cG q q_track q_town q_town_kindOf q_town_plotOf q_town_row q_town_standsOn q2 q2_kindOf q2_plotOf q2_row q2_standsOn q_track_0 q_track_1 q_track_2 q_track_3 q_track_4 x_22.1 x_22.2.1 x_22.2.2.1 w2_houses w2_front w2_downFor w2_kindOf (upd x_22.2.2.2.1 (a1).toNatClampNeg l5) w2_plotOf x_22.2.2.2.2.1 w2_row x_22.2.2.2.2.2.1 w2_standsOn x_22.2.2.2.2.2.2 v_track_0 v_track_1 v_track_2 v_track_3 v_track_4) s.heap H locs := hw
    refine lv_iconst (v := (1 : Int32)) hx hb dX1_follow_36 (by decide) ?_
    refine lv_istore (lv' := [(6, .int (1 : Int32)), (0, .ref q), (1, .int a1), (2, .ref q2), (4, .int l4), (5, .int l5)]) hx hb dX1_follow_37 hl (by decide) rfl (fun ls hl => ?_)
    exact wX1_follow_39 X hrm ret hK_11 _ _ h _ _ _ hw (lv_sub hl [1, 2, 3, 4, 5, 0] rfl)
set_option maxHeartbeats 4000000 in
set_option maxRecDepth 100000 in
theorem wX1_follow {p : Program} {l : Launch} {e : Env} {R : Room} {s : State} {m : MethodId} {args : Array Value} {below : List Frame} {meth : Method} {c : Code} {cells slots : Nat} {Q : State → Prop} {D : va_G} {A : Nat → Prop} {cI cZ cG : ClassId} {q q_track q_town q_town_kindOf q_town_plotOf q_town_row q_town_standsOn q2 q2_kindOf q2_plotOf q2_row q2_standsOn q_track_0 q_track_1 q_track_2 q_track_3 q_track_4 : Nat} {v_town_houses : Int32} {v_town_front : Int32} {v_town_downFor : Int32} {w2_houses : Int32} {w2_front : Int32} {w2_downFor : Int32} {w2_kindOf : (Nat → Int32)} {v_town_kindOf : (Nat → Int32)} {w2_plotOf : (Nat → Int32)} {v_town_plotOf : (Nat → Int32)} {w2_row : (Nat → Int32)} {v_town_row : (Nat → Int32)} {w2_standsOn : (Nat → Int32)} {v_town_standsOn : (Nat → Int32)} {v_track_0 : (Nat → Int32)} {v_track_1 : (Nat → Int32)} {v_track_2 : (Nat → Int32)} {v_track_3 : (Nat → Int32)} {v_track_4 : (Nat → Int32)} {a1 : Int32} {a3 : Int32} {N : Nat} {ρ : Int32 × Int32 × Int32 × (Nat → Int32) × (Nat → Int32) × (Nat → Int32) × (Nat → Int32) × (Nat → Int32) × (Nat → Int32) × (Nat → Int32) × (Nat → Int32) × (Nat → Int32)} (X : CX p s m args c cX1_follow 7 RX1 D (TY cI cZ cG) A) (hrm : RM R 3 67 cells slots) (ret : ∀ (pc : Nat) (H : Heap) (locs : List Loc) (ls : Array Slot), decode cX1_follow pc = .ok (.return_, 1) → WD D A (kwX1_follow cI cZ cG q q_track q_town q_town_kindOf q_town_plotOf q_town_row q_town_standsOn q2 q2_kindOf q2_plotOf q2_row q2_standsOn q_track_0 q_track_1 q_track_2 q_track_3 q_track_4 (ρ.1) (ρ.2.1) (ρ.2.2.1) w2_houses w2_front w2_downFor w2_kindOf (ρ.2.2.2.1) w2_plotOf (ρ.2.2.2.2.1) w2_row (ρ.2.2.2.2.2.1) w2_standsOn (ρ.2.2.2.2.2.2.1) (ρ.2.2.2.2.2.2.2.1) (ρ.2.2.2.2.2.2.2.2.1) (ρ.2.2.2.2.2.2.2.2.2.1) (ρ.2.2.2.2.2.2.2.2.2.2.1) (ρ.2.2.2.2.2.2.2.2.2.2.2)) s.heap H locs → W p l e R s m args below meth c H locs cells slots Q (F0 m pc ls [])) (h : fX1_follow N w2_houses w2_front w2_downFor w2_kindOf w2_plotOf w2_row w2_standsOn a1 a3 v_town_houses v_town_front v_town_downFor v_town_kindOf v_town_plotOf v_town_row v_town_standsOn v_track_0 v_track_1 v_track_2 v_track_3 v_track_4  = some ρ) (H : Heap) (locs : List Loc) (ls : Array Slot) (hw : WD D A (kwX1_follow cI cZ cG q q_track q_town q_town_kindOf q_town_plotOf q_town_row q_town_standsOn q2 q2_kindOf q2_plotOf q2_row q2_standsOn q_track_0 q_track_1 q_track_2 q_track_3 q_track_4 v_town_houses v_town_front v_town_downFor w2_houses w2_front w2_downFor w2_kindOf v_town_kindOf w2_plotOf v_town_plotOf w2_row v_town_row w2_standsOn v_town_standsOn v_track_0 v_track_1 v_track_2 v_track_3 v_track_4) s.heap H locs) (hl : lv_has ls 7 [(0, .ref q), (1, .int a1), (2, .ref q2), (3, .int a3)]) : W p l e R s m args below meth c H locs cells slots Q (F0 m 0 ls []) := by
  have hx := X.1.1
  have hb := X.1.2.1
  unfold fX1_follow at h
  refine lv_iload_n hx hb dX1_follow_0 rfl (lv_at hl 3 rfl) ?_
  refine lv_bipush (v := (40 : Int32)) hx hb dX1_follow_1 (by decide) ?_
  refine kmin X hl.1 tw_178 tw_87 tw_88 tw_89 (Nat.le_trans (by decide) hrm.1) (Nat.le_trans (Nat.le_of_ble_eq_true rfl) hrm.2.1) ⟨hrm.2.2.1, hrm.2.2.2⟩ dX1_follow_3 ?_
  refine lv_istore (lv' := [(4, .int (if (40 : Int32) < a3 then (40 : Int32) else a3)), (0, .ref q), (1, .int a1), (2, .ref q2), (3, .int a3)]) hx hb dX1_follow_6 hl (by decide) rfl (fun ls hl => ?_)
  refine lv_iconst (v := (0 : Int32)) hx hb dX1_follow_8 (by decide) ?_
  refine lv_istore (lv' := [(5, .int (0 : Int32)), (4, .int (if (40 : Int32) < a3 then (40 : Int32) else a3)), (0, .ref q), (1, .int a1), (2, .ref q2), (3, .int a3)]) hx hb dX1_follow_9 hl (by decide) rfl (fun ls hl => ?_)
  exact wX1_follow_11 X hrm ret  _ _ h _ _ _ hw (lv_sub hl [2, 3, 4, 1, 0] rfl)
set_option maxHeartbeats 4000000 in
set_option maxRecDepth 100000 in
theorem cX1_follow_ct (l : Launch) (D : va_G) (cI cZ cG : ClassId) (q q_track q_town q_town_kindOf q_town_plotOf q_town_row q_town_standsOn q2 q2_kindOf q2_plotOf q2_row q2_standsOn q_track_0 q_track_1 q_track_2 q_track_3 q_track_4 : Nat)  (v_town_houses : Int32) (v_town_front : Int32) (v_town_downFor : Int32) (w2_houses : Int32) (w2_front : Int32) (w2_downFor : Int32) (w2_kindOf : (Nat → Int32)) (v_town_kindOf : (Nat → Int32)) (w2_plotOf : (Nat → Int32)) (v_town_plotOf : (Nat → Int32)) (w2_row : (Nat → Int32)) (v_town_row : (Nat → Int32)) (w2_standsOn : (Nat → Int32)) (v_town_standsOn : (Nat → Int32)) (v_track_0 : (Nat → Int32)) (v_track_1 : (Nat → Int32)) (v_track_2 : (Nat → Int32)) (v_track_3 : (Nat → Int32)) (v_track_4 : (Nat → Int32)) (a1 : Int32) (a3 : Int32) (N : Nat) (ρ : Int32 × Int32 × Int32 × (Nat → Int32) × (Nat → Int32) × (Nat → Int32) × (Nat → Int32) × (Nat → Int32) × (Nat → Int32) × (Nat → Int32) × (Nat → Int32) × (Nat → Int32)) (h : fX1_follow N w2_houses w2_front w2_downFor w2_kindOf w2_plotOf w2_row w2_standsOn a1 a3 v_town_houses v_town_front v_town_downFor v_town_kindOf v_town_plotOf v_town_row v_town_standsOn v_track_0 v_track_1 v_track_2 v_track_3 v_track_4  = some ρ) (sz : Nat) : Met l yX1_follow (wz yX1_follow cX1_follow 7 none) (cRm 3 67) (cPre D (TY cI cZ cG) [.ref q, .int a1, .ref q2, .int a3] (kwX1_follow cI cZ cG q q_track q_town q_town_kindOf q_town_plotOf q_town_row q_town_standsOn q2 q2_kindOf q2_plotOf q2_row q2_standsOn q_track_0 q_track_1 q_track_2 q_track_3 q_track_4 v_town_houses v_town_front v_town_downFor w2_houses w2_front w2_downFor w2_kindOf v_town_kindOf w2_plotOf v_town_plotOf w2_row v_town_row w2_standsOn v_town_standsOn v_track_0 v_track_1 v_track_2 v_track_3 v_track_4) sz) (cQv D (kwX1_follow cI cZ cG q q_track q_town q_town_kindOf q_town_plotOf q_town_row q_town_standsOn q2 q2_kindOf q2_plotOf q2_row q2_standsOn q_track_0 q_track_1 q_track_2 q_track_3 q_track_4 v_town_houses v_town_front v_town_downFor w2_houses w2_front w2_downFor w2_kindOf v_town_kindOf w2_plotOf v_town_plotOf w2_row v_town_row w2_standsOn v_town_standsOn v_track_0 v_track_1 v_track_2 v_track_3 v_track_4) (kwX1_follow cI cZ cG q q_track q_town q_town_kindOf q_town_plotOf q_town_row q_town_standsOn q2 q2_kindOf q2_plotOf q2_row q2_standsOn q_track_0 q_track_1 q_track_2 q_track_3 q_track_4 (ρ.1) (ρ.2.1) (ρ.2.2.1) w2_houses w2_front w2_downFor w2_kindOf (ρ.2.2.2.1) w2_plotOf (ρ.2.2.2.2.1) w2_row (ρ.2.2.2.2.2.1) w2_standsOn (ρ.2.2.2.2.2.2.1) (ρ.2.2.2.2.2.2.2.1) (ρ.2.2.2.2.2.2.2.2.1) (ρ.2.2.2.2.2.2.2.2.2.1) (ρ.2.2.2.2.2.2.2.2.2.2.1) (ρ.2.2.2.2.2.2.2.2.2.2.2)) sz) 0 0 (va_A (kwX1_follow cI cZ cG q q_track q_town q_town_kindOf q_town_plotOf q_town_row q_town_standsOn q2 q2_kindOf q2_plotOf q2_row q2_standsOn q_track_0 q_track_1 q_track_2 q_track_3 q_track_4 v_town_houses v_town_front v_town_downFor w2_houses w2_front w2_downFor w2_kindOf v_town_kindOf w2_plotOf v_town_plotOf w2_row v_town_row w2_standsOn v_town_standsOn v_track_0 v_track_1 v_track_2 v_track_3 v_track_4) sz) :=
  mk_v (by decide) (Nat.le_of_ble_eq_true rfl) (fun X hrm ret hw hl => wX1_follow X hrm ret h _ _ _ hw hl)
theorem dX1_agrees_0 : decode cX1_agrees 0 = .ok (.iconst 0, 1) := by decide +kernel
theorem dX1_agrees_1 : decode cX1_agrees 1 = .ok (.istore 4, 2) := by decide +kernel
theorem dX1_agrees_3 : decode cX1_agrees 3 = .ok (.iload 4, 2) := by decide +kernel
theorem dX1_agrees_5 : decode cX1_agrees 5 = .ok (.aload_n 3, 1) := by decide +kernel
theorem dX1_agrees_6 : decode cX1_agrees 6 = .ok (.getfield 71, 3) := by decide +kernel
theorem dX1_agrees_9 : decode cX1_agrees 9 = .ok (.if_icmp .ge 46, 3) := by decide +kernel
theorem dX1_agrees_12 : decode cX1_agrees 12 = .ok (.aload_n 3, 1) := by decide +kernel
theorem dX1_agrees_13 : decode cX1_agrees 13 = .ok (.getfield 75, 3) := by decide +kernel
theorem dX1_agrees_16 : decode cX1_agrees 16 = .ok (.iload 4, 2) := by decide +kernel
theorem dX1_agrees_18 : decode cX1_agrees 18 = .ok (.iaload, 1) := by decide +kernel
theorem dX1_agrees_19 : decode cX1_agrees 19 = .ok (.iload_n 2, 1) := by decide +kernel
theorem dX1_agrees_20 : decode cX1_agrees 20 = .ok (.if_icmp .ne 29, 3) := by decide +kernel
theorem dX1_agrees_23 : decode cX1_agrees 23 = .ok (.aload_n 0, 1) := by decide +kernel
theorem dX1_agrees_24 : decode cX1_agrees 24 = .ok (.getfield 11, 3) := by decide +kernel
theorem dX1_agrees_27 : decode cX1_agrees 27 = .ok (.iload_n 1, 1) := by decide +kernel
theorem dX1_agrees_28 : decode cX1_agrees 28 = .ok (.aaload, 1) := by decide +kernel
theorem dX1_agrees_29 : decode cX1_agrees 29 = .ok (.aload_n 3, 1) := by decide +kernel
theorem dX1_agrees_30 : decode cX1_agrees 30 = .ok (.getfield 78, 3) := by decide +kernel
theorem dX1_agrees_33 : decode cX1_agrees 33 = .ok (.iload 4, 2) := by decide +kernel
theorem dX1_agrees_35 : decode cX1_agrees 35 = .ok (.iaload, 1) := by decide +kernel
theorem dX1_agrees_36 : decode cX1_agrees 36 = .ok (.iaload, 1) := by decide +kernel
theorem dX1_agrees_37 : decode cX1_agrees 37 = .ok (.aload_n 3, 1) := by decide +kernel
theorem dX1_agrees_38 : decode cX1_agrees 38 = .ok (.getfield 81, 3) := by decide +kernel
theorem dX1_agrees_41 : decode cX1_agrees 41 = .ok (.iload 4, 2) := by decide +kernel
theorem dX1_agrees_43 : decode cX1_agrees 43 = .ok (.iaload, 1) := by decide +kernel
theorem dX1_agrees_44 : decode cX1_agrees 44 = .ok (.if_icmp .eq 5, 3) := by decide +kernel
theorem dX1_agrees_47 : decode cX1_agrees 47 = .ok (.iconst 0, 1) := by decide +kernel
theorem dX1_agrees_48 : decode cX1_agrees 48 = .ok (.ireturn, 1) := by decide +kernel
theorem dX1_agrees_49 : decode cX1_agrees 49 = .ok (.iinc 4 1, 3) := by decide +kernel
theorem dX1_agrees_52 : decode cX1_agrees 52 = .ok (.goto (-49), 3) := by decide +kernel
theorem dX1_agrees_55 : decode cX1_agrees 55 = .ok (.iconst 1, 1) := by decide +kernel
theorem dX1_agrees_56 : decode cX1_agrees 56 = .ok (.ireturn, 1) := by decide +kernel
abbrev kwX1_agrees (cI cZ cG : ClassId) (q q_track q_town q3 q3_house q3_plot q3_night q_track_0 q_track_1 q_track_2 q_track_3 q_track_4 n_a3 : Nat) (w3_size : Int32) (w3_house : (Nat → Int32)) (v_track_0 : (Nat → Int32)) (v_track_1 : (Nat → Int32)) (v_track_2 : (Nat → Int32)) (v_track_3 : (Nat → Int32)) (v_track_4 : (Nat → Int32)) (w3_night : (Nat → Int32)) (w3_plot : (Nat → Int32)) : va_W := [(q, .inr (1, [.ref q_track, .ref q_town])), (q3, .inr (2, [.ref q3_house, .ref q3_plot, .ref q3_night, .int w3_size])), (q3_house, .inl (cI, n_a3, .inl w3_house)), (q_track, .inl (cG, 5, .inr (.inr (.inr (.inr (fun i => if i = 0 then some q_track_0 else if i = 1 then some q_track_1 else if i = 2 then some q_track_2 else if i = 3 then some q_track_3 else if i = 4 then some q_track_4 else none)))))), (q_track_0, .inl (cI, 41, .inl v_track_0)), (q_track_1, .inl (cI, 41, .inl v_track_1)), (q_track_2, .inl (cI, 41, .inl v_track_2)), (q_track_3, .inl (cI, 41, .inl v_track_3)), (q_track_4, .inl (cI, 41, .inl v_track_4)), (q3_night, .inl (cI, n_a3, .inl w3_night)), (q3_plot, .inl (cI, n_a3, .inl w3_plot))]
noncomputable def fX1_agrees_3 (N : Nat) (n_a3 : Nat) (w3_size : Int32) (w3_house : (Nat → Int32)) (v_track_0 : (Nat → Int32)) (v_track_1 : (Nat → Int32)) (v_track_2 : (Nat → Int32)) (v_track_3 : (Nat → Int32)) (v_track_4 : (Nat → Int32)) (w3_night : (Nat → Int32)) (w3_plot : (Nat → Int32)) (a1 : Int32) (a2 : Int32)  (K_3 : Int32 → Option (Int32)) (l4 : Int32) : Option (Int32) := if w3_size ≤ l4 then (some (1 : Int32)) else (if l4 < 0 ∨ n_a3 ≤ (l4).toNatClampNeg then none else (if (w3_house (l4).toNatClampNeg) = a2 then (if a1 < 0 ∨ 5 ≤ (a1).toNatClampNeg then none else (if a1 = (0 : Int32) then (if l4 < 0 ∨ n_a3 ≤ (l4).toNatClampNeg then none else (if (w3_night (l4).toNatClampNeg) < 0 ∨ 41 ≤ ((w3_night (l4).toNatClampNeg)).toNatClampNeg then none else (if l4 < 0 ∨ n_a3 ≤ (l4).toNatClampNeg then none else (if (v_track_0 ((w3_night (l4).toNatClampNeg)).toNatClampNeg) = (w3_plot (l4).toNatClampNeg) then (K_3 (l4 + (1 : Int32))) else (some (0 : Int32)))))) else (if a1 = (1 : Int32) then (if l4 < 0 ∨ n_a3 ≤ (l4).toNatClampNeg then none else (if (w3_night (l4).toNatClampNeg) < 0 ∨ 41 ≤ ((w3_night (l4).toNatClampNeg)).toNatClampNeg then none else (if l4 < 0 ∨ n_a3 ≤ (l4).toNatClampNeg then none else (if (v_track_1 ((w3_night (l4).toNatClampNeg)).toNatClampNeg) = (w3_plot (l4).toNatClampNeg) then (K_3 (l4 + (1 : Int32))) else (some (0 : Int32)))))) else (if a1 = (2 : Int32) then (if l4 < 0 ∨ n_a3 ≤ (l4).toNatClampNeg then none else (if (w3_night (l4).toNatClampNeg) < 0 ∨ 41 ≤ ((w3_night (l4).toNatClampNeg)).toNatClampNeg then none else (if l4 < 0 ∨ n_a3 ≤ (l4).toNatClampNeg then none else (if (v_track_2 ((w3_night (l4).toNatClampNeg)).toNatClampNeg) = (w3_plot (l4).toNatClampNeg) then (K_3 (l4 + (1 : Int32))) else (some (0 : Int32)))))) else (if a1 = (3 : Int32) then (if l4 < 0 ∨ n_a3 ≤ (l4).toNatClampNeg then none else (if (w3_night (l4).toNatClampNeg) < 0 ∨ 41 ≤ ((w3_night (l4).toNatClampNeg)).toNatClampNeg then none else (if l4 < 0 ∨ n_a3 ≤ (l4).toNatClampNeg then none else (if (v_track_3 ((w3_night (l4).toNatClampNeg)).toNatClampNeg) = (w3_plot (l4).toNatClampNeg) then (K_3 (l4 + (1 : Int32))) else (some (0 : Int32)))))) else (if a1 = (4 : Int32) then (if l4 < 0 ∨ n_a3 ≤ (l4).toNatClampNeg then none else (if (w3_night (l4).toNatClampNeg) < 0 ∨ 41 ≤ ((w3_night (l4).toNatClampNeg)).toNatClampNeg then none else (if l4 < 0 ∨ n_a3 ≤ (l4).toNatClampNeg then none else (if (v_track_4 ((w3_night (l4).toNatClampNeg)).toNatClampNeg) = (w3_plot (l4).toNatClampNeg) then (K_3 (l4 + (1 : Int32))) else (some (0 : Int32)))))) else (none))))))) else (K_3 (l4 + (1 : Int32)))))
noncomputable def fX1_agrees (N : Nat) (n_a3 : Nat) (w3_size : Int32) (w3_house : (Nat → Int32)) (v_track_0 : (Nat → Int32)) (v_track_1 : (Nat → Int32)) (v_track_2 : (Nat → Int32)) (v_track_3 : (Nat → Int32)) (v_track_4 : (Nat → Int32)) (w3_night : (Nat → Int32)) (w3_plot : (Nat → Int32)) (a1 : Int32) (a2 : Int32)   : Option (Int32) := lfix (fun (K : Int32 → Option (Int32)) (a : Int32) => fX1_agrees_3 N n_a3 w3_size w3_house v_track_0 v_track_1 v_track_2 v_track_3 v_track_4 w3_night w3_plot a1 a2 (fun (l4 : Int32) => K l4) a) N (0 : Int32)
set_option maxHeartbeats 4000000 in
set_option maxRecDepth 100000 in
theorem wX1_agrees_3 {p : Program} {l : Launch} {e : Env} {R : Room} {s : State} {m : MethodId} {args : Array Value} {below : List Frame} {meth : Method} {c : Code} {cells slots : Nat} {Q : State → Prop} {D : va_G} {A : Nat → Prop} {cI cZ cG : ClassId} {q q_track q_town q3 q3_house q3_plot q3_night q_track_0 q_track_1 q_track_2 q_track_3 q_track_4 : Nat} {n_a3 : Nat} {w3_size : Int32} {w3_house : (Nat → Int32)} {v_track_0 : (Nat → Int32)} {v_track_1 : (Nat → Int32)} {v_track_2 : (Nat → Int32)} {v_track_3 : (Nat → Int32)} {v_track_4 : (Nat → Int32)} {w3_night : (Nat → Int32)} {w3_plot : (Nat → Int32)} {a1 : Int32} {a2 : Int32} {N : Nat} {ρ : Int32} (X : CX p s m args c cX1_agrees 5 RX1 D (TY cI cZ cG) A) (hrm : RM R 0 0 cells slots) (ret : ∀ (pc : Nat) (H : Heap) (locs : List Loc) (ls : Array Slot), narrow .boolean (.int ρ) = .int ρ → decode cX1_agrees pc = .ok (.ireturn, 1) → WD D A (kwX1_agrees cI cZ cG q q_track q_town q3 q3_house q3_plot q3_night q_track_0 q_track_1 q_track_2 q_track_3 q_track_4 n_a3 w3_size w3_house v_track_0 v_track_1 v_track_2 v_track_3 v_track_4 w3_night w3_plot) s.heap H locs → W p l e R s m args below meth c H locs cells slots Q (F0 m pc ls [.int ρ]))  : ∀ (n : Nat) (a : Int32), lfix (fun (K : Int32 → Option (Int32)) (a : Int32) => fX1_agrees_3 N n_a3 w3_size w3_house v_track_0 v_track_1 v_track_2 v_track_3 v_track_4 w3_night w3_plot a1 a2 (fun (l4 : Int32) => K l4) a) n a = some ρ → (fun (l4 : Int32) => ∀ (H : Heap) (locs : List Loc) (ls : Array Slot), WD D A (kwX1_agrees cI cZ cG q q_track q_town q3 q3_house q3_plot q3_night q_track_0 q_track_1 q_track_2 q_track_3 q_track_4 n_a3 w3_size w3_house v_track_0 v_track_1 v_track_2 v_track_3 v_track_4 w3_night w3_plot) s.heap H locs → lv_has ls 5 [(0, .ref q), (1, .int a1), (2, .int a2), (3, .ref q3), (4, .int l4)] → W p l e R s m args below meth c H locs cells slots Q (F0 m 3 ls [])) (a) := by
  have hx := X.1.1
  have hb := X.1.2.1
  refine lfix_W (fun K hK a h => ?_)
  obtain ⟨l4, rfl⟩ : ∃ z, z = a := ⟨_, rfl⟩
  intro H locs ls hw hl
  have h : fX1_agrees_3 N n_a3 w3_size w3_house v_track_0 v_track_1 v_track_2 v_track_3 v_track_4 w3_night w3_plot a1 a2 (fun (l4 : Int32) => K l4) l4 = some ρ := h
  have hK_3 : ∀ (l4 : Int32), (fun (l4 : Int32) => K l4) l4 = some ρ → ∀ (H : Heap) (locs : List Loc) (ls : Array Slot), WD D A (kwX1_agrees cI cZ cG q q_track q_town q3 q3_house q3_plot q3_night q_track_0 q_track_1 q_track_2 q_track_3 q_track_4 n_a3 w3_size w3_house v_track_0 v_track_1 v_track_2 v_track_3 v_track_4 w3_night w3_plot) s.heap H locs → lv_has ls 5 [(0, .ref q), (1, .int a1), (2, .int a2), (3, .ref q3), (4, .int l4)] → W p l e R s m args below meth c H locs cells slots Q (F0 m 3 ls []) := fun l4 h => hK l4 h
  generalize (fun (l4 : Int32) => K l4) = K_3 at h hK_3
  have hw : WD D A (kwX1_agrees cI cZ cG q q_track q_town q3 q3_house q3_plot q3_night q_track_0 q_track_1 q_track_2 q_track_3 q_track_4 n_a3 w3_size w3_house v_track_0 v_track_1 v_track_2 v_track_3 v_track_4 w3_night w3_plot) s.heap H locs := hw
  have hl : lv_has ls 5 [(0, .ref q), (1, .int a1), (2, .int a2), (3, .ref q3), (4, .int l4)] := hl
  unfold fX1_agrees_3 at h
  refine lv_iload hx hb dX1_agrees_3 (lv_at hl 4 rfl) ?_
  refine lv_aload_n hx hb dX1_agrees_5 rfl (lv_at hl 3 rfl) ?_
  refine kget (ci := 2) (v := .int w3_size) X hw iX2 1 rfl rfl 3 (by decide) tw_183 rfl dX1_agrees_6 ?_
  refine lv_icmp_ge (tgt := 55) hx hb dX1_agrees_9 (by decide) (fun c_9 => ?_) (fun c_9 => ?_)
  · have h := ift c_9 h
    refine lv_iconst (v := (1 : Int32)) hx hb dX1_agrees_55 (by decide) ?_
    obtain rfl := Option.some.inj h
    exact ret _ _ _ _ (show narrow .boolean (.int (1 : Int32)) = .int (1 : Int32) from rfl) dX1_agrees_56 hw
  · have h := iff_ c_9 h
    refine lv_aload_n hx hb dX1_agrees_12 rfl (lv_at hl 3 rfl) ?_
    refine kget (ci := 2) (v := .ref q3_house) X hw iX2 1 rfl rfl 0 (by decide) tw_184 rfl dX1_agrees_13 ?_
    refine lv_iload hx hb dX1_agrees_16 (lv_at hl 4 rfl) ?_
    obtain ⟨g_18, h⟩ := gd h
    refine kiald X hw 2 rfl rfl g_18 dX1_agrees_18 ?_
    refine lv_iload_n hx hb dX1_agrees_19 rfl (lv_at hl 2 rfl) ?_
    refine lv_icmp_ne (tgt := 49) hx hb dX1_agrees_20 (by decide) (fun c_20 => ?_) (fun c_20 => ?_)
    · have h := iff_ c_20 h
      refine lv_iinc (v := (l4 + (1 : Int32))) (lv' := [(4, .int (l4 + (1 : Int32))), (0, .ref q), (1, .int a1), (2, .int a2), (3, .ref q3)]) hx hb dX1_agrees_49 hl (k := 4) rfl (congrArg (l4 + ·) (by decide)) (by decide) rfl (fun ls hl => ?_)
      refine lv_goto (tgt := 3) hx hb dX1_agrees_52 (by decide) ?_
      exact hK_3 _ h _ _ _ hw (lv_sub hl [1, 2, 3, 4, 0] rfl)
    · have h := ift c_20 h
      refine lv_aload_n hx hb dX1_agrees_23 rfl (lv_at hl 0 rfl) ?_
      refine kget (ci := 1) (v := .ref q_track) X hw iX1 0 rfl rfl 0 (by decide) tw_176 rfl dX1_agrees_24 ?_
      refine lv_iload_n hx hb dX1_agrees_27 rfl (lv_at hl 1 rfl) ?_
      obtain ⟨g_28, h⟩ := gd h
      by_cases c_28_0 : a1 = (0 : Int32)
      · have h := ift c_28_0 h
        refine kaald (v := .ref q_track_0) X hw 3 rfl g_28 (by rw [c_28_0]; rfl) dX1_agrees_28 ?_
        refine lv_aload_n hx hb dX1_agrees_29 rfl (lv_at hl 3 rfl) ?_
        refine kget (ci := 2) (v := .ref q3_night) X hw iX2 1 rfl rfl 2 (by decide) tw_185 rfl dX1_agrees_30 ?_
        refine lv_iload hx hb dX1_agrees_33 (lv_at hl 4 rfl) ?_
        obtain ⟨g_35, h⟩ := gd h
        refine kiald X hw 9 rfl rfl g_35 dX1_agrees_35 ?_
        obtain ⟨g_36, h⟩ := gd h
        refine kiald X hw 4 rfl rfl g_36 dX1_agrees_36 ?_
        refine lv_aload_n hx hb dX1_agrees_37 rfl (lv_at hl 3 rfl) ?_
        refine kget (ci := 2) (v := .ref q3_plot) X hw iX2 1 rfl rfl 1 (by decide) tw_186 rfl dX1_agrees_38 ?_
        refine lv_iload hx hb dX1_agrees_41 (lv_at hl 4 rfl) ?_
        obtain ⟨g_43, h⟩ := gd h
        refine kiald X hw 10 rfl rfl g_43 dX1_agrees_43 ?_
        refine lv_icmp_eq (tgt := 49) hx hb dX1_agrees_44 (by decide) (fun c_44 => ?_) (fun c_44 => ?_)
        · have h := ift c_44 h
          refine lv_iinc (v := (l4 + (1 : Int32))) (lv' := [(4, .int (l4 + (1 : Int32))), (0, .ref q), (1, .int a1), (2, .int a2), (3, .ref q3)]) hx hb dX1_agrees_49 hl (k := 4) rfl (congrArg (l4 + ·) (by decide)) (by decide) rfl (fun ls hl => ?_)
          refine lv_goto (tgt := 3) hx hb dX1_agrees_52 (by decide) ?_
          exact hK_3 _ h _ _ _ hw (lv_sub hl [1, 2, 3, 4, 0] rfl)
        · have h := iff_ c_44 h
          refine lv_iconst (v := (0 : Int32)) hx hb dX1_agrees_47 (by decide) ?_
          obtain rfl := Option.some.inj h
          exact ret _ _ _ _ (show narrow .boolean (.int (0 : Int32)) = .int (0 : Int32) from rfl) dX1_agrees_48 hw
      have h := iff_ c_28_0 h
      by_cases c_28_1 : a1 = (1 : Int32)
      · have h := ift c_28_1 h
        refine kaald (v := .ref q_track_1) X hw 3 rfl g_28 (by rw [c_28_1]; rfl) dX1_agrees_28 ?_
        refine lv_aload_n hx hb dX1_agrees_29 rfl (lv_at hl 3 rfl) ?_
        refine kget (ci := 2) (v := .ref q3_night) X hw iX2 1 rfl rfl 2 (by decide) tw_185 rfl dX1_agrees_30 ?_
        refine lv_iload hx hb dX1_agrees_33 (lv_at hl 4 rfl) ?_
        obtain ⟨g_35, h⟩ := gd h
        refine kiald X hw 9 rfl rfl g_35 dX1_agrees_35 ?_
        obtain ⟨g_36, h⟩ := gd h
        refine kiald X hw 5 rfl rfl g_36 dX1_agrees_36 ?_
        refine lv_aload_n hx hb dX1_agrees_37 rfl (lv_at hl 3 rfl) ?_
        refine kget (ci := 2) (v := .ref q3_plot) X hw iX2 1 rfl rfl 1 (by decide) tw_186 rfl dX1_agrees_38 ?_
        refine lv_iload hx hb dX1_agrees_41 (lv_at hl 4 rfl) ?_
        obtain ⟨g_43, h⟩ := gd h
        refine kiald X hw 10 rfl rfl g_43 dX1_agrees_43 ?_
        refine lv_icmp_eq (tgt := 49) hx hb dX1_agrees_44 (by decide) (fun c_44 => ?_) (fun c_44 => ?_)
        · have h := ift c_44 h
          refine lv_iinc (v := (l4 + (1 : Int32))) (lv' := [(4, .int (l4 + (1 : Int32))), (0, .ref q), (1, .int a1), (2, .int a2), (3, .ref q3)]) hx hb dX1_agrees_49 hl (k := 4) rfl (congrArg (l4 + ·) (by decide)) (by decide) rfl (fun ls hl => ?_)
          refine lv_goto (tgt := 3) hx hb dX1_agrees_52 (by decide) ?_
          exact hK_3 _ h _ _ _ hw (lv_sub hl [1, 2, 3, 4, 0] rfl)
        · have h := iff_ c_44 h
          refine lv_iconst (v := (0 : Int32)) hx hb dX1_agrees_47 (by decide) ?_
          obtain rfl := Option.some.inj h
          exact ret _ _ _ _ (show narrow .boolean (.int (0 : Int32)) = .int (0 : Int32) from rfl) dX1_agrees_48 hw
      have h := iff_ c_28_1 h
      by_cases c_28_2 : a1 = (2 : Int32)
      · have h := ift c_28_2 h
        refine kaald (v := .ref q_track_2) X hw 3 rfl g_28 (by rw [c_28_2]; rfl) dX1_agrees_28 ?_
        refine lv_aload_n hx hb dX1_agrees_29 rfl (lv_at hl 3 rfl) ?_
        refine kget (ci := 2) (v := .ref q3_night) X hw iX2 1 rfl rfl 2 (by decide) tw_185 rfl dX1_agrees_30 ?_
        refine lv_iload hx hb dX1_agrees_33 (lv_at hl 4 rfl) ?_
        obtain ⟨g_35, h⟩ := gd h
        refine kiald X hw 9 rfl rfl g_35 dX1_agrees_35 ?_
        obtain ⟨g_36, h⟩ := gd h
        refine kiald X hw 6 rfl rfl g_36 dX1_agrees_36 ?_
        refine lv_aload_n hx hb dX1_agrees_37 rfl (lv_at hl 3 rfl) ?_
        refine kget (ci := 2) (v := .ref q3_plot) X hw iX2 1 rfl rfl 1 (by decide) tw_186 rfl dX1_agrees_38 ?_
        refine lv_iload hx hb dX1_agrees_41 (lv_at hl 4 rfl) ?_
        obtain ⟨g_43, h⟩ := gd h
        refine kiald X hw 10 rfl rfl g_43 dX1_agrees_43 ?_
        refine lv_icmp_eq (tgt := 49) hx hb dX1_agrees_44 (by decide) (fun c_44 => ?_) (fun c_44 => ?_)
        · have h := ift c_44 h
          refine lv_iinc (v := (l4 + (1 : Int32))) (lv' := [(4, .int (l4 + (1 : Int32))), (0, .ref q), (1, .int a1), (2, .int a2), (3, .ref q3)]) hx hb dX1_agrees_49 hl (k := 4) rfl (congrArg (l4 + ·) (by decide)) (by decide) rfl (fun ls hl => ?_)
          refine lv_goto (tgt := 3) hx hb dX1_agrees_52 (by decide) ?_
          exact hK_3 _ h _ _ _ hw (lv_sub hl [1, 2, 3, 4, 0] rfl)
        · have h := iff_ c_44 h
          refine lv_iconst (v := (0 : Int32)) hx hb dX1_agrees_47 (by decide) ?_
          obtain rfl := Option.some.inj h
          exact ret _ _ _ _ (show narrow .boolean (.int (0 : Int32)) = .int (0 : Int32) from rfl) dX1_agrees_48 hw
      have h := iff_ c_28_2 h
      by_cases c_28_3 : a1 = (3 : Int32)
      · have h := ift c_28_3 h
        refine kaald (v := .ref q_track_3) X hw 3 rfl g_28 (by rw [c_28_3]; rfl) dX1_agrees_28 ?_
        refine lv_aload_n hx hb dX1_agrees_29 rfl (lv_at hl 3 rfl) ?_
        refine kget (ci := 2) (v := .ref q3_night) X hw iX2 1 rfl rfl 2 (by decide) tw_185 rfl dX1_agrees_30 ?_
        refine lv_iload hx hb dX1_agrees_33 (lv_at hl 4 rfl) ?_
        obtain ⟨g_35, h⟩ := gd h
        refine kiald X hw 9 rfl rfl g_35 dX1_agrees_35 ?_
        obtain ⟨g_36, h⟩ := gd h
        refine kiald X hw 7 rfl rfl g_36 dX1_agrees_36 ?_
        refine lv_aload_n hx hb dX1_agrees_37 rfl (lv_at hl 3 rfl) ?_
        refine kget (ci := 2) (v := .ref q3_plot) X hw iX2 1 rfl rfl 1 (by decide) tw_186 rfl dX1_agrees_38 ?_
        refine lv_iload hx hb dX1_agrees_41 (lv_at hl 4 rfl) ?_
        obtain ⟨g_43, h⟩ := gd h
        refine kiald X hw 10 rfl rfl g_43 dX1_agrees_43 ?_
        refine lv_icmp_eq (tgt := 49) hx hb dX1_agrees_44 (by decide) (fun c_44 => ?_) (fun c_44 => ?_)
        · have h := ift c_44 h
          refine lv_iinc (v := (l4 + (1 : Int32))) (lv' := [(4, .int (l4 + (1 : Int32))), (0, .ref q), (1, .int a1), (2, .int a2), (3, .ref q3)]) hx hb dX1_agrees_49 hl (k := 4) rfl (congrArg (l4 + ·) (by decide)) (by decide) rfl (fun ls hl => ?_)
          refine lv_goto (tgt := 3) hx hb dX1_agrees_52 (by decide) ?_
          exact hK_3 _ h _ _ _ hw (lv_sub hl [1, 2, 3, 4, 0] rfl)
        · have h := iff_ c_44 h
          refine lv_iconst (v := (0 : Int32)) hx hb dX1_agrees_47 (by decide) ?_
          obtain rfl := Option.some.inj h
          exact ret _ _ _ _ (show narrow .boolean (.int (0 : Int32)) = .int (0 : Int32) from rfl) dX1_agrees_48 hw
      have h := iff_ c_28_3 h
      by_cases c_28_4 : a1 = (4 : Int32)
      · have h := ift c_28_4 h
        refine kaald (v := .ref q_track_4) X hw 3 rfl g_28 (by rw [c_28_4]; rfl) dX1_agrees_28 ?_
        refine lv_aload_n hx hb dX1_agrees_29 rfl (lv_at hl 3 rfl) ?_
        refine kget (ci := 2) (v := .ref q3_night) X hw iX2 1 rfl rfl 2 (by decide) tw_185 rfl dX1_agrees_30 ?_
        refine lv_iload hx hb dX1_agrees_33 (lv_at hl 4 rfl) ?_
        obtain ⟨g_35, h⟩ := gd h
        refine kiald X hw 9 rfl rfl g_35 dX1_agrees_35 ?_
        obtain ⟨g_36, h⟩ := gd h
        refine kiald X hw 8 rfl rfl g_36 dX1_agrees_36 ?_
        refine lv_aload_n hx hb dX1_agrees_37 rfl (lv_at hl 3 rfl) ?_
        refine kget (ci := 2) (v := .ref q3_plot) X hw iX2 1 rfl rfl 1 (by decide) tw_186 rfl dX1_agrees_38 ?_
        refine lv_iload hx hb dX1_agrees_41 (lv_at hl 4 rfl) ?_
        obtain ⟨g_43, h⟩ := gd h
        refine kiald X hw 10 rfl rfl g_43 dX1_agrees_43 ?_
        refine lv_icmp_eq (tgt := 49) hx hb dX1_agrees_44 (by decide) (fun c_44 => ?_) (fun c_44 => ?_)
        · have h := ift c_44 h
          refine lv_iinc (v := (l4 + (1 : Int32))) (lv' := [(4, .int (l4 + (1 : Int32))), (0, .ref q), (1, .int a1), (2, .int a2), (3, .ref q3)]) hx hb dX1_agrees_49 hl (k := 4) rfl (congrArg (l4 + ·) (by decide)) (by decide) rfl (fun ls hl => ?_)
          refine lv_goto (tgt := 3) hx hb dX1_agrees_52 (by decide) ?_
          exact hK_3 _ h _ _ _ hw (lv_sub hl [1, 2, 3, 4, 0] rfl)
        · have h := iff_ c_44 h
          refine lv_iconst (v := (0 : Int32)) hx hb dX1_agrees_47 (by decide) ?_
          obtain rfl := Option.some.inj h
          exact ret _ _ _ _ (show narrow .boolean (.int (0 : Int32)) = .int (0 : Int32) from rfl) dX1_agrees_48 hw
      have h := iff_ c_28_4 h
      exact nn h
set_option maxHeartbeats 4000000 in
set_option maxRecDepth 100000 in
theorem wX1_agrees {p : Program} {l : Launch} {e : Env} {R : Room} {s : State} {m : MethodId} {args : Array Value} {below : List Frame} {meth : Method} {c : Code} {cells slots : Nat} {Q : State → Prop} {D : va_G} {A : Nat → Prop} {cI cZ cG : ClassId} {q q_track q_town q3 q3_house q3_plot q3_night q_track_0 q_track_1 q_track_2 q_track_3 q_track_4 : Nat} {n_a3 : Nat} {w3_size : Int32} {w3_house : (Nat → Int32)} {v_track_0 : (Nat → Int32)} {v_track_1 : (Nat → Int32)} {v_track_2 : (Nat → Int32)} {v_track_3 : (Nat → Int32)} {v_track_4 : (Nat → Int32)} {w3_night : (Nat → Int32)} {w3_plot : (Nat → Int32)} {a1 : Int32} {a2 : Int32} {N : Nat} {ρ : Int32} (X : CX p s m args c cX1_agrees 5 RX1 D (TY cI cZ cG) A) (hrm : RM R 0 0 cells slots) (ret : ∀ (pc : Nat) (H : Heap) (locs : List Loc) (ls : Array Slot), narrow .boolean (.int ρ) = .int ρ → decode cX1_agrees pc = .ok (.ireturn, 1) → WD D A (kwX1_agrees cI cZ cG q q_track q_town q3 q3_house q3_plot q3_night q_track_0 q_track_1 q_track_2 q_track_3 q_track_4 n_a3 w3_size w3_house v_track_0 v_track_1 v_track_2 v_track_3 v_track_4 w3_night w3_plot) s.heap H locs → W p l e R s m args below meth c H locs cells slots Q (F0 m pc ls [.int ρ])) (h : fX1_agrees N n_a3 w3_size w3_house v_track_0 v_track_1 v_track_2 v_track_3 v_track_4 w3_night w3_plot a1 a2   = some ρ) (H : Heap) (locs : List Loc) (ls : Array Slot) (hw : WD D A (kwX1_agrees cI cZ cG q q_track q_town q3 q3_house q3_plot q3_night q_track_0 q_track_1 q_track_2 q_track_3 q_track_4 n_a3 w3_size w3_house v_track_0 v_track_1 v_track_2 v_track_3 v_track_4 w3_night w3_plot) s.heap H locs) (hl : lv_has ls 5 [(0, .ref q), (1, .int a1), (2, .int a2), (3, .ref q3)]) : W p l e R s m args below meth c H locs cells slots Q (F0 m 0 ls []) := by
  have hx := X.1.1
  have hb := X.1.2.1
  unfold fX1_agrees at h
  refine lv_iconst (v := (0 : Int32)) hx hb dX1_agrees_0 (by decide) ?_
  refine lv_istore (lv' := [(4, .int (0 : Int32)), (0, .ref q), (1, .int a1), (2, .int a2), (3, .ref q3)]) hx hb dX1_agrees_1 hl (by decide) rfl (fun ls hl => ?_)
  exact wX1_agrees_3 X hrm ret  _ _ h _ _ _ hw (lv_sub hl [1, 2, 3, 4, 0] rfl)
set_option maxHeartbeats 4000000 in
set_option maxRecDepth 100000 in
theorem cX1_agrees_ct (l : Launch) (D : va_G) (cI cZ cG : ClassId) (q q_track q_town q3 q3_house q3_plot q3_night q_track_0 q_track_1 q_track_2 q_track_3 q_track_4 : Nat) (n_a3 : Nat) (w3_size : Int32) (w3_house : (Nat → Int32)) (v_track_0 : (Nat → Int32)) (v_track_1 : (Nat → Int32)) (v_track_2 : (Nat → Int32)) (v_track_3 : (Nat → Int32)) (v_track_4 : (Nat → Int32)) (w3_night : (Nat → Int32)) (w3_plot : (Nat → Int32)) (a1 : Int32) (a2 : Int32) (N : Nat) (ρ : Int32) (h : fX1_agrees N n_a3 w3_size w3_house v_track_0 v_track_1 v_track_2 v_track_3 v_track_4 w3_night w3_plot a1 a2   = some ρ) (sz : Nat) : Met l yX1_agrees (wz yX1_agrees cX1_agrees 5 (some .boolean)) (cRm 0 0) (cPre D (TY cI cZ cG) [.ref q, .int a1, .int a2, .ref q3] (kwX1_agrees cI cZ cG q q_track q_town q3 q3_house q3_plot q3_night q_track_0 q_track_1 q_track_2 q_track_3 q_track_4 n_a3 w3_size w3_house v_track_0 v_track_1 v_track_2 v_track_3 v_track_4 w3_night w3_plot) sz) (cQi D (ρ) (kwX1_agrees cI cZ cG q q_track q_town q3 q3_house q3_plot q3_night q_track_0 q_track_1 q_track_2 q_track_3 q_track_4 n_a3 w3_size w3_house v_track_0 v_track_1 v_track_2 v_track_3 v_track_4 w3_night w3_plot) (kwX1_agrees cI cZ cG q q_track q_town q3 q3_house q3_plot q3_night q_track_0 q_track_1 q_track_2 q_track_3 q_track_4 n_a3 w3_size w3_house v_track_0 v_track_1 v_track_2 v_track_3 v_track_4 w3_night w3_plot) sz) 0 0 (va_A (kwX1_agrees cI cZ cG q q_track q_town q3 q3_house q3_plot q3_night q_track_0 q_track_1 q_track_2 q_track_3 q_track_4 n_a3 w3_size w3_house v_track_0 v_track_1 v_track_2 v_track_3 v_track_4 w3_night w3_plot) sz) :=
  mk_z (by decide) (Nat.le_of_ble_eq_true rfl) (fun X hrm ret hw hl => wX1_agrees X hrm ret h _ _ _ hw hl)
theorem dX1_kindsByTracks_0 : decode cX1_kindsByTracks 0 = .ok (.iconst 0, 1) := by decide +kernel
theorem dX1_kindsByTracks_1 : decode cX1_kindsByTracks 1 = .ok (.istore_n 3, 1) := by decide +kernel
theorem dX1_kindsByTracks_2 : decode cX1_kindsByTracks 2 = .ok (.iconst 0, 1) := by decide +kernel
theorem dX1_kindsByTracks_3 : decode cX1_kindsByTracks 3 = .ok (.istore 4, 2) := by decide +kernel
theorem dX1_kindsByTracks_5 : decode cX1_kindsByTracks 5 = .ok (.iload 4, 2) := by decide +kernel
theorem dX1_kindsByTracks_7 : decode cX1_kindsByTracks 7 = .ok (.iconst 5, 1) := by decide +kernel
theorem dX1_kindsByTracks_8 : decode cX1_kindsByTracks 8 = .ok (.if_icmp .ge 27, 3) := by decide +kernel
theorem dX1_kindsByTracks_11 : decode cX1_kindsByTracks 11 = .ok (.aload_n 0, 1) := by decide +kernel
theorem dX1_kindsByTracks_12 : decode cX1_kindsByTracks 12 = .ok (.iload 4, 2) := by decide +kernel
theorem dX1_kindsByTracks_14 : decode cX1_kindsByTracks 14 = .ok (.iload_n 1, 1) := by decide +kernel
theorem dX1_kindsByTracks_15 : decode cX1_kindsByTracks 15 = .ok (.aload_n 2, 1) := by decide +kernel
theorem dX1_kindsByTracks_16 : decode cX1_kindsByTracks 16 = .ok (.invokevirtual 67, 3) := by decide +kernel
theorem dX1_kindsByTracks_19 : decode cX1_kindsByTracks 19 = .ok (.ifCond .eq 10, 3) := by decide +kernel
theorem dX1_kindsByTracks_22 : decode cX1_kindsByTracks 22 = .ok (.iload_n 3, 1) := by decide +kernel
theorem dX1_kindsByTracks_23 : decode cX1_kindsByTracks 23 = .ok (.iconst 1, 1) := by decide +kernel
theorem dX1_kindsByTracks_24 : decode cX1_kindsByTracks 24 = .ok (.iload 4, 2) := by decide +kernel
theorem dX1_kindsByTracks_26 : decode cX1_kindsByTracks 26 = .ok (.ishl, 1) := by decide +kernel
theorem dX1_kindsByTracks_27 : decode cX1_kindsByTracks 27 = .ok (.ior, 1) := by decide +kernel
theorem dX1_kindsByTracks_28 : decode cX1_kindsByTracks 28 = .ok (.istore_n 3, 1) := by decide +kernel
theorem dX1_kindsByTracks_29 : decode cX1_kindsByTracks 29 = .ok (.iinc 4 1, 3) := by decide +kernel
theorem dX1_kindsByTracks_32 : decode cX1_kindsByTracks 32 = .ok (.goto (-27), 3) := by decide +kernel
theorem dX1_kindsByTracks_35 : decode cX1_kindsByTracks 35 = .ok (.iload_n 3, 1) := by decide +kernel
theorem dX1_kindsByTracks_36 : decode cX1_kindsByTracks 36 = .ok (.ireturn, 1) := by decide +kernel
abbrev kwX1_kindsByTracks (cI cZ cG : ClassId) (q q_track q_town q2 q2_house q2_plot q2_night q_track_0 q_track_1 q_track_2 q_track_3 q_track_4 n_a2 : Nat) (w2_size : Int32) (w2_house : (Nat → Int32)) (v_track_0 : (Nat → Int32)) (v_track_1 : (Nat → Int32)) (v_track_2 : (Nat → Int32)) (v_track_3 : (Nat → Int32)) (v_track_4 : (Nat → Int32)) (w2_night : (Nat → Int32)) (w2_plot : (Nat → Int32)) : va_W := [(q, .inr (1, [.ref q_track, .ref q_town])), (q2, .inr (2, [.ref q2_house, .ref q2_plot, .ref q2_night, .int w2_size])), (q2_house, .inl (cI, n_a2, .inl w2_house)), (q_track, .inl (cG, 5, .inr (.inr (.inr (.inr (fun i => if i = 0 then some q_track_0 else if i = 1 then some q_track_1 else if i = 2 then some q_track_2 else if i = 3 then some q_track_3 else if i = 4 then some q_track_4 else none)))))), (q_track_0, .inl (cI, 41, .inl v_track_0)), (q_track_1, .inl (cI, 41, .inl v_track_1)), (q_track_2, .inl (cI, 41, .inl v_track_2)), (q_track_3, .inl (cI, 41, .inl v_track_3)), (q_track_4, .inl (cI, 41, .inl v_track_4)), (q2_night, .inl (cI, n_a2, .inl w2_night)), (q2_plot, .inl (cI, n_a2, .inl w2_plot))]
noncomputable def fX1_kindsByTracks_5 (N : Nat) (n_a2 : Nat) (w2_size : Int32) (w2_house : (Nat → Int32)) (v_track_0 : (Nat → Int32)) (v_track_1 : (Nat → Int32)) (v_track_2 : (Nat → Int32)) (v_track_3 : (Nat → Int32)) (v_track_4 : (Nat → Int32)) (w2_night : (Nat → Int32)) (w2_plot : (Nat → Int32)) (a1 : Int32)  (K_5 : Int32 → Int32 → Option (Int32)) (l3 : Int32) (l4 : Int32) : Option (Int32) := if (5 : Int32) ≤ l4 then (some l3) else ((fX1_agrees N n_a2 w2_size w2_house v_track_0 v_track_1 v_track_2 v_track_3 v_track_4 w2_night w2_plot l4 a1).bind (fun x_16 => if x_16 = 0 then (K_5 l3 (l4 + (1 : Int32))) else (K_5 (l3 ||| ((1 : Int32) <<< (l4 &&& 31))) (l4 + (1 : Int32)))))
noncomputable def fX1_kindsByTracks (N : Nat) (n_a2 : Nat) (w2_size : Int32) (w2_house : (Nat → Int32)) (v_track_0 : (Nat → Int32)) (v_track_1 : (Nat → Int32)) (v_track_2 : (Nat → Int32)) (v_track_3 : (Nat → Int32)) (v_track_4 : (Nat → Int32)) (w2_night : (Nat → Int32)) (w2_plot : (Nat → Int32)) (a1 : Int32)   : Option (Int32) := lfix (fun (K : Int32 × Int32 → Option (Int32)) (a : Int32 × Int32) => fX1_kindsByTracks_5 N n_a2 w2_size w2_house v_track_0 v_track_1 v_track_2 v_track_3 v_track_4 w2_night w2_plot a1 (fun (l3 : Int32) (l4 : Int32) => K (l3, l4)) a.1 a.2) N ((0 : Int32), (0 : Int32))
set_option maxHeartbeats 4000000 in
set_option maxRecDepth 100000 in
theorem wX1_kindsByTracks_5 {p : Program} {l : Launch} {e : Env} {R : Room} {s : State} {m : MethodId} {args : Array Value} {below : List Frame} {meth : Method} {c : Code} {cells slots : Nat} {Q : State → Prop} {D : va_G} {A : Nat → Prop} {cI cZ cG : ClassId} {q q_track q_town q2 q2_house q2_plot q2_night q_track_0 q_track_1 q_track_2 q_track_3 q_track_4 : Nat} {n_a2 : Nat} {w2_size : Int32} {w2_house : (Nat → Int32)} {v_track_0 : (Nat → Int32)} {v_track_1 : (Nat → Int32)} {v_track_2 : (Nat → Int32)} {v_track_3 : (Nat → Int32)} {v_track_4 : (Nat → Int32)} {w2_night : (Nat → Int32)} {w2_plot : (Nat → Int32)} {a1 : Int32} {N : Nat} {ρ : Int32} (X : CX p s m args c cX1_kindsByTracks 5 RX1 D (TY cI cZ cG) A) (hrm : RM R 1 24 cells slots) (ret : ∀ (pc : Nat) (H : Heap) (locs : List Loc) (ls : Array Slot), decode cX1_kindsByTracks pc = .ok (.ireturn, 1) → WD D A (kwX1_kindsByTracks cI cZ cG q q_track q_town q2 q2_house q2_plot q2_night q_track_0 q_track_1 q_track_2 q_track_3 q_track_4 n_a2 w2_size w2_house v_track_0 v_track_1 v_track_2 v_track_3 v_track_4 w2_night w2_plot) s.heap H locs → W p l e R s m args below meth c H locs cells slots Q (F0 m pc ls [.int ρ]))  : ∀ (n : Nat) (a : Int32 × Int32), lfix (fun (K : Int32 × Int32 → Option (Int32)) (a : Int32 × Int32) => fX1_kindsByTracks_5 N n_a2 w2_size w2_house v_track_0 v_track_1 v_track_2 v_track_3 v_track_4 w2_night w2_plot a1 (fun (l3 : Int32) (l4 : Int32) => K (l3, l4)) a.1 a.2) n a = some ρ → (fun (l3 : Int32) (l4 : Int32) => ∀ (H : Heap) (locs : List Loc) (ls : Array Slot), WD D A (kwX1_kindsByTracks cI cZ cG q q_track q_town q2 q2_house q2_plot q2_night q_track_0 q_track_1 q_track_2 q_track_3 q_track_4 n_a2 w2_size w2_house v_track_0 v_track_1 v_track_2 v_track_3 v_track_4 w2_night w2_plot) s.heap H locs → lv_has ls 5 [(0, .ref q), (1, .int a1), (2, .ref q2), (3, .int l3), (4, .int l4)] → W p l e R s m args below meth c H locs cells slots Q (F0 m 5 ls [])) (a.1) (a.2) := by
  have hx := X.1.1
  have hb := X.1.2.1
  refine lfix_W (fun K hK a h => ?_)
  obtain ⟨l3, l4⟩ := a
  intro H locs ls hw hl
  have h : fX1_kindsByTracks_5 N n_a2 w2_size w2_house v_track_0 v_track_1 v_track_2 v_track_3 v_track_4 w2_night w2_plot a1 (fun (l3 : Int32) (l4 : Int32) => K (l3, l4)) l3 l4 = some ρ := h
  have hK_5 : ∀ (l3 : Int32) (l4 : Int32), (fun (l3 : Int32) (l4 : Int32) => K (l3, l4)) l3 l4 = some ρ → ∀ (H : Heap) (locs : List Loc) (ls : Array Slot), WD D A (kwX1_kindsByTracks cI cZ cG q q_track q_town q2 q2_house q2_plot q2_night q_track_0 q_track_1 q_track_2 q_track_3 q_track_4 n_a2 w2_size w2_house v_track_0 v_track_1 v_track_2 v_track_3 v_track_4 w2_night w2_plot) s.heap H locs → lv_has ls 5 [(0, .ref q), (1, .int a1), (2, .ref q2), (3, .int l3), (4, .int l4)] → W p l e R s m args below meth c H locs cells slots Q (F0 m 5 ls []) := fun l3 l4 h => hK (l3, l4) h
  generalize (fun (l3 : Int32) (l4 : Int32) => K (l3, l4)) = K_5 at h hK_5
  have hw : WD D A (kwX1_kindsByTracks cI cZ cG q q_track q_town q2 q2_house q2_plot q2_night q_track_0 q_track_1 q_track_2 q_track_3 q_track_4 n_a2 w2_size w2_house v_track_0 v_track_1 v_track_2 v_track_3 v_track_4 w2_night w2_plot) s.heap H locs := hw
  have hl : lv_has ls 5 [(0, .ref q), (1, .int a1), (2, .ref q2), (3, .int l3), (4, .int l4)] := hl
  unfold fX1_kindsByTracks_5 at h
  refine lv_iload hx hb dX1_kindsByTracks_5 (lv_at hl 4 rfl) ?_
  refine lv_iconst (v := (5 : Int32)) hx hb dX1_kindsByTracks_7 (by decide) ?_
  refine lv_icmp_ge (tgt := 35) hx hb dX1_kindsByTracks_8 (by decide) (fun c_8 => ?_) (fun c_8 => ?_)
  · have h := ift c_8 h
    refine lv_iload_n hx hb dX1_kindsByTracks_35 rfl (lv_at hl 3 rfl) ?_
    obtain rfl := Option.some.inj h
    exact ret _ _ _ _ dX1_kindsByTracks_36 hw
  · have h := iff_ c_8 h
    refine lv_aload_n hx hb dX1_kindsByTracks_11 rfl (lv_at hl 0 rfl) ?_
    refine lv_iload hx hb dX1_kindsByTracks_12 (lv_at hl 4 rfl) ?_
    refine lv_iload_n hx hb dX1_kindsByTracks_14 rfl (lv_at hl 1 rfl) ?_
    refine lv_aload_n hx hb dX1_kindsByTracks_15 rfl (lv_at hl 2 rfl) ?_
    obtain ⟨x_16, hc_16, h⟩ := obd h
    refine ksV_i (ws2 := (kwX1_kindsByTracks cI cZ cG q q_track q_town q2 q2_house q2_plot q2_night q_track_0 q_track_1 q_track_2 q_track_3 q_track_4 n_a2 w2_size w2_house v_track_0 v_track_1 v_track_2 v_track_3 v_track_4 w2_night w2_plot)) (nW := 11) (ci := 1) (As := [.int l4, .int a1, .ref q2]) (rest := []) X hw rfl rfl rfl (cX1_agrees_ct l D cI cZ cG q q_track q_town q2 q2_house q2_plot q2_night q_track_0 q_track_1 q_track_2 q_track_3 q_track_4 n_a2 w2_size w2_house v_track_0 v_track_1 v_track_2 v_track_3 v_track_4 w2_night w2_plot l4 a1 N x_16 hc_16 H.size) mX1_agrees tw_190 (hrm.call (by decide) (by decide)) [0, 1, 2, 3, 4, 5, 6, 7, 8, 9, 10] rfl (by decide) rfl (by decide) rfl trivial rfl hl.1 rfl (Nat.le_of_ble_eq_true rfl) dX1_kindsByTracks_16 ⟨hrm.2.2.1, hrm.2.2.2⟩ (fun H locs hw => ?_)
    refine lv_if_eq (tgt := 29) hx hb dX1_kindsByTracks_19 (by decide) (fun c_19 => ?_) (fun c_19 => ?_)
    · have h := ift c_19 h
      refine lv_iinc (v := (l4 + (1 : Int32))) (lv' := [(4, .int (l4 + (1 : Int32))), (0, .ref q), (1, .int a1), (2, .ref q2), (3, .int l3)]) hx hb dX1_kindsByTracks_29 hl (k := 4) rfl (congrArg (l4 + ·) (by decide)) (by decide) rfl (fun ls hl => ?_)
      refine lv_goto (tgt := 5) hx hb dX1_kindsByTracks_32 (by decide) ?_
      exact hK_5 _ _ h _ _ _ hw (lv_sub hl [1, 2, 3, 4, 0] rfl)
    · have h := iff_ c_19 h
      refine lv_iload_n hx hb dX1_kindsByTracks_22 rfl (lv_at hl 3 rfl) ?_
      refine lv_iconst (v := (1 : Int32)) hx hb dX1_kindsByTracks_23 (by decide) ?_
      refine lv_iload hx hb dX1_kindsByTracks_24 (lv_at hl 4 rfl) ?_
      refine lv_ishl hx hb dX1_kindsByTracks_26 ?_
      refine lv_ior hx hb dX1_kindsByTracks_27 ?_
      refine lv_istore_n (lv' := [(3, .int (l3 ||| ((1 : Int32) <<< (l4 &&& 31)))), (0, .ref q), (1, .int a1), (2, .ref q2), (4, .int l4)]) hx hb dX1_kindsByTracks_28 rfl hl (by decide) rfl (fun ls hl => ?_)
      refine lv_iinc (v := (l4 + (1 : Int32))) (lv' := [(4, .int (l4 + (1 : Int32))), (3, .int (l3 ||| ((1 : Int32) <<< (l4 &&& 31)))), (0, .ref q), (1, .int a1), (2, .ref q2)]) hx hb dX1_kindsByTracks_29 hl (k := 4) rfl (congrArg (l4 + ·) (by decide)) (by decide) rfl (fun ls hl => ?_)
      refine lv_goto (tgt := 5) hx hb dX1_kindsByTracks_32 (by decide) ?_
      exact hK_5 _ _ h _ _ _ hw (lv_sub hl [2, 3, 4, 1, 0] rfl)
set_option maxHeartbeats 4000000 in
set_option maxRecDepth 100000 in
theorem wX1_kindsByTracks {p : Program} {l : Launch} {e : Env} {R : Room} {s : State} {m : MethodId} {args : Array Value} {below : List Frame} {meth : Method} {c : Code} {cells slots : Nat} {Q : State → Prop} {D : va_G} {A : Nat → Prop} {cI cZ cG : ClassId} {q q_track q_town q2 q2_house q2_plot q2_night q_track_0 q_track_1 q_track_2 q_track_3 q_track_4 : Nat} {n_a2 : Nat} {w2_size : Int32} {w2_house : (Nat → Int32)} {v_track_0 : (Nat → Int32)} {v_track_1 : (Nat → Int32)} {v_track_2 : (Nat → Int32)} {v_track_3 : (Nat → Int32)} {v_track_4 : (Nat → Int32)} {w2_night : (Nat → Int32)} {w2_plot : (Nat → Int32)} {a1 : Int32} {N : Nat} {ρ : Int32} (X : CX p s m args c cX1_kindsByTracks 5 RX1 D (TY cI cZ cG) A) (hrm : RM R 1 24 cells slots) (ret : ∀ (pc : Nat) (H : Heap) (locs : List Loc) (ls : Array Slot), decode cX1_kindsByTracks pc = .ok (.ireturn, 1) → WD D A (kwX1_kindsByTracks cI cZ cG q q_track q_town q2 q2_house q2_plot q2_night q_track_0 q_track_1 q_track_2 q_track_3 q_track_4 n_a2 w2_size w2_house v_track_0 v_track_1 v_track_2 v_track_3 v_track_4 w2_night w2_plot) s.heap H locs → W p l e R s m args below meth c H locs cells slots Q (F0 m pc ls [.int ρ])) (h : fX1_kindsByTracks N n_a2 w2_size w2_house v_track_0 v_track_1 v_track_2 v_track_3 v_track_4 w2_night w2_plot a1   = some ρ) (H : Heap) (locs : List Loc) (ls : Array Slot) (hw : WD D A (kwX1_kindsByTracks cI cZ cG q q_track q_town q2 q2_house q2_plot q2_night q_track_0 q_track_1 q_track_2 q_track_3 q_track_4 n_a2 w2_size w2_house v_track_0 v_track_1 v_track_2 v_track_3 v_track_4 w2_night w2_plot) s.heap H locs) (hl : lv_has ls 5 [(0, .ref q), (1, .int a1), (2, .ref q2)]) : W p l e R s m args below meth c H locs cells slots Q (F0 m 0 ls []) := by
  have hx := X.1.1
  have hb := X.1.2.1
  unfold fX1_kindsByTracks at h
  refine lv_iconst (v := (0 : Int32)) hx hb dX1_kindsByTracks_0 (by decide) ?_
  refine lv_istore_n (lv' := [(3, .int (0 : Int32)), (0, .ref q), (1, .int a1), (2, .ref q2)]) hx hb dX1_kindsByTracks_1 rfl hl (by decide) rfl (fun ls hl => ?_)
  refine lv_iconst (v := (0 : Int32)) hx hb dX1_kindsByTracks_2 (by decide) ?_
  refine lv_istore (lv' := [(4, .int (0 : Int32)), (3, .int (0 : Int32)), (0, .ref q), (1, .int a1), (2, .ref q2)]) hx hb dX1_kindsByTracks_3 hl (by decide) rfl (fun ls hl => ?_)
  exact wX1_kindsByTracks_5 X hrm ret  _ _ h _ _ _ hw (lv_sub hl [2, 3, 4, 1, 0] rfl)
set_option maxHeartbeats 4000000 in
set_option maxRecDepth 100000 in
theorem cX1_kindsByTracks_ct (l : Launch) (D : va_G) (cI cZ cG : ClassId) (q q_track q_town q2 q2_house q2_plot q2_night q_track_0 q_track_1 q_track_2 q_track_3 q_track_4 : Nat) (n_a2 : Nat) (w2_size : Int32) (w2_house : (Nat → Int32)) (v_track_0 : (Nat → Int32)) (v_track_1 : (Nat → Int32)) (v_track_2 : (Nat → Int32)) (v_track_3 : (Nat → Int32)) (v_track_4 : (Nat → Int32)) (w2_night : (Nat → Int32)) (w2_plot : (Nat → Int32)) (a1 : Int32) (N : Nat) (ρ : Int32) (h : fX1_kindsByTracks N n_a2 w2_size w2_house v_track_0 v_track_1 v_track_2 v_track_3 v_track_4 w2_night w2_plot a1   = some ρ) (sz : Nat) : Met l yX1_kindsByTracks (wz yX1_kindsByTracks cX1_kindsByTracks 5 (some .int)) (cRm 1 24) (cPre D (TY cI cZ cG) [.ref q, .int a1, .ref q2] (kwX1_kindsByTracks cI cZ cG q q_track q_town q2 q2_house q2_plot q2_night q_track_0 q_track_1 q_track_2 q_track_3 q_track_4 n_a2 w2_size w2_house v_track_0 v_track_1 v_track_2 v_track_3 v_track_4 w2_night w2_plot) sz) (cQi D (ρ) (kwX1_kindsByTracks cI cZ cG q q_track q_town q2 q2_house q2_plot q2_night q_track_0 q_track_1 q_track_2 q_track_3 q_track_4 n_a2 w2_size w2_house v_track_0 v_track_1 v_track_2 v_track_3 v_track_4 w2_night w2_plot) (kwX1_kindsByTracks cI cZ cG q q_track q_town q2 q2_house q2_plot q2_night q_track_0 q_track_1 q_track_2 q_track_3 q_track_4 n_a2 w2_size w2_house v_track_0 v_track_1 v_track_2 v_track_3 v_track_4 w2_night w2_plot) sz) 0 0 (va_A (kwX1_kindsByTracks cI cZ cG q q_track q_town q2 q2_house q2_plot q2_night q_track_0 q_track_1 q_track_2 q_track_3 q_track_4 n_a2 w2_size w2_house v_track_0 v_track_1 v_track_2 v_track_3 v_track_4 w2_night w2_plot) sz) :=
  mk_i (by decide) (Nat.le_of_ble_eq_true rfl) (fun X hrm ret hw hl => wX1_kindsByTracks X hrm ret h _ _ _ hw hl)
theorem dX1_kindsOf_0 : decode cX1_kindsOf 0 = .ok (.aload_n 0, 1) := by decide +kernel
theorem dX1_kindsOf_1 : decode cX1_kindsOf 1 = .ok (.iload_n 1, 1) := by decide +kernel
theorem dX1_kindsOf_2 : decode cX1_kindsOf 2 = .ok (.aload_n 2, 1) := by decide +kernel
theorem dX1_kindsOf_3 : decode cX1_kindsOf 3 = .ok (.getfield 23, 3) := by decide +kernel
theorem dX1_kindsOf_6 : decode cX1_kindsOf 6 = .ok (.aload_n 2, 1) := by decide +kernel
theorem dX1_kindsOf_7 : decode cX1_kindsOf 7 = .ok (.getfield 26, 3) := by decide +kernel
theorem dX1_kindsOf_10 : decode cX1_kindsOf 10 = .ok (.invokevirtual 30, 3) := by decide +kernel
theorem dX1_kindsOf_13 : decode cX1_kindsOf 13 = .ok (.invokevirtual 36, 3) := by decide +kernel
theorem dX1_kindsOf_16 : decode cX1_kindsOf 16 = .ok (.aload_n 0, 1) := by decide +kernel
theorem dX1_kindsOf_17 : decode cX1_kindsOf 17 = .ok (.iload_n 1, 1) := by decide +kernel
theorem dX1_kindsOf_18 : decode cX1_kindsOf 18 = .ok (.aload_n 2, 1) := by decide +kernel
theorem dX1_kindsOf_19 : decode cX1_kindsOf 19 = .ok (.getfield 26, 3) := by decide +kernel
theorem dX1_kindsOf_22 : decode cX1_kindsOf 22 = .ok (.invokevirtual 40, 3) := by decide +kernel
theorem dX1_kindsOf_25 : decode cX1_kindsOf 25 = .ok (.ireturn, 1) := by decide +kernel
abbrev kwX1_kindsOf (cI cZ cG : ClassId) (q q_track q_town q2 q2_town q2_had q2_wishes q2_seen q2_seen_house q2_seen_plot q2_seen_night q_town_kindOf q_town_plotOf q_town_row q_town_standsOn q2_town_kindOf q2_town_plotOf q2_town_row q2_town_standsOn q_track_0 q_track_1 q_track_2 q_track_3 q_track_4 : Nat) (w2_nights : Int32) (w2_seen_size : Int32) (w2_seen_night : (Nat → Int32)) (v_town_houses : Int32) (v_town_front : Int32) (v_town_downFor : Int32) (w2_town_houses : Int32) (w2_town_front : Int32) (w2_town_downFor : Int32) (w2_town_kindOf : (Nat → Int32)) (v_town_kindOf : (Nat → Int32)) (w2_town_plotOf : (Nat → Int32)) (v_town_plotOf : (Nat → Int32)) (w2_town_row : (Nat → Int32)) (v_town_row : (Nat → Int32)) (w2_town_standsOn : (Nat → Int32)) (v_town_standsOn : (Nat → Int32)) (v_track_0 : (Nat → Int32)) (v_track_1 : (Nat → Int32)) (v_track_2 : (Nat → Int32)) (v_track_3 : (Nat → Int32)) (v_track_4 : (Nat → Int32)) (w2_seen_house : (Nat → Int32)) (w2_seen_plot : (Nat → Int32)) : va_W := [(q, .inr (1, [.ref q_track, .ref q_town])), (q2, .inr (5, [.ref q2_town, .ref q2_had, .ref q2_wishes, .ref q2_seen, .int w2_nights])), (q2_seen, .inr (2, [.ref q2_seen_house, .ref q2_seen_plot, .ref q2_seen_night, .int w2_seen_size])), (q2_seen_night, .inl (cI, 6, .inl w2_seen_night)), (q_town, .inr (6, [.ref q_town_kindOf, .ref q_town_plotOf, .ref q_town_row, .ref q_town_standsOn, .int v_town_houses, .int v_town_front, .int v_town_downFor])), (q2_town, .inr (6, [.ref q2_town_kindOf, .ref q2_town_plotOf, .ref q2_town_row, .ref q2_town_standsOn, .int w2_town_houses, .int w2_town_front, .int w2_town_downFor])), (q2_town_kindOf, .inl (cI, 6, .inl w2_town_kindOf)), (q_town_kindOf, .inl (cI, 6, .inl v_town_kindOf)), (q2_town_plotOf, .inl (cI, 6, .inl w2_town_plotOf)), (q_town_plotOf, .inl (cI, 6, .inl v_town_plotOf)), (q2_town_row, .inl (cI, 6, .inl w2_town_row)), (q_town_row, .inl (cI, 6, .inl v_town_row)), (q2_town_standsOn, .inl (cI, 12, .inl w2_town_standsOn)), (q_town_standsOn, .inl (cI, 12, .inl v_town_standsOn)), (q_track, .inl (cG, 5, .inr (.inr (.inr (.inr (fun i => if i = 0 then some q_track_0 else if i = 1 then some q_track_1 else if i = 2 then some q_track_2 else if i = 3 then some q_track_3 else if i = 4 then some q_track_4 else none)))))), (q_track_0, .inl (cI, 41, .inl v_track_0)), (q_track_1, .inl (cI, 41, .inl v_track_1)), (q_track_2, .inl (cI, 41, .inl v_track_2)), (q_track_3, .inl (cI, 41, .inl v_track_3)), (q_track_4, .inl (cI, 41, .inl v_track_4)), (q2_seen_house, .inl (cI, 6, .inl w2_seen_house)), (q2_seen_plot, .inl (cI, 6, .inl w2_seen_plot))]
noncomputable def fX1_kindsOf (N : Nat) (w2_seen_size : Int32) (w2_seen_night : (Nat → Int32)) (w2_town_houses : Int32) (w2_town_front : Int32) (w2_town_downFor : Int32) (w2_town_kindOf : (Nat → Int32)) (w2_town_plotOf : (Nat → Int32)) (w2_town_row : (Nat → Int32)) (w2_town_standsOn : (Nat → Int32)) (w2_seen_house : (Nat → Int32)) (w2_seen_plot : (Nat → Int32)) (a1 : Int32) (v_town_houses : Int32) (v_town_front : Int32) (v_town_downFor : Int32) (v_town_kindOf : (Nat → Int32)) (v_town_plotOf : (Nat → Int32)) (v_town_row : (Nat → Int32)) (v_town_standsOn : (Nat → Int32)) (v_track_0 : (Nat → Int32)) (v_track_1 : (Nat → Int32)) (v_track_2 : (Nat → Int32)) (v_track_3 : (Nat → Int32)) (v_track_4 : (Nat → Int32))  : Option (Int32 × Int32 × Int32 × Int32 × (Nat → Int32) × (Nat → Int32) × (Nat → Int32) × (Nat → Int32) × (Nat → Int32) × (Nat → Int32) × (Nat → Int32) × (Nat → Int32) × (Nat → Int32)) := (fX2_lastNight N 6 w2_seen_size w2_seen_night).bind (fun x_10 => (fX1_follow N w2_town_houses w2_town_front w2_town_downFor w2_town_kindOf w2_town_plotOf w2_town_row w2_town_standsOn a1 x_10 v_town_houses v_town_front v_town_downFor v_town_kindOf v_town_plotOf v_town_row v_town_standsOn v_track_0 v_track_1 v_track_2 v_track_3 v_track_4).bind (fun x_13 => (fX1_kindsByTracks N 6 w2_seen_size w2_seen_house x_13.2.2.2.2.2.2.2.1 x_13.2.2.2.2.2.2.2.2.1 x_13.2.2.2.2.2.2.2.2.2.1 x_13.2.2.2.2.2.2.2.2.2.2.1 x_13.2.2.2.2.2.2.2.2.2.2.2 w2_seen_night w2_seen_plot a1).bind (fun x_22 => some (x_22, x_13.1, x_13.2.1, x_13.2.2.1, x_13.2.2.2.1, x_13.2.2.2.2.1, x_13.2.2.2.2.2.1, x_13.2.2.2.2.2.2.1, x_13.2.2.2.2.2.2.2.1, x_13.2.2.2.2.2.2.2.2.1, x_13.2.2.2.2.2.2.2.2.2.1, x_13.2.2.2.2.2.2.2.2.2.2.1, x_13.2.2.2.2.2.2.2.2.2.2.2))))
set_option maxHeartbeats 4000000 in
set_option maxRecDepth 100000 in
theorem wX1_kindsOf {p : Program} {l : Launch} {e : Env} {R : Room} {s : State} {m : MethodId} {args : Array Value} {below : List Frame} {meth : Method} {c : Code} {cells slots : Nat} {Q : State → Prop} {D : va_G} {A : Nat → Prop} {cI cZ cG : ClassId} {q q_track q_town q2 q2_town q2_had q2_wishes q2_seen q2_seen_house q2_seen_plot q2_seen_night q_town_kindOf q_town_plotOf q_town_row q_town_standsOn q2_town_kindOf q2_town_plotOf q2_town_row q2_town_standsOn q_track_0 q_track_1 q_track_2 q_track_3 q_track_4 : Nat} {w2_nights : Int32} {w2_seen_size : Int32} {w2_seen_night : (Nat → Int32)} {v_town_houses : Int32} {v_town_front : Int32} {v_town_downFor : Int32} {w2_town_houses : Int32} {w2_town_front : Int32} {w2_town_downFor : Int32} {w2_town_kindOf : (Nat → Int32)} {v_town_kindOf : (Nat → Int32)} {w2_town_plotOf : (Nat → Int32)} {v_town_plotOf : (Nat → Int32)} {w2_town_row : (Nat → Int32)} {v_town_row : (Nat → Int32)} {w2_town_standsOn : (Nat → Int32)} {v_town_standsOn : (Nat → Int32)} {v_track_0 : (Nat → Int32)} {v_track_1 : (Nat → Int32)} {v_track_2 : (Nat → Int32)} {v_track_3 : (Nat → Int32)} {v_track_4 : (Nat → Int32)} {w2_seen_house : (Nat → Int32)} {w2_seen_plot : (Nat → Int32)} {a1 : Int32} {N : Nat} {ρ : Int32 × Int32 × Int32 × Int32 × (Nat → Int32) × (Nat → Int32) × (Nat → Int32) × (Nat → Int32) × (Nat → Int32) × (Nat → Int32) × (Nat → Int32) × (Nat → Int32) × (Nat → Int32)} (X : CX p s m args c cX1_kindsOf 3 RX1 D (TY cI cZ cG) A) (hrm : RM R 4 93 cells slots) (ret : ∀ (pc : Nat) (H : Heap) (locs : List Loc) (ls : Array Slot), decode cX1_kindsOf pc = .ok (.ireturn, 1) → WD D A (kwX1_kindsOf cI cZ cG q q_track q_town q2 q2_town q2_had q2_wishes q2_seen q2_seen_house q2_seen_plot q2_seen_night q_town_kindOf q_town_plotOf q_town_row q_town_standsOn q2_town_kindOf q2_town_plotOf q2_town_row q2_town_standsOn q_track_0 q_track_1 q_track_2 q_track_3 q_track_4 w2_nights w2_seen_size w2_seen_night (ρ.2.1) (ρ.2.2.1) (ρ.2.2.2.1) w2_town_houses w2_town_front w2_town_downFor w2_town_kindOf (ρ.2.2.2.2.1) w2_town_plotOf (ρ.2.2.2.2.2.1) w2_town_row (ρ.2.2.2.2.2.2.1) w2_town_standsOn (ρ.2.2.2.2.2.2.2.1) (ρ.2.2.2.2.2.2.2.2.1) (ρ.2.2.2.2.2.2.2.2.2.1) (ρ.2.2.2.2.2.2.2.2.2.2.1) (ρ.2.2.2.2.2.2.2.2.2.2.2.1) (ρ.2.2.2.2.2.2.2.2.2.2.2.2) w2_seen_house w2_seen_plot) s.heap H locs → W p l e R s m args below meth c H locs cells slots Q (F0 m pc ls [.int ρ.1])) (h : fX1_kindsOf N w2_seen_size w2_seen_night w2_town_houses w2_town_front w2_town_downFor w2_town_kindOf w2_town_plotOf w2_town_row w2_town_standsOn w2_seen_house w2_seen_plot a1 v_town_houses v_town_front v_town_downFor v_town_kindOf v_town_plotOf v_town_row v_town_standsOn v_track_0 v_track_1 v_track_2 v_track_3 v_track_4  = some ρ) (H : Heap) (locs : List Loc) (ls : Array Slot) (hw : WD D A (kwX1_kindsOf cI cZ cG q q_track q_town q2 q2_town q2_had q2_wishes q2_seen q2_seen_house q2_seen_plot q2_seen_night q_town_kindOf q_town_plotOf q_town_row q_town_standsOn q2_town_kindOf q2_town_plotOf q2_town_row q2_town_standsOn q_track_0 q_track_1 q_track_2 q_track_3 q_track_4 w2_nights w2_seen_size w2_seen_night v_town_houses v_town_front v_town_downFor w2_town_houses w2_town_front w2_town_downFor w2_town_kindOf v_town_kindOf w2_town_plotOf v_town_plotOf w2_town_row v_town_row w2_town_standsOn v_town_standsOn v_track_0 v_track_1 v_track_2 v_track_3 v_track_4 w2_seen_house w2_seen_plot) s.heap H locs) (hl : lv_has ls 3 [(0, .ref q), (1, .int a1), (2, .ref q2)]) : W p l e R s m args below meth c H locs cells slots Q (F0 m 0 ls []) := by
  have hx := X.1.1
  have hb := X.1.2.1
  unfold fX1_kindsOf at h
  refine lv_aload_n hx hb dX1_kindsOf_0 rfl (lv_at hl 0 rfl) ?_
  refine lv_iload_n hx hb dX1_kindsOf_1 rfl (lv_at hl 1 rfl) ?_
  refine lv_aload_n hx hb dX1_kindsOf_2 rfl (lv_at hl 2 rfl) ?_
  refine kget (ci := 5) (v := .ref q2_town) X hw iX5 1 rfl rfl 0 (by decide) tw_194 rfl dX1_kindsOf_3 ?_
  refine lv_aload_n hx hb dX1_kindsOf_6 rfl (lv_at hl 2 rfl) ?_
  refine kget (ci := 5) (v := .ref q2_seen) X hw iX5 1 rfl rfl 3 (by decide) tw_195 rfl dX1_kindsOf_7 ?_
  obtain ⟨x_10, hc_10, h⟩ := obd h
  refine ksV_i (ws2 := (kwX1_kindsOf cI cZ cG q q_track q_town q2 q2_town q2_had q2_wishes q2_seen q2_seen_house q2_seen_plot q2_seen_night q_town_kindOf q_town_plotOf q_town_row q_town_standsOn q2_town_kindOf q2_town_plotOf q2_town_row q2_town_standsOn q_track_0 q_track_1 q_track_2 q_track_3 q_track_4 w2_nights w2_seen_size w2_seen_night v_town_houses v_town_front v_town_downFor w2_town_houses w2_town_front w2_town_downFor w2_town_kindOf v_town_kindOf w2_town_plotOf v_town_plotOf w2_town_row v_town_row w2_town_standsOn v_town_standsOn v_track_0 v_track_1 v_track_2 v_track_3 v_track_4 w2_seen_house w2_seen_plot)) (nW := 22) (ci := 2) (As := []) (rest := [.ref q2_town, .int a1, .ref q]) X hw rfl rfl rfl (cX2_lastNight_ct l D cI cZ cG q2_seen q2_seen_house q2_seen_plot q2_seen_night 6 w2_seen_size w2_seen_night N x_10 hc_10 H.size) mX2_lastNight tw_196 (hrm.call (by decide) (by decide)) [2, 3] rfl (by decide) rfl (by decide) rfl ⟨rfl, ⟨rfl, ⟨rfl, ⟨rfl, ⟨rfl, ⟨rfl, ⟨rfl, ⟨rfl, ⟨rfl, ⟨rfl, ⟨rfl, ⟨rfl, ⟨rfl, ⟨rfl, ⟨rfl, ⟨rfl, ⟨rfl, ⟨rfl, ⟨rfl, ⟨rfl, trivial⟩⟩⟩⟩⟩⟩⟩⟩⟩⟩⟩⟩⟩⟩⟩⟩⟩⟩⟩⟩ rfl hl.1 rfl (Nat.le_of_ble_eq_true rfl) dX1_kindsOf_10 ⟨hrm.2.2.1, hrm.2.2.2⟩ (fun H locs hw => ?_)
  obtain ⟨x_13, hc_13, h⟩ := obd h
  refine ksV_v (ws2 := (kwX1_kindsOf cI cZ cG q q_track q_town q2 q2_town q2_had q2_wishes q2_seen q2_seen_house q2_seen_plot q2_seen_night q_town_kindOf q_town_plotOf q_town_row q_town_standsOn q2_town_kindOf q2_town_plotOf q2_town_row q2_town_standsOn q_track_0 q_track_1 q_track_2 q_track_3 q_track_4 w2_nights w2_seen_size w2_seen_night x_13.1 x_13.2.1 x_13.2.2.1 w2_town_houses w2_town_front w2_town_downFor w2_town_kindOf x_13.2.2.2.1 w2_town_plotOf x_13.2.2.2.2.1 w2_town_row x_13.2.2.2.2.2.1 w2_town_standsOn x_13.2.2.2.2.2.2.1 x_13.2.2.2.2.2.2.2.1 x_13.2.2.2.2.2.2.2.2.1 x_13.2.2.2.2.2.2.2.2.2.1 x_13.2.2.2.2.2.2.2.2.2.2.1 x_13.2.2.2.2.2.2.2.2.2.2.2 w2_seen_house w2_seen_plot)) (nW := 22) (ci := 1) (As := [.int a1, .ref q2_town, .int x_10]) (rest := []) X hw rfl rfl rfl (cX1_follow_ct l D cI cZ cG q q_track q_town q_town_kindOf q_town_plotOf q_town_row q_town_standsOn q2_town q2_town_kindOf q2_town_plotOf q2_town_row q2_town_standsOn q_track_0 q_track_1 q_track_2 q_track_3 q_track_4 v_town_houses v_town_front v_town_downFor w2_town_houses w2_town_front w2_town_downFor w2_town_kindOf v_town_kindOf w2_town_plotOf v_town_plotOf w2_town_row v_town_row w2_town_standsOn v_town_standsOn v_track_0 v_track_1 v_track_2 v_track_3 v_track_4 a1 x_10 N x_13 hc_13 H.size) mX1_follow tw_197 (hrm.call (by decide) (by decide)) [0, 4, 5, 6, 7, 8, 9, 10, 11, 12, 13, 14, 15, 16, 17, 18, 19] rfl (by decide) rfl (by decide) rfl ⟨rfl, ⟨rfl, ⟨rfl, ⟨rfl, ⟨rfl, trivial⟩⟩⟩⟩⟩ rfl hl.1 rfl (Nat.le_of_ble_eq_true rfl) dX1_kindsOf_13 ⟨hrm.2.2.1, hrm.2.2.2⟩ (fun H locs hw => ?_)
  refine lv_aload_n hx hb dX1_kindsOf_16 rfl (lv_at hl 0 rfl) ?_
  refine lv_iload_n hx hb dX1_kindsOf_17 rfl (lv_at hl 1 rfl) ?_
  refine lv_aload_n hx hb dX1_kindsOf_18 rfl (lv_at hl 2 rfl) ?_
  refine kget (ci := 5) (v := .ref q2_seen) X hw iX5 1 rfl rfl 3 (by decide) tw_195 rfl dX1_kindsOf_19 ?_
  obtain ⟨x_22, hc_22, h⟩ := obd h
  refine ksV_i (ws2 := (kwX1_kindsOf cI cZ cG q q_track q_town q2 q2_town q2_had q2_wishes q2_seen q2_seen_house q2_seen_plot q2_seen_night q_town_kindOf q_town_plotOf q_town_row q_town_standsOn q2_town_kindOf q2_town_plotOf q2_town_row q2_town_standsOn q_track_0 q_track_1 q_track_2 q_track_3 q_track_4 w2_nights w2_seen_size w2_seen_night x_13.1 x_13.2.1 x_13.2.2.1 w2_town_houses w2_town_front w2_town_downFor w2_town_kindOf x_13.2.2.2.1 w2_town_plotOf x_13.2.2.2.2.1 w2_town_row x_13.2.2.2.2.2.1 w2_town_standsOn x_13.2.2.2.2.2.2.1 x_13.2.2.2.2.2.2.2.1 x_13.2.2.2.2.2.2.2.2.1 x_13.2.2.2.2.2.2.2.2.2.1 x_13.2.2.2.2.2.2.2.2.2.2.1 x_13.2.2.2.2.2.2.2.2.2.2.2 w2_seen_house w2_seen_plot)) (nW := 22) (ci := 1) (As := [.int a1, .ref q2_seen]) (rest := []) X hw rfl rfl rfl (cX1_kindsByTracks_ct l D cI cZ cG q q_track q_town q2_seen q2_seen_house q2_seen_plot q2_seen_night q_track_0 q_track_1 q_track_2 q_track_3 q_track_4 6 w2_seen_size w2_seen_house x_13.2.2.2.2.2.2.2.1 x_13.2.2.2.2.2.2.2.2.1 x_13.2.2.2.2.2.2.2.2.2.1 x_13.2.2.2.2.2.2.2.2.2.2.1 x_13.2.2.2.2.2.2.2.2.2.2.2 w2_seen_night w2_seen_plot a1 N x_22 hc_22 H.size) mX1_kindsByTracks tw_198 (hrm.call (by decide) (by decide)) [0, 2, 20, 14, 15, 16, 17, 18, 19, 3, 21] rfl (by decide) rfl (by decide) rfl ⟨rfl, ⟨rfl, ⟨rfl, ⟨rfl, ⟨rfl, ⟨rfl, ⟨rfl, ⟨rfl, ⟨rfl, ⟨rfl, ⟨rfl, trivial⟩⟩⟩⟩⟩⟩⟩⟩⟩⟩⟩ rfl hl.1 rfl (Nat.le_of_ble_eq_true rfl) dX1_kindsOf_22 ⟨hrm.2.2.1, hrm.2.2.2⟩ (fun H locs hw => ?_)
  obtain rfl := Option.some.inj h
  exact ret _ _ _ _ dX1_kindsOf_25 hw
set_option maxHeartbeats 4000000 in
set_option maxRecDepth 100000 in
theorem cX1_kindsOf_ct (l : Launch) (D : va_G) (cI cZ cG : ClassId) (q q_track q_town q2 q2_town q2_had q2_wishes q2_seen q2_seen_house q2_seen_plot q2_seen_night q_town_kindOf q_town_plotOf q_town_row q_town_standsOn q2_town_kindOf q2_town_plotOf q2_town_row q2_town_standsOn q_track_0 q_track_1 q_track_2 q_track_3 q_track_4 : Nat)  (w2_nights : Int32) (w2_seen_size : Int32) (w2_seen_night : (Nat → Int32)) (v_town_houses : Int32) (v_town_front : Int32) (v_town_downFor : Int32) (w2_town_houses : Int32) (w2_town_front : Int32) (w2_town_downFor : Int32) (w2_town_kindOf : (Nat → Int32)) (v_town_kindOf : (Nat → Int32)) (w2_town_plotOf : (Nat → Int32)) (v_town_plotOf : (Nat → Int32)) (w2_town_row : (Nat → Int32)) (v_town_row : (Nat → Int32)) (w2_town_standsOn : (Nat → Int32)) (v_town_standsOn : (Nat → Int32)) (v_track_0 : (Nat → Int32)) (v_track_1 : (Nat → Int32)) (v_track_2 : (Nat → Int32)) (v_track_3 : (Nat → Int32)) (v_track_4 : (Nat → Int32)) (w2_seen_house : (Nat → Int32)) (w2_seen_plot : (Nat → Int32)) (a1 : Int32) (N : Nat) (ρ : Int32 × Int32 × Int32 × Int32 × (Nat → Int32) × (Nat → Int32) × (Nat → Int32) × (Nat → Int32) × (Nat → Int32) × (Nat → Int32) × (Nat → Int32) × (Nat → Int32) × (Nat → Int32)) (h : fX1_kindsOf N w2_seen_size w2_seen_night w2_town_houses w2_town_front w2_town_downFor w2_town_kindOf w2_town_plotOf w2_town_row w2_town_standsOn w2_seen_house w2_seen_plot a1 v_town_houses v_town_front v_town_downFor v_town_kindOf v_town_plotOf v_town_row v_town_standsOn v_track_0 v_track_1 v_track_2 v_track_3 v_track_4  = some ρ) (sz : Nat) : Met l yX1_kindsOf (wz yX1_kindsOf cX1_kindsOf 3 (some .int)) (cRm 4 93) (cPre D (TY cI cZ cG) [.ref q, .int a1, .ref q2] (kwX1_kindsOf cI cZ cG q q_track q_town q2 q2_town q2_had q2_wishes q2_seen q2_seen_house q2_seen_plot q2_seen_night q_town_kindOf q_town_plotOf q_town_row q_town_standsOn q2_town_kindOf q2_town_plotOf q2_town_row q2_town_standsOn q_track_0 q_track_1 q_track_2 q_track_3 q_track_4 w2_nights w2_seen_size w2_seen_night v_town_houses v_town_front v_town_downFor w2_town_houses w2_town_front w2_town_downFor w2_town_kindOf v_town_kindOf w2_town_plotOf v_town_plotOf w2_town_row v_town_row w2_town_standsOn v_town_standsOn v_track_0 v_track_1 v_track_2 v_track_3 v_track_4 w2_seen_house w2_seen_plot) sz) (cQi D (ρ.1) (kwX1_kindsOf cI cZ cG q q_track q_town q2 q2_town q2_had q2_wishes q2_seen q2_seen_house q2_seen_plot q2_seen_night q_town_kindOf q_town_plotOf q_town_row q_town_standsOn q2_town_kindOf q2_town_plotOf q2_town_row q2_town_standsOn q_track_0 q_track_1 q_track_2 q_track_3 q_track_4 w2_nights w2_seen_size w2_seen_night v_town_houses v_town_front v_town_downFor w2_town_houses w2_town_front w2_town_downFor w2_town_kindOf v_town_kindOf w2_town_plotOf v_town_plotOf w2_town_row v_town_row w2_town_standsOn v_town_standsOn v_track_0 v_track_1 v_track_2 v_track_3 v_track_4 w2_seen_house w2_seen_plot) (kwX1_kindsOf cI cZ cG q q_track q_town q2 q2_town q2_had q2_wishes q2_seen q2_seen_house q2_seen_plot q2_seen_night q_town_kindOf q_town_plotOf q_town_row q_town_standsOn q2_town_kindOf q2_town_plotOf q2_town_row q2_town_standsOn q_track_0 q_track_1 q_track_2 q_track_3 q_track_4 w2_nights w2_seen_size w2_seen_night (ρ.2.1) (ρ.2.2.1) (ρ.2.2.2.1) w2_town_houses w2_town_front w2_town_downFor w2_town_kindOf (ρ.2.2.2.2.1) w2_town_plotOf (ρ.2.2.2.2.2.1) w2_town_row (ρ.2.2.2.2.2.2.1) w2_town_standsOn (ρ.2.2.2.2.2.2.2.1) (ρ.2.2.2.2.2.2.2.2.1) (ρ.2.2.2.2.2.2.2.2.2.1) (ρ.2.2.2.2.2.2.2.2.2.2.1) (ρ.2.2.2.2.2.2.2.2.2.2.2.1) (ρ.2.2.2.2.2.2.2.2.2.2.2.2) w2_seen_house w2_seen_plot) sz) 0 0 (va_A (kwX1_kindsOf cI cZ cG q q_track q_town q2 q2_town q2_had q2_wishes q2_seen q2_seen_house q2_seen_plot q2_seen_night q_town_kindOf q_town_plotOf q_town_row q_town_standsOn q2_town_kindOf q2_town_plotOf q2_town_row q2_town_standsOn q_track_0 q_track_1 q_track_2 q_track_3 q_track_4 w2_nights w2_seen_size w2_seen_night v_town_houses v_town_front v_town_downFor w2_town_houses w2_town_front w2_town_downFor w2_town_kindOf v_town_kindOf w2_town_plotOf v_town_plotOf w2_town_row v_town_row w2_town_standsOn v_town_standsOn v_track_0 v_track_1 v_track_2 v_track_3 v_track_4 w2_seen_house w2_seen_plot) sz) :=
  mk_i (by decide) (Nat.le_of_ble_eq_true rfl) (fun X hrm ret hw hl => wX1_kindsOf X hrm ret h _ _ _ hw hl)
theorem dX1_has_0 : decode cX1_has 0 = .ok (.iload_n 0, 1) := by decide +kernel
theorem dX1_has_1 : decode cX1_has 1 = .ok (.iload_n 1, 1) := by decide +kernel
theorem dX1_has_2 : decode cX1_has 2 = .ok (.ishr, 1) := by decide +kernel
theorem dX1_has_3 : decode cX1_has 3 = .ok (.iconst 1, 1) := by decide +kernel
theorem dX1_has_4 : decode cX1_has 4 = .ok (.iand, 1) := by decide +kernel
theorem dX1_has_5 : decode cX1_has 5 = .ok (.ifCond .eq 7, 3) := by decide +kernel
theorem dX1_has_8 : decode cX1_has 8 = .ok (.iconst 1, 1) := by decide +kernel
theorem dX1_has_9 : decode cX1_has 9 = .ok (.goto 4, 3) := by decide +kernel
theorem dX1_has_12 : decode cX1_has 12 = .ok (.iconst 0, 1) := by decide +kernel
theorem dX1_has_13 : decode cX1_has 13 = .ok (.ireturn, 1) := by decide +kernel
abbrev kwX1_has (cI cZ cG : ClassId) : va_W := []
noncomputable def fX1_has (N : Nat) (a0 : Int32) (a1 : Int32)   : Option (Int32) := if ((a0 >>> (a1 &&& 31)) &&& (1 : Int32)) = 0 then (some (0 : Int32)) else (some (1 : Int32))
set_option maxHeartbeats 4000000 in
set_option maxRecDepth 100000 in
theorem wX1_has {p : Program} {l : Launch} {e : Env} {R : Room} {s : State} {m : MethodId} {args : Array Value} {below : List Frame} {meth : Method} {c : Code} {cells slots : Nat} {Q : State → Prop} {D : va_G} {A : Nat → Prop} {cI cZ cG : ClassId} {a0 : Int32} {a1 : Int32} {N : Nat} {ρ : Int32} (X : CX p s m args c cX1_has 2 RX1 D (TY cI cZ cG) A) (hrm : RM R 0 0 cells slots) (ret : ∀ (pc : Nat) (H : Heap) (locs : List Loc) (ls : Array Slot), narrow .boolean (.int ρ) = .int ρ → decode cX1_has pc = .ok (.ireturn, 1) → WD D A (kwX1_has cI cZ cG) s.heap H locs → W p l e R s m args below meth c H locs cells slots Q (F0 m pc ls [.int ρ])) (h : fX1_has N a0 a1   = some ρ) (H : Heap) (locs : List Loc) (ls : Array Slot) (hw : WD D A (kwX1_has cI cZ cG) s.heap H locs) (hl : lv_has ls 2 [(0, .int a0), (1, .int a1)]) : W p l e R s m args below meth c H locs cells slots Q (F0 m 0 ls []) := by
  have hx := X.1.1
  have hb := X.1.2.1
  unfold fX1_has at h
  refine lv_iload_n hx hb dX1_has_0 rfl (lv_at hl 0 rfl) ?_
  refine lv_iload_n hx hb dX1_has_1 rfl (lv_at hl 1 rfl) ?_
  refine lv_ishr hx hb dX1_has_2 ?_
  refine lv_iconst (v := (1 : Int32)) hx hb dX1_has_3 (by decide) ?_
  refine lv_iand hx hb dX1_has_4 ?_
  refine lv_if_eq (tgt := 12) hx hb dX1_has_5 (by decide) (fun c_5 => ?_) (fun c_5 => ?_)
  · have h := ift c_5 h
    refine lv_iconst (v := (0 : Int32)) hx hb dX1_has_12 (by decide) ?_
    obtain rfl := Option.some.inj h
    exact ret _ _ _ _ (show narrow .boolean (.int (0 : Int32)) = .int (0 : Int32) from rfl) dX1_has_13 hw
  · have h := iff_ c_5 h
    refine lv_iconst (v := (1 : Int32)) hx hb dX1_has_8 (by decide) ?_
    refine lv_goto (tgt := 13) hx hb dX1_has_9 (by decide) ?_
    obtain rfl := Option.some.inj h
    exact ret _ _ _ _ (show narrow .boolean (.int (1 : Int32)) = .int (1 : Int32) from rfl) dX1_has_13 hw
set_option maxHeartbeats 4000000 in
set_option maxRecDepth 100000 in
theorem cX1_has_ct (l : Launch) (D : va_G) (cI cZ cG : ClassId)    (a0 : Int32) (a1 : Int32) (N : Nat) (ρ : Int32) (h : fX1_has N a0 a1   = some ρ) (sz : Nat) : Met l yX1_has (wz yX1_has cX1_has 2 (some .boolean)) (cRm 0 0) (cPre D (TY cI cZ cG) [.int a0, .int a1] (kwX1_has cI cZ cG) sz) (cQi D (ρ) (kwX1_has cI cZ cG) (kwX1_has cI cZ cG) sz) 0 0 (va_A (kwX1_has cI cZ cG) sz) :=
  mk_z (by decide) (Nat.le_of_ble_eq_true rfl) (fun X hrm ret hw hl => wX1_has X hrm ret h _ _ _ hw hl)
