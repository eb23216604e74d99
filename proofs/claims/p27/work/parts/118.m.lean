theorem dX9_rings_0 : decode cX9_rings 0 = .ok (.aload_n 0, 1) := by decide +kernel
theorem dX9_rings_1 : decode cX9_rings 1 = .ok (.invokevirtual 158, 3) := by decide +kernel
theorem dX9_rings_4 : decode cX9_rings 4 = .ok (.ifCond .eq 6, 3) := by decide +kernel
theorem dX9_rings_7 : decode cX9_rings 7 = .ok (.bipush (-103), 2) := by decide +kernel
theorem dX9_rings_9 : decode cX9_rings 9 = .ok (.ireturn, 1) := by decide +kernel
theorem dX9_rings_10 : decode cX9_rings 10 = .ok (.aload_n 0, 1) := by decide +kernel
theorem dX9_rings_11 : decode cX9_rings 11 = .ok (.invokevirtual 188, 3) := by decide +kernel
theorem dX9_rings_14 : decode cX9_rings 14 = .ok (.aload_n 0, 1) := by decide +kernel
theorem dX9_rings_15 : decode cX9_rings 15 = .ok (.getfield 233, 3) := by decide +kernel
theorem dX9_rings_18 : decode cX9_rings 18 = .ok (.ireturn, 1) := by decide +kernel
abbrev kwX9_rings (cI cZ cG : ClassId) (q q_page q_worths q_kinds q_likes q_had q_plots q_row q_plotsThen q_rowThen q_traded q_points q_ringLong q_wishes q_order q_bestOrder q_sights q_ways q_keptKinds q_keptPlots q_keptRow q_keptHad q_keptWishes q_keptSights : Nat) (v_pageMany : Int32) (v_houses : Int32) (v_nights : Int32) (v_squaresRead : Int32) (v_front : Int32) (v_down : Int32) (v_frontThen : Int32) (v_downThen : Int32) (v_ringsMany : Int32) (v_wishesMany : Int32) (v_ordersDone : Int32) (v_seenMany : Int32) (v_seedNow : Int32) (v_keptSquare : Int32) (v_keptFront : Int32) (v_keptDown : Int32) (v_keptNights : Int32) (v_keptWishesMany : Int32) (v_keptSeen : Int32) (v_hash : Int64) (v_traded : (Nat → Int32)) (v_plots : (Nat → Int32)) (v_likes : (Nat → Int32)) (v_points : (Nat → Int32)) (v_ringLong : (Nat → Int32)) : va_W := [(q, .inr (9, [.ref q_page, .int v_pageMany, .int v_houses, .int v_nights, .int v_squaresRead, .ref q_worths, .ref q_kinds, .ref q_likes, .ref q_had, .ref q_plots, .ref q_row, .int v_front, .int v_down, .ref q_plotsThen, .ref q_rowThen, .int v_frontThen, .int v_downThen, .ref q_traded, .ref q_points, .int v_ringsMany, .ref q_ringLong, .int v_wishesMany, .ref q_wishes, .int v_ordersDone, .ref q_order, .ref q_bestOrder, .int v_seenMany, .ref q_sights, .ref q_ways, .int v_seedNow, .int v_keptSquare, .int v_keptFront, .int v_keptDown, .int v_keptNights, .int v_keptWishesMany, .int v_keptSeen, .ref q_keptKinds, .ref q_keptPlots, .ref q_keptRow, .ref q_keptHad, .ref q_keptWishes, .ref q_keptSights, .long v_hash])), (q_traded, .inl (cI, 6, .inl v_traded)), (q_plots, .inl (cI, 6, .inl v_plots)), (q_likes, .inl (cI, 6, .inl v_likes)), (q_points, .inl (cI, 6, .inl v_points)), (q_ringLong, .inl (cI, 6, .inl v_ringLong))]
noncomputable def fX9_rings (N : Nat) (v_houses : Int32) (v_plots : (Nat → Int32)) (v_likes : (Nat → Int32)) (v_ringsMany : Int32) (v_traded : (Nat → Int32)) (v_points : (Nat → Int32)) (v_ringLong : (Nat → Int32))  : Option (Int32 × Int32 × (Nat → Int32) × (Nat → Int32) × (Nat → Int32)) := (fX9_lacks N v_houses).bind (fun x_1 => if x_1 = 0 then ((fX9_trade N v_houses v_plots v_likes v_ringsMany v_traded v_points v_ringLong).bind (fun x_11 => some (x_11.1, x_11.1, x_11.2.1, x_11.2.2.1, x_11.2.2.2))) else (some ((-103 : Int32), v_ringsMany, v_traded, v_points, v_ringLong)))
set_option maxHeartbeats 4000000 in
set_option maxRecDepth 100000 in
theorem wX9_rings {p : Program} {l : Launch} {e : Env} {R : Room} {s : State} {m : MethodId} {args : Array Value} {below : List Frame} {meth : Method} {c : Code} {cells slots : Nat} {Q : State → Prop} {D : va_G} {A : Nat → Prop} {cI cZ cG : ClassId} {q q_page q_worths q_kinds q_likes q_had q_plots q_row q_plotsThen q_rowThen q_traded q_points q_ringLong q_wishes q_order q_bestOrder q_sights q_ways q_keptKinds q_keptPlots q_keptRow q_keptHad q_keptWishes q_keptSights : Nat} {v_pageMany : Int32} {v_houses : Int32} {v_nights : Int32} {v_squaresRead : Int32} {v_front : Int32} {v_down : Int32} {v_frontThen : Int32} {v_downThen : Int32} {v_ringsMany : Int32} {v_wishesMany : Int32} {v_ordersDone : Int32} {v_seenMany : Int32} {v_seedNow : Int32} {v_keptSquare : Int32} {v_keptFront : Int32} {v_keptDown : Int32} {v_keptNights : Int32} {v_keptWishesMany : Int32} {v_keptSeen : Int32} {v_hash : Int64} {v_traded : (Nat → Int32)} {v_plots : (Nat → Int32)} {v_likes : (Nat → Int32)} {v_points : (Nat → Int32)} {v_ringLong : (Nat → Int32)} {N : Nat} {ρ : Int32 × Int32 × (Nat → Int32) × (Nat → Int32) × (Nat → Int32)} (X : CX p s m args c cX9_rings 1 RX9 D (TY cI cZ cG) A) (hrm : RM R 3 67 cells slots) (ret : ∀ (pc : Nat) (H : Heap) (locs : List Loc) (ls : Array Slot), decode cX9_rings pc = .ok (.ireturn, 1) → WD D A (kwX9_rings cI cZ cG q q_page q_worths q_kinds q_likes q_had q_plots q_row q_plotsThen q_rowThen q_traded q_points q_ringLong q_wishes q_order q_bestOrder q_sights q_ways q_keptKinds q_keptPlots q_keptRow q_keptHad q_keptWishes q_keptSights v_pageMany v_houses v_nights v_squaresRead v_front v_down v_frontThen v_downThen (ρ.2.1) v_wishesMany v_ordersDone v_seenMany v_seedNow v_keptSquare v_keptFront v_keptDown v_keptNights v_keptWishesMany v_keptSeen v_hash (ρ.2.2.1) v_plots v_likes (ρ.2.2.2.1) (ρ.2.2.2.2)) s.heap H locs → W p l e R s m args below meth c H locs cells slots Q (F0 m pc ls [.int ρ.1])) (h : fX9_rings N v_houses v_plots v_likes v_ringsMany v_traded v_points v_ringLong  = some ρ) (H : Heap) (locs : List Loc) (ls : Array Slot) (hw : WD D A (kwX9_rings cI cZ cG q q_page q_worths q_kinds q_likes q_had q_plots q_row q_plotsThen q_rowThen q_traded q_points q_ringLong q_wishes q_order q_bestOrder q_sights q_ways q_keptKinds q_keptPlots q_keptRow q_keptHad q_keptWishes q_keptSights v_pageMany v_houses v_nights v_squaresRead v_front v_down v_frontThen v_downThen v_ringsMany v_wishesMany v_ordersDone v_seenMany v_seedNow v_keptSquare v_keptFront v_keptDown v_keptNights v_keptWishesMany v_keptSeen v_hash v_traded v_plots v_likes v_points v_ringLong) s.heap H locs) (hl : lv_has ls 1 [(0, .ref q)]) : W p l e R s m args below meth c H locs cells slots Q (F0 m 0 ls []) := by
  have hx := X.1.1
  have hb := X.1.2.1
  unfold fX9_rings at h
  refine lv_aload_n hx hb dX9_rings_0 rfl (lv_at hl 0 rfl) ?_
  obtain ⟨x_1, hc_1, h⟩ := obd h
  refine ksV_i (ws2 := (kwX9_rings cI cZ cG q q_page q_worths q_kinds q_likes q_had q_plots q_row q_plotsThen q_rowThen q_traded q_points q_ringLong q_wishes q_order q_bestOrder q_sights q_ways q_keptKinds q_keptPlots q_keptRow q_keptHad q_keptWishes q_keptSights v_pageMany v_houses v_nights v_squaresRead v_front v_down v_frontThen v_downThen v_ringsMany v_wishesMany v_ordersDone v_seenMany v_seedNow v_keptSquare v_keptFront v_keptDown v_keptNights v_keptWishesMany v_keptSeen v_hash v_traded v_plots v_likes v_points v_ringLong)) (nW := 6) (ci := 9) (As := []) (rest := []) X hw rfl rfl rfl (cX9_lacks_ct l D cI cZ cG q q_page q_worths q_kinds q_likes q_had q_plots q_row q_plotsThen q_rowThen q_traded q_points q_ringLong q_wishes q_order q_bestOrder q_sights q_ways q_keptKinds q_keptPlots q_keptRow q_keptHad q_keptWishes q_keptSights v_pageMany v_houses v_nights v_squaresRead v_front v_down v_frontThen v_downThen v_ringsMany v_wishesMany v_ordersDone v_seenMany v_seedNow v_keptSquare v_keptFront v_keptDown v_keptNights v_keptWishesMany v_keptSeen v_hash N x_1 hc_1 H.size) mX9_lacks tw_683 (hrm.call (by decide) (by decide)) [0] rfl (by decide) rfl (by decide) rfl ⟨rfl, ⟨rfl, ⟨rfl, ⟨rfl, ⟨rfl, trivial⟩⟩⟩⟩⟩ rfl hl.1 rfl (Nat.le_of_ble_eq_true rfl) dX9_rings_1 ⟨hrm.2.2.1, hrm.2.2.2⟩ (fun H locs hw => ?_)
  refine lv_if_eq (tgt := 10) hx hb dX9_rings_4 (by decide) (fun c_4 => ?_) (fun c_4 => ?_)
  · have h := ift c_4 h
    refine lv_aload_n hx hb dX9_rings_10 rfl (lv_at hl 0 rfl) ?_
    obtain ⟨x_11, hc_11, h⟩ := obd h
    refine ksV_v (ws2 := (kwX9_rings cI cZ cG q q_page q_worths q_kinds q_likes q_had q_plots q_row q_plotsThen q_rowThen q_traded q_points q_ringLong q_wishes q_order q_bestOrder q_sights q_ways q_keptKinds q_keptPlots q_keptRow q_keptHad q_keptWishes q_keptSights v_pageMany v_houses v_nights v_squaresRead v_front v_down v_frontThen v_downThen x_11.1 v_wishesMany v_ordersDone v_seenMany v_seedNow v_keptSquare v_keptFront v_keptDown v_keptNights v_keptWishesMany v_keptSeen v_hash x_11.2.1 v_plots v_likes x_11.2.2.1 x_11.2.2.2)) (nW := 6) (ci := 9) (As := []) (rest := []) X hw rfl rfl rfl (cX9_trade_ct l D cI cZ cG q q_page q_worths q_kinds q_likes q_had q_plots q_row q_plotsThen q_rowThen q_traded q_points q_ringLong q_wishes q_order q_bestOrder q_sights q_ways q_keptKinds q_keptPlots q_keptRow q_keptHad q_keptWishes q_keptSights v_pageMany v_houses v_nights v_squaresRead v_front v_down v_frontThen v_downThen v_ringsMany v_wishesMany v_ordersDone v_seenMany v_seedNow v_keptSquare v_keptFront v_keptDown v_keptNights v_keptWishesMany v_keptSeen v_hash v_traded v_plots v_likes v_points v_ringLong N x_11 hc_11 H.size) mX9_trade tw_752 (hrm.call (by decide) (by decide)) [0, 1, 2, 3, 4, 5] rfl (by decide) rfl (by decide) rfl trivial rfl hl.1 rfl (Nat.le_of_ble_eq_true rfl) dX9_rings_11 ⟨hrm.2.2.1, hrm.2.2.2⟩ (fun H locs hw => ?_)
    refine lv_aload_n hx hb dX9_rings_14 rfl (lv_at hl 0 rfl) ?_
    refine kget (ci := 9) (v := .int x_11.1) X hw iX9 0 rfl rfl 19 (by decide) tw_725 rfl dX9_rings_15 ?_
    obtain rfl := Option.some.inj h
    exact ret _ _ _ _ dX9_rings_18 hw
  · have h := iff_ c_4 h
    refine lv_bipush (v := (-103 : Int32)) hx hb dX9_rings_7 (by decide) ?_
    obtain rfl := Option.some.inj h
    exact ret _ _ _ _ dX9_rings_9 hw
set_option maxHeartbeats 4000000 in
set_option maxRecDepth 100000 in
theorem cX9_rings_ct (l : Launch) (D : va_G) (cI cZ cG : ClassId) (q q_page q_worths q_kinds q_likes q_had q_plots q_row q_plotsThen q_rowThen q_traded q_points q_ringLong q_wishes q_order q_bestOrder q_sights q_ways q_keptKinds q_keptPlots q_keptRow q_keptHad q_keptWishes q_keptSights : Nat)  (v_pageMany : Int32) (v_houses : Int32) (v_nights : Int32) (v_squaresRead : Int32) (v_front : Int32) (v_down : Int32) (v_frontThen : Int32) (v_downThen : Int32) (v_ringsMany : Int32) (v_wishesMany : Int32) (v_ordersDone : Int32) (v_seenMany : Int32) (v_seedNow : Int32) (v_keptSquare : Int32) (v_keptFront : Int32) (v_keptDown : Int32) (v_keptNights : Int32) (v_keptWishesMany : Int32) (v_keptSeen : Int32) (v_hash : Int64) (v_traded : (Nat → Int32)) (v_plots : (Nat → Int32)) (v_likes : (Nat → Int32)) (v_points : (Nat → Int32)) (v_ringLong : (Nat → Int32))  (N : Nat) (ρ : Int32 × Int32 × (Nat → Int32) × (Nat → Int32) × (Nat → Int32)) (h : fX9_rings N v_houses v_plots v_likes v_ringsMany v_traded v_points v_ringLong  = some ρ) (sz : Nat) : Met l yX9_rings (wz yX9_rings cX9_rings 1 (some .int)) (cRm 3 67) (cPre D (TY cI cZ cG) [.ref q] (kwX9_rings cI cZ cG q q_page q_worths q_kinds q_likes q_had q_plots q_row q_plotsThen q_rowThen q_traded q_points q_ringLong q_wishes q_order q_bestOrder q_sights q_ways q_keptKinds q_keptPlots q_keptRow q_keptHad q_keptWishes q_keptSights v_pageMany v_houses v_nights v_squaresRead v_front v_down v_frontThen v_downThen v_ringsMany v_wishesMany v_ordersDone v_seenMany v_seedNow v_keptSquare v_keptFront v_keptDown v_keptNights v_keptWishesMany v_keptSeen v_hash v_traded v_plots v_likes v_points v_ringLong) sz) (cQi D (ρ.1) (kwX9_rings cI cZ cG q q_page q_worths q_kinds q_likes q_had q_plots q_row q_plotsThen q_rowThen q_traded q_points q_ringLong q_wishes q_order q_bestOrder q_sights q_ways q_keptKinds q_keptPlots q_keptRow q_keptHad q_keptWishes q_keptSights v_pageMany v_houses v_nights v_squaresRead v_front v_down v_frontThen v_downThen v_ringsMany v_wishesMany v_ordersDone v_seenMany v_seedNow v_keptSquare v_keptFront v_keptDown v_keptNights v_keptWishesMany v_keptSeen v_hash v_traded v_plots v_likes v_points v_ringLong) (kwX9_rings cI cZ cG q q_page q_worths q_kinds q_likes q_had q_plots q_row q_plotsThen q_rowThen q_traded q_points q_ringLong q_wishes q_order q_bestOrder q_sights q_ways q_keptKinds q_keptPlots q_keptRow q_keptHad q_keptWishes q_keptSights v_pageMany v_houses v_nights v_squaresRead v_front v_down v_frontThen v_downThen (ρ.2.1) v_wishesMany v_ordersDone v_seenMany v_seedNow v_keptSquare v_keptFront v_keptDown v_keptNights v_keptWishesMany v_keptSeen v_hash (ρ.2.2.1) v_plots v_likes (ρ.2.2.2.1) (ρ.2.2.2.2)) sz) 0 0 (va_A (kwX9_rings cI cZ cG q q_page q_worths q_kinds q_likes q_had q_plots q_row q_plotsThen q_rowThen q_traded q_points q_ringLong q_wishes q_order q_bestOrder q_sights q_ways q_keptKinds q_keptPlots q_keptRow q_keptHad q_keptWishes q_keptSights v_pageMany v_houses v_nights v_squaresRead v_front v_down v_frontThen v_downThen v_ringsMany v_wishesMany v_ordersDone v_seenMany v_seedNow v_keptSquare v_keptFront v_keptDown v_keptNights v_keptWishesMany v_keptSeen v_hash v_traded v_plots v_likes v_points v_ringLong) sz) :=
  mk_i (by decide) (Nat.le_of_ble_eq_true rfl) (fun X hrm ret hw hl => wX9_rings X hrm ret h _ _ _ hw hl)
theorem dX9_wish_0 : decode cX9_wish 0 = .ok (.aload_n 0, 1) := by decide +kernel
theorem dX9_wish_1 : decode cX9_wish 1 = .ok (.iload_n 1, 1) := by decide +kernel
theorem dX9_wish_2 : decode cX9_wish 2 = .ok (.invokevirtual 133, 3) := by decide +kernel
theorem dX9_wish_5 : decode cX9_wish 5 = .ok (.ifCond .eq 10, 3) := by decide +kernel
theorem dX9_wish_8 : decode cX9_wish 8 = .ok (.iload_n 2, 1) := by decide +kernel
theorem dX9_wish_9 : decode cX9_wish 9 = .ok (.invokestatic 201, 3) := by decide +kernel
theorem dX9_wish_12 : decode cX9_wish 12 = .ok (.ifCond .ne 6, 3) := by decide +kernel
theorem dX9_wish_15 : decode cX9_wish 15 = .ok (.bipush (-101), 2) := by decide +kernel
theorem dX9_wish_17 : decode cX9_wish 17 = .ok (.ireturn, 1) := by decide +kernel
theorem dX9_wish_18 : decode cX9_wish 18 = .ok (.iload_n 3, 1) := by decide +kernel
theorem dX9_wish_19 : decode cX9_wish 19 = .ok (.i2l, 1) := by decide +kernel
theorem dX9_wish_20 : decode cX9_wish 20 = .ok (.lconst 1, 1) := by decide +kernel
theorem dX9_wish_21 : decode cX9_wish 21 = .ok (.ldc2_w 248, 3) := by decide +kernel
theorem dX9_wish_24 : decode cX9_wish 24 = .ok (.invokestatic 85, 3) := by decide +kernel
theorem dX9_wish_27 : decode cX9_wish 27 = .ok (.ifCond .ne 6, 3) := by decide +kernel
theorem dX9_wish_30 : decode cX9_wish 30 = .ok (.bipush (-102), 2) := by decide +kernel
theorem dX9_wish_32 : decode cX9_wish 32 = .ok (.ireturn, 1) := by decide +kernel
theorem dX9_wish_33 : decode cX9_wish 33 = .ok (.aload_n 0, 1) := by decide +kernel
theorem dX9_wish_34 : decode cX9_wish 34 = .ok (.getfield 124, 3) := by decide +kernel
theorem dX9_wish_37 : decode cX9_wish 37 = .ok (.iconst 5, 1) := by decide +kernel
theorem dX9_wish_38 : decode cX9_wish 38 = .ok (.if_icmp .ne 6, 3) := by decide +kernel
theorem dX9_wish_41 : decode cX9_wish 41 = .ok (.bipush (-104), 2) := by decide +kernel
theorem dX9_wish_43 : decode cX9_wish 43 = .ok (.ireturn, 1) := by decide +kernel
theorem dX9_wish_44 : decode cX9_wish 44 = .ok (.aload_n 0, 1) := by decide +kernel
theorem dX9_wish_45 : decode cX9_wish 45 = .ok (.getfield 46, 3) := by decide +kernel
theorem dX9_wish_48 : decode cX9_wish 48 = .ok (.iconst 3, 1) := by decide +kernel
theorem dX9_wish_49 : decode cX9_wish 49 = .ok (.aload_n 0, 1) := by decide +kernel
theorem dX9_wish_50 : decode cX9_wish 50 = .ok (.getfield 124, 3) := by decide +kernel
theorem dX9_wish_53 : decode cX9_wish 53 = .ok (.imul, 1) := by decide +kernel
theorem dX9_wish_54 : decode cX9_wish 54 = .ok (.iload_n 1, 1) := by decide +kernel
theorem dX9_wish_55 : decode cX9_wish 55 = .ok (.iastore, 1) := by decide +kernel
theorem dX9_wish_56 : decode cX9_wish 56 = .ok (.aload_n 0, 1) := by decide +kernel
theorem dX9_wish_57 : decode cX9_wish 57 = .ok (.getfield 46, 3) := by decide +kernel
theorem dX9_wish_60 : decode cX9_wish 60 = .ok (.iconst 3, 1) := by decide +kernel
theorem dX9_wish_61 : decode cX9_wish 61 = .ok (.aload_n 0, 1) := by decide +kernel
theorem dX9_wish_62 : decode cX9_wish 62 = .ok (.getfield 124, 3) := by decide +kernel
theorem dX9_wish_65 : decode cX9_wish 65 = .ok (.imul, 1) := by decide +kernel
theorem dX9_wish_66 : decode cX9_wish 66 = .ok (.iconst 1, 1) := by decide +kernel
theorem dX9_wish_67 : decode cX9_wish 67 = .ok (.iadd, 1) := by decide +kernel
theorem dX9_wish_68 : decode cX9_wish 68 = .ok (.iload_n 2, 1) := by decide +kernel
theorem dX9_wish_69 : decode cX9_wish 69 = .ok (.iastore, 1) := by decide +kernel
theorem dX9_wish_70 : decode cX9_wish 70 = .ok (.aload_n 0, 1) := by decide +kernel
theorem dX9_wish_71 : decode cX9_wish 71 = .ok (.getfield 46, 3) := by decide +kernel
theorem dX9_wish_74 : decode cX9_wish 74 = .ok (.iconst 3, 1) := by decide +kernel
theorem dX9_wish_75 : decode cX9_wish 75 = .ok (.aload_n 0, 1) := by decide +kernel
theorem dX9_wish_76 : decode cX9_wish 76 = .ok (.getfield 124, 3) := by decide +kernel
theorem dX9_wish_79 : decode cX9_wish 79 = .ok (.imul, 1) := by decide +kernel
theorem dX9_wish_80 : decode cX9_wish 80 = .ok (.iconst 2, 1) := by decide +kernel
theorem dX9_wish_81 : decode cX9_wish 81 = .ok (.iadd, 1) := by decide +kernel
theorem dX9_wish_82 : decode cX9_wish 82 = .ok (.iload_n 3, 1) := by decide +kernel
theorem dX9_wish_83 : decode cX9_wish 83 = .ok (.iastore, 1) := by decide +kernel
theorem dX9_wish_84 : decode cX9_wish 84 = .ok (.aload_n 0, 1) := by decide +kernel
theorem dX9_wish_85 : decode cX9_wish 85 = .ok (.dup, 1) := by decide +kernel
theorem dX9_wish_86 : decode cX9_wish 86 = .ok (.getfield 124, 3) := by decide +kernel
theorem dX9_wish_89 : decode cX9_wish 89 = .ok (.iconst 1, 1) := by decide +kernel
theorem dX9_wish_90 : decode cX9_wish 90 = .ok (.iadd, 1) := by decide +kernel
theorem dX9_wish_91 : decode cX9_wish 91 = .ok (.putfield 124, 3) := by decide +kernel
theorem dX9_wish_94 : decode cX9_wish 94 = .ok (.aload_n 0, 1) := by decide +kernel
theorem dX9_wish_95 : decode cX9_wish 95 = .ok (.getfield 124, 3) := by decide +kernel
theorem dX9_wish_98 : decode cX9_wish 98 = .ok (.ireturn, 1) := by decide +kernel
abbrev kwX9_wish (cI cZ cG : ClassId) (q q_page q_worths q_kinds q_likes q_had q_plots q_row q_plotsThen q_rowThen q_traded q_points q_ringLong q_wishes q_order q_bestOrder q_sights q_ways q_keptKinds q_keptPlots q_keptRow q_keptHad q_keptWishes q_keptSights : Nat) (v_pageMany : Int32) (v_houses : Int32) (v_nights : Int32) (v_squaresRead : Int32) (v_front : Int32) (v_down : Int32) (v_frontThen : Int32) (v_downThen : Int32) (v_ringsMany : Int32) (v_wishesMany : Int32) (v_ordersDone : Int32) (v_seenMany : Int32) (v_seedNow : Int32) (v_keptSquare : Int32) (v_keptFront : Int32) (v_keptDown : Int32) (v_keptNights : Int32) (v_keptWishesMany : Int32) (v_keptSeen : Int32) (v_hash : Int64) (v_wishes : (Nat → Int32)) : va_W := [(q, .inr (9, [.ref q_page, .int v_pageMany, .int v_houses, .int v_nights, .int v_squaresRead, .ref q_worths, .ref q_kinds, .ref q_likes, .ref q_had, .ref q_plots, .ref q_row, .int v_front, .int v_down, .ref q_plotsThen, .ref q_rowThen, .int v_frontThen, .int v_downThen, .ref q_traded, .ref q_points, .int v_ringsMany, .ref q_ringLong, .int v_wishesMany, .ref q_wishes, .int v_ordersDone, .ref q_order, .ref q_bestOrder, .int v_seenMany, .ref q_sights, .ref q_ways, .int v_seedNow, .int v_keptSquare, .int v_keptFront, .int v_keptDown, .int v_keptNights, .int v_keptWishesMany, .int v_keptSeen, .ref q_keptKinds, .ref q_keptPlots, .ref q_keptRow, .ref q_keptHad, .ref q_keptWishes, .ref q_keptSights, .long v_hash])), (q_wishes, .inl (cI, 15, .inl v_wishes))]
noncomputable def fX9_wish (N : Nat) (v_houses : Int32) (a1 : Int32) (a2 : Int32) (a3 : Int32) (v_wishesMany : Int32) (v_wishes : (Nat → Int32))  : Option (Int32 × Int32 × (Nat → Int32)) := (fX9_isHouse N v_houses a1).bind (fun x_2 => if x_2 = 0 then (some ((-101 : Int32), v_wishesMany, v_wishes)) else ((fX9_isPlot N a2).bind (fun x_9 => if x_9 = 0 then (some ((-101 : Int32), v_wishesMany, v_wishes)) else ((fX9_in N ((a3).toInt64) (1 : Int64) (40 : Int64)).bind (fun x_24 => if x_24 = 0 then (some ((-102 : Int32), v_wishesMany, v_wishes)) else (if v_wishesMany = (5 : Int32) then (some ((-104 : Int32), v_wishesMany, v_wishes)) else (if ((3 : Int32) * v_wishesMany) < 0 ∨ 15 ≤ (((3 : Int32) * v_wishesMany)).toNatClampNeg then none else (if (((3 : Int32) * v_wishesMany) + (1 : Int32)) < 0 ∨ 15 ≤ ((((3 : Int32) * v_wishesMany) + (1 : Int32))).toNatClampNeg then none else (if (((3 : Int32) * v_wishesMany) + (2 : Int32)) < 0 ∨ 15 ≤ ((((3 : Int32) * v_wishesMany) + (2 : Int32))).toNatClampNeg then none else (some ((v_wishesMany + (1 : Int32)), (v_wishesMany + (1 : Int32)), (upd (upd (upd v_wishes (((3 : Int32) * v_wishesMany)).toNatClampNeg a1) ((((3 : Int32) * v_wishesMany) + (1 : Int32))).toNatClampNeg a2) ((((3 : Int32) * v_wishesMany) + (2 : Int32))).toNatClampNeg a3))))))))))))
set_option maxHeartbeats 4000000 in
set_option maxRecDepth 100000 in
theorem wX9_wish {p : Program} {l : Launch} {e : Env} {R : Room} {s : State} {m : MethodId} {args : Array Value} {below : List Frame} {meth : Method} {c : Code} {cells slots : Nat} {Q : State → Prop} {D : va_G} {A : Nat → Prop} {cI cZ cG : ClassId} {q q_page q_worths q_kinds q_likes q_had q_plots q_row q_plotsThen q_rowThen q_traded q_points q_ringLong q_wishes q_order q_bestOrder q_sights q_ways q_keptKinds q_keptPlots q_keptRow q_keptHad q_keptWishes q_keptSights : Nat} {v_pageMany : Int32} {v_houses : Int32} {v_nights : Int32} {v_squaresRead : Int32} {v_front : Int32} {v_down : Int32} {v_frontThen : Int32} {v_downThen : Int32} {v_ringsMany : Int32} {v_wishesMany : Int32} {v_ordersDone : Int32} {v_seenMany : Int32} {v_seedNow : Int32} {v_keptSquare : Int32} {v_keptFront : Int32} {v_keptDown : Int32} {v_keptNights : Int32} {v_keptWishesMany : Int32} {v_keptSeen : Int32} {v_hash : Int64} {v_wishes : (Nat → Int32)} {a1 : Int32} {a2 : Int32} {a3 : Int32} {N : Nat} {ρ : Int32 × Int32 × (Nat → Int32)} (X : CX p s m args c cX9_wish 4 RX9 D (TY cI cZ cG) A) (hrm : RM R 2 46 cells slots) (ret : ∀ (pc : Nat) (H : Heap) (locs : List Loc) (ls : Array Slot), decode cX9_wish pc = .ok (.ireturn, 1) → WD D A (kwX9_wish cI cZ cG q q_page q_worths q_kinds q_likes q_had q_plots q_row q_plotsThen q_rowThen q_traded q_points q_ringLong q_wishes q_order q_bestOrder q_sights q_ways q_keptKinds q_keptPlots q_keptRow q_keptHad q_keptWishes q_keptSights v_pageMany v_houses v_nights v_squaresRead v_front v_down v_frontThen v_downThen v_ringsMany (ρ.2.1) v_ordersDone v_seenMany v_seedNow v_keptSquare v_keptFront v_keptDown v_keptNights v_keptWishesMany v_keptSeen v_hash (ρ.2.2)) s.heap H locs → W p l e R s m args below meth c H locs cells slots Q (F0 m pc ls [.int ρ.1])) (h : fX9_wish N v_houses a1 a2 a3 v_wishesMany v_wishes  = some ρ) (H : Heap) (locs : List Loc) (ls : Array Slot) (hw : WD D A (kwX9_wish cI cZ cG q q_page q_worths q_kinds q_likes q_had q_plots q_row q_plotsThen q_rowThen q_traded q_points q_ringLong q_wishes q_order q_bestOrder q_sights q_ways q_keptKinds q_keptPlots q_keptRow q_keptHad q_keptWishes q_keptSights v_pageMany v_houses v_nights v_squaresRead v_front v_down v_frontThen v_downThen v_ringsMany v_wishesMany v_ordersDone v_seenMany v_seedNow v_keptSquare v_keptFront v_keptDown v_keptNights v_keptWishesMany v_keptSeen v_hash v_wishes) s.heap H locs) (hl : lv_has ls 4 [(0, .ref q), (1, .int a1), (2, .int a2), (3, .int a3)]) : W p l e R s m args below meth c H locs cells slots Q (F0 m 0 ls []) := by
  have hx := X.1.1
  have hb := X.1.2.1
  unfold fX9_wish at h
  refine lv_aload_n hx hb dX9_wish_0 rfl (lv_at hl 0 rfl) ?_
  refine lv_iload_n hx hb dX9_wish_1 rfl (lv_at hl 1 rfl) ?_
  obtain ⟨x_2, hc_2, h⟩ := obd h
  refine ksV_i (ws2 := (kwX9_wish cI cZ cG q q_page q_worths q_kinds q_likes q_had q_plots q_row q_plotsThen q_rowThen q_traded q_points q_ringLong q_wishes q_order q_bestOrder q_sights q_ways q_keptKinds q_keptPlots q_keptRow q_keptHad q_keptWishes q_keptSights v_pageMany v_houses v_nights v_squaresRead v_front v_down v_frontThen v_downThen v_ringsMany v_wishesMany v_ordersDone v_seenMany v_seedNow v_keptSquare v_keptFront v_keptDown v_keptNights v_keptWishesMany v_keptSeen v_hash v_wishes)) (nW := 2) (ci := 9) (As := [.int a1]) (rest := []) X hw rfl rfl rfl (cX9_isHouse_ct l D cI cZ cG q q_page q_worths q_kinds q_likes q_had q_plots q_row q_plotsThen q_rowThen q_traded q_points q_ringLong q_wishes q_order q_bestOrder q_sights q_ways q_keptKinds q_keptPlots q_keptRow q_keptHad q_keptWishes q_keptSights v_pageMany v_houses v_nights v_squaresRead v_front v_down v_frontThen v_downThen v_ringsMany v_wishesMany v_ordersDone v_seenMany v_seedNow v_keptSquare v_keptFront v_keptDown v_keptNights v_keptWishesMany v_keptSeen v_hash a1 N x_2 hc_2 H.size) mX9_isHouse tw_647 (hrm.call (by decide) (by decide)) [0] rfl (by decide) rfl (by decide) rfl ⟨rfl, trivial⟩ rfl hl.1 rfl (Nat.le_of_ble_eq_true rfl) dX9_wish_2 ⟨hrm.2.2.1, hrm.2.2.2⟩ (fun H locs hw => ?_)
  refine lv_if_eq (tgt := 15) hx hb dX9_wish_5 (by decide) (fun c_5 => ?_) (fun c_5 => ?_)
  · have h := ift c_5 h
    refine lv_bipush (v := (-101 : Int32)) hx hb dX9_wish_15 (by decide) ?_
    obtain rfl := Option.some.inj h
    exact ret _ _ _ _ dX9_wish_17 hw
  · have h := iff_ c_5 h
    refine lv_iload_n hx hb dX9_wish_8 rfl (lv_at hl 2 rfl) ?_
    obtain ⟨x_9, hc_9, h⟩ := obd h
    refine ksS_i (ws2 := (kwX9_wish cI cZ cG q q_page q_worths q_kinds q_likes q_had q_plots q_row q_plotsThen q_rowThen q_traded q_points q_ringLong q_wishes q_order q_bestOrder q_sights q_ways q_keptKinds q_keptPlots q_keptRow q_keptHad q_keptWishes q_keptSights v_pageMany v_houses v_nights v_squaresRead v_front v_down v_frontThen v_downThen v_ringsMany v_wishesMany v_ordersDone v_seenMany v_seedNow v_keptSquare v_keptFront v_keptDown v_keptNights v_keptWishesMany v_keptSeen v_hash v_wishes)) (nW := 2) (As := [.int a2]) (rest := []) X hw (cX9_isPlot_ct l D cI cZ cG a2 N x_9 hc_9 H.size) mX9_isPlot tw_774 (hrm.call (by decide) (by decide)) [] rfl (by decide) rfl (by decide) rfl ⟨rfl, ⟨rfl, trivial⟩⟩ rfl hl.1 rfl (Nat.le_of_ble_eq_true rfl) dX9_wish_9 ⟨hrm.2.2.1, hrm.2.2.2⟩ (fun H locs hw => ?_)
    refine lv_if_ne (tgt := 18) hx hb dX9_wish_12 (by decide) (fun c_12 => ?_) (fun c_12 => ?_)
    · have h := iff_ c_12 h
      refine lv_iload_n hx hb dX9_wish_18 rfl (lv_at hl 3 rfl) ?_
      refine lv_i2l (v := ((a3).toInt64)) hx hb dX9_wish_19 rfl ?_
      refine lv_lconst (v := 1) hx hb dX9_wish_20 (by decide) ?_
      refine lv_ldc2 (v := (40 : Int64)) hx hb X.1.2.2.2.1 (X.1.2.2.2.2 _ tw_822) dX9_wish_21 ?_
      obtain ⟨x_24, hc_24, h⟩ := obd h
      refine ksS_i (ws2 := (kwX9_wish cI cZ cG q q_page q_worths q_kinds q_likes q_had q_plots q_row q_plotsThen q_rowThen q_traded q_points q_ringLong q_wishes q_order q_bestOrder q_sights q_ways q_keptKinds q_keptPlots q_keptRow q_keptHad q_keptWishes q_keptSights v_pageMany v_houses v_nights v_squaresRead v_front v_down v_frontThen v_downThen v_ringsMany v_wishesMany v_ordersDone v_seenMany v_seedNow v_keptSquare v_keptFront v_keptDown v_keptNights v_keptWishesMany v_keptSeen v_hash v_wishes)) (nW := 2) (As := [.long ((a3).toInt64), .long (1 : Int64), .long (40 : Int64)]) (rest := []) X hw (cX9_in_ct l D cI cZ cG ((a3).toInt64) (1 : Int64) (40 : Int64) N x_24 hc_24 H.size) mX9_in tw_599 (hrm.call (by decide) (by decide)) [] rfl (by decide) rfl (by decide) rfl ⟨rfl, ⟨rfl, trivial⟩⟩ rfl hl.1 rfl (Nat.le_of_ble_eq_true rfl) dX9_wish_24 ⟨hrm.2.2.1, hrm.2.2.2⟩ (fun H locs hw => ?_)
      refine lv_if_ne (tgt := 33) hx hb dX9_wish_27 (by decide) (fun c_27 => ?_) (fun c_27 => ?_)
      · have h := iff_ c_27 h
        refine lv_aload_n hx hb dX9_wish_33 rfl (lv_at hl 0 rfl) ?_
        refine kget (ci := 9) (v := .int v_wishesMany) X hw iX9 0 rfl rfl 21 (by decide) tw_629 rfl dX9_wish_34 ?_
        refine lv_iconst (v := (5 : Int32)) hx hb dX9_wish_37 (by decide) ?_
        refine lv_icmp_ne (tgt := 44) hx hb dX9_wish_38 (by decide) (fun c_38 => ?_) (fun c_38 => ?_)
        · have h := iff_ c_38 h
          refine lv_aload_n hx hb dX9_wish_44 rfl (lv_at hl 0 rfl) ?_
          refine kget (ci := 9) (v := .ref q_wishes) X hw iX9 0 rfl rfl 22 (by decide) tw_823 rfl dX9_wish_45 ?_
          refine lv_iconst (v := (3 : Int32)) hx hb dX9_wish_48 (by decide) ?_
          refine lv_aload_n hx hb dX9_wish_49 rfl (lv_at hl 0 rfl) ?_
          refine kget (ci := 9) (v := .int v_wishesMany) X hw iX9 0 rfl rfl 21 (by decide) tw_629 rfl dX9_wish_50 ?_
          refine lv_imul hx hb dX9_wish_53 ?_
          refine lv_iload_n hx hb dX9_wish_54 rfl (lv_at hl 1 rfl) ?_
          obtain ⟨g_55, h⟩ := gd h
          refine kiast X hw 1 rfl rfl g_55 dX9_wish_55 (fun H locs hw => ?_)
          have hw : WD D A (kwX9_wish cI cZ cG q q_page q_worths q_kinds q_likes q_had q_plots q_row q_plotsThen q_rowThen q_traded q_points q_ringLong q_wishes q_order q_bestOrder q_sights q_ways q_keptKinds q_keptPlots q_keptRow q_keptHad q_keptWishes q_keptSights v_pageMany v_houses v_nights v_squaresRead v_front v_down v_frontThen v_downThen v_ringsMany v_wishesMany v_ordersDone v_seenMany v_seedNow v_keptSquare v_keptFront v_keptDown v_keptNights v_keptWishesMany v_keptSeen v_hash (upd v_wishes (((3 : Int32) * v_wishesMany)).toNatClampNeg a1)) s.heap H locs := hw
          refine lv_aload_n hx hb dX9_wish_56 rfl (lv_at hl 0 rfl) ?_
          refine kget (ci := 9) (v := .ref q_wishes) X hw iX9 0 rfl rfl 22 (by decide) tw_823 rfl dX9_wish_57 ?_
          refine lv_iconst (v := (3 : Int32)) hx hb dX9_wish_60 (by decide) ?_
          refine lv_aload_n hx hb dX9_wish_61 rfl (lv_at hl 0 rfl) ?_
          refine kget (ci := 9) (v := .int v_wishesMany) X hw iX9 0 rfl rfl 21 (by decide) tw_629 rfl dX9_wish_62 ?_
          refine lv_imul hx hb dX9_wish_65 ?_
          refine lv_iconst (v := (1 : Int32)) hx hb dX9_wish_66 (by decide) ?_
          refine lv_iadd hx hb dX9_wish_67 ?_
          refine lv_iload_n hx hb dX9_wish_68 rfl (lv_at hl 2 rfl) ?_
          obtain ⟨g_69, h⟩ := gd h
          refine kiast X hw 1 rfl rfl g_69 dX9_wish_69 (fun H locs hw => ?_)
          have hw : WD D A (kwX9_wish cI cZ cG q q_page q_worths q_kinds q_likes q_had q_plots q_row q_plotsThen q_rowThen q_traded q_points q_ringLong q_wishes q_order q_bestOrder q_sights q_ways q_keptKinds q_keptPlots q_keptRow q_keptHad q_keptWishes q_keptSights v_pageMany v_houses v_nights v_squaresRead v_front v_down v_frontThen v_downThen v_ringsMany v_wishesMany v_ordersDone v_seenMany v_seedNow v_keptSquare v_keptFront v_keptDown v_keptNights v_keptWishesMany v_keptSeen v_hash (upd (upd v_wishes (((3 : Int32) * v_wishesMany)).toNatClampNeg a1) ((((3 : Int32) * v_wishesMany) + (1 : Int32))).toNatClampNeg a2)) s.heap H locs := hw
          refine lv_aload_n hx hb dX9_wish_70 rfl (lv_at hl 0 rfl) ?_
          refine kget (ci := 9) (v := .ref q_wishes) X hw iX9 0 rfl rfl 22 (by decide) tw_823 rfl dX9_wish_71 ?_
          refine lv_iconst (v := (3 : Int32)) hx hb dX9_wish_74 (by decide) ?_
          refine lv_aload_n hx hb dX9_wish_75 rfl (lv_at hl 0 rfl) ?_
          refine kget (ci := 9) (v := .int v_wishesMany) X hw iX9 0 rfl rfl 21 (by decide) tw_629 rfl dX9_wish_76 ?_
          refine lv_imul hx hb dX9_wish_79 ?_
          refine lv_iconst (v := (2 : Int32)) hx hb dX9_wish_80 (by decide) ?_
          refine lv_iadd hx hb dX9_wish_81 ?_
          refine lv_iload_n hx hb dX9_wish_82 rfl (lv_at hl 3 rfl) ?_
          obtain ⟨g_83, h⟩ := gd h
          refine kiast X hw 1 rfl rfl g_83 dX9_wish_83 (fun H locs hw => ?_)
          have hw : WD D A (kwX9_wish cI cZ cG q q_page q_worths q_kinds q_likes q_had q_plots q_row q_plotsThen q_rowThen q_traded q_points q_ringLong q_wishes q_order q_bestOrder q_sights q_ways q_keptKinds q_keptPlots q_keptRow q_keptHad q_keptWishes q_keptSights v_pageMany v_houses v_nights v_squaresRead v_front v_down v_frontThen v_downThen v_ringsMany v_wishesMany v_ordersDone v_seenMany v_seedNow v_keptSquare v_keptFront v_keptDown v_keptNights v_keptWishesMany v_keptSeen v_hash (upd (upd (upd v_wishes (((3 : Int32) * v_wishesMany)).toNatClampNeg a1) ((((3 : Int32) * v_wishesMany) + (1 : Int32))).toNatClampNeg a2) ((((3 : Int32) * v_wishesMany) + (2 : Int32))).toNatClampNeg a3)) s.heap H locs := hw
          refine lv_aload_n hx hb dX9_wish_84 rfl (lv_at hl 0 rfl) ?_
          refine lv_dup hx hb dX9_wish_85 rfl ?_
          refine kget (ci := 9) (v := .int v_wishesMany) X hw iX9 0 rfl rfl 21 (by decide) tw_629 rfl dX9_wish_86 ?_
          refine lv_iconst (v := (1 : Int32)) hx hb dX9_wish_89 (by decide) ?_
          refine lv_iadd hx hb dX9_wish_90 ?_
          refine kput (ci := 9) (v := .int (v_wishesMany + (1 : Int32))) (ty := .int) X hw iX9 tyX9_ok nmX9 0 rfl rfl 21 (by decide) tw_629 rfl rfl rfl rfl (Nat.le_of_ble_eq_true rfl) dX9_wish_91 (fun H locs hw => ?_)
          have hw : WD D A (kwX9_wish cI cZ cG q q_page q_worths q_kinds q_likes q_had q_plots q_row q_plotsThen q_rowThen q_traded q_points q_ringLong q_wishes q_order q_bestOrder q_sights q_ways q_keptKinds q_keptPlots q_keptRow q_keptHad q_keptWishes q_keptSights v_pageMany v_houses v_nights v_squaresRead v_front v_down v_frontThen v_downThen v_ringsMany (v_wishesMany + (1 : Int32)) v_ordersDone v_seenMany v_seedNow v_keptSquare v_keptFront v_keptDown v_keptNights v_keptWishesMany v_keptSeen v_hash (upd (upd (upd v_wishes (((3 : Int32) * v_wishesMany)).toNatClampNeg a1) ((((3 : Int32) * v_wishesMany) + (1 : Int32))).toNatClampNeg a2) ((((3 : Int32) * v_wishesMany) + (2 : Int32))).toNatClampNeg a3)) s.heap H locs := hw
          refine lv_aload_n hx hb dX9_wish_94 rfl (lv_at hl 0 rfl) ?_
          refine kget (ci := 9) (v := .int (v_wishesMany + (1 : Int32))) X hw iX9 0 rfl rfl 21 (by decide) tw_629 rfl dX9_wish_95 ?_
          obtain rfl := Option.some.inj h
          exact ret _ _ _ _ dX9_wish_98 hw
        · have h := ift c_38 h
          refine lv_bipush (v := (-104 : Int32)) hx hb dX9_wish_41 (by decide) ?_
          obtain rfl := Option.some.inj h
          exact ret _ _ _ _ dX9_wish_43 hw
      · have h := ift c_27 h
        refine lv_bipush (v := (-102 : Int32)) hx hb dX9_wish_30 (by decide) ?_
        obtain rfl := Option.some.inj h
        exact ret _ _ _ _ dX9_wish_32 hw
    · have h := ift c_12 h
      refine lv_bipush (v := (-101 : Int32)) hx hb dX9_wish_15 (by decide) ?_
      obtain rfl := Option.some.inj h
      exact ret _ _ _ _ dX9_wish_17 hw
set_option maxHeartbeats 4000000 in
set_option maxRecDepth 100000 in
theorem cX9_wish_ct (l : Launch) (D : va_G) (cI cZ cG : ClassId) (q q_page q_worths q_kinds q_likes q_had q_plots q_row q_plotsThen q_rowThen q_traded q_points q_ringLong q_wishes q_order q_bestOrder q_sights q_ways q_keptKinds q_keptPlots q_keptRow q_keptHad q_keptWishes q_keptSights : Nat)  (v_pageMany : Int32) (v_houses : Int32) (v_nights : Int32) (v_squaresRead : Int32) (v_front : Int32) (v_down : Int32) (v_frontThen : Int32) (v_downThen : Int32) (v_ringsMany : Int32) (v_wishesMany : Int32) (v_ordersDone : Int32) (v_seenMany : Int32) (v_seedNow : Int32) (v_keptSquare : Int32) (v_keptFront : Int32) (v_keptDown : Int32) (v_keptNights : Int32) (v_keptWishesMany : Int32) (v_keptSeen : Int32) (v_hash : Int64) (v_wishes : (Nat → Int32)) (a1 : Int32) (a2 : Int32) (a3 : Int32) (N : Nat) (ρ : Int32 × Int32 × (Nat → Int32)) (h : fX9_wish N v_houses a1 a2 a3 v_wishesMany v_wishes  = some ρ) (sz : Nat) : Met l yX9_wish (wz yX9_wish cX9_wish 4 (some .int)) (cRm 2 46) (cPre D (TY cI cZ cG) [.ref q, .int a1, .int a2, .int a3] (kwX9_wish cI cZ cG q q_page q_worths q_kinds q_likes q_had q_plots q_row q_plotsThen q_rowThen q_traded q_points q_ringLong q_wishes q_order q_bestOrder q_sights q_ways q_keptKinds q_keptPlots q_keptRow q_keptHad q_keptWishes q_keptSights v_pageMany v_houses v_nights v_squaresRead v_front v_down v_frontThen v_downThen v_ringsMany v_wishesMany v_ordersDone v_seenMany v_seedNow v_keptSquare v_keptFront v_keptDown v_keptNights v_keptWishesMany v_keptSeen v_hash v_wishes) sz) (cQi D (ρ.1) (kwX9_wish cI cZ cG q q_page q_worths q_kinds q_likes q_had q_plots q_row q_plotsThen q_rowThen q_traded q_points q_ringLong q_wishes q_order q_bestOrder q_sights q_ways q_keptKinds q_keptPlots q_keptRow q_keptHad q_keptWishes q_keptSights v_pageMany v_houses v_nights v_squaresRead v_front v_down v_frontThen v_downThen v_ringsMany v_wishesMany v_ordersDone v_seenMany v_seedNow v_keptSquare v_keptFront v_keptDown v_keptNights v_keptWishesMany v_keptSeen v_hash v_wishes) (kwX9_wish cI cZ cG q q_page q_worths q_kinds q_likes q_had q_plots q_row q_plotsThen q_rowThen q_traded q_points q_ringLong q_wishes q_order q_bestOrder q_sights q_ways q_keptKinds q_keptPlots q_keptRow q_keptHad q_keptWishes q_keptSights v_pageMany v_houses v_nights v_squaresRead v_front v_down v_frontThen v_downThen v_ringsMany (ρ.2.1) v_ordersDone v_seenMany v_seedNow v_keptSquare v_keptFront v_keptDown v_keptNights v_keptWishesMany v_keptSeen v_hash (ρ.2.2)) sz) 0 0 (va_A (kwX9_wish cI cZ cG q q_page q_worths q_kinds q_likes q_had q_plots q_row q_plotsThen q_rowThen q_traded q_points q_ringLong q_wishes q_order q_bestOrder q_sights q_ways q_keptKinds q_keptPlots q_keptRow q_keptHad q_keptWishes q_keptSights v_pageMany v_houses v_nights v_squaresRead v_front v_down v_frontThen v_downThen v_ringsMany v_wishesMany v_ordersDone v_seenMany v_seedNow v_keptSquare v_keptFront v_keptDown v_keptNights v_keptWishesMany v_keptSeen v_hash v_wishes) sz) :=
  mk_i (by decide) (Nat.le_of_ble_eq_true rfl) (fun X hrm ret hw hl => wX9_wish X hrm ret h _ _ _ hw hl)
theorem dX9_give_0 : decode cX9_give 0 = .ok (.aload_n 0, 1) := by decide +kernel
theorem dX9_give_1 : decode cX9_give 1 = .ok (.getfield 124, 3) := by decide +kernel
theorem dX9_give_4 : decode cX9_give 4 = .ok (.istore_n 1, 1) := by decide +kernel
theorem dX9_give_5 : decode cX9_give 5 = .ok (.aload_n 0, 1) := by decide +kernel
theorem dX9_give_6 : decode cX9_give 6 = .ok (.iconst 0, 1) := by decide +kernel
theorem dX9_give_7 : decode cX9_give 7 = .ok (.putfield 124, 3) := by decide +kernel
theorem dX9_give_10 : decode cX9_give 10 = .ok (.iload_n 1, 1) := by decide +kernel
theorem dX9_give_11 : decode cX9_give 11 = .ok (.ireturn, 1) := by decide +kernel
abbrev kwX9_give (cI cZ cG : ClassId) (q q_page q_worths q_kinds q_likes q_had q_plots q_row q_plotsThen q_rowThen q_traded q_points q_ringLong q_wishes q_order q_bestOrder q_sights q_ways q_keptKinds q_keptPlots q_keptRow q_keptHad q_keptWishes q_keptSights : Nat) (v_pageMany : Int32) (v_houses : Int32) (v_nights : Int32) (v_squaresRead : Int32) (v_front : Int32) (v_down : Int32) (v_frontThen : Int32) (v_downThen : Int32) (v_ringsMany : Int32) (v_wishesMany : Int32) (v_ordersDone : Int32) (v_seenMany : Int32) (v_seedNow : Int32) (v_keptSquare : Int32) (v_keptFront : Int32) (v_keptDown : Int32) (v_keptNights : Int32) (v_keptWishesMany : Int32) (v_keptSeen : Int32) (v_hash : Int64) : va_W := [(q, .inr (9, [.ref q_page, .int v_pageMany, .int v_houses, .int v_nights, .int v_squaresRead, .ref q_worths, .ref q_kinds, .ref q_likes, .ref q_had, .ref q_plots, .ref q_row, .int v_front, .int v_down, .ref q_plotsThen, .ref q_rowThen, .int v_frontThen, .int v_downThen, .ref q_traded, .ref q_points, .int v_ringsMany, .ref q_ringLong, .int v_wishesMany, .ref q_wishes, .int v_ordersDone, .ref q_order, .ref q_bestOrder, .int v_seenMany, .ref q_sights, .ref q_ways, .int v_seedNow, .int v_keptSquare, .int v_keptFront, .int v_keptDown, .int v_keptNights, .int v_keptWishesMany, .int v_keptSeen, .ref q_keptKinds, .ref q_keptPlots, .ref q_keptRow, .ref q_keptHad, .ref q_keptWishes, .ref q_keptSights, .long v_hash]))]
noncomputable def fX9_give (N : Nat) (v_wishesMany : Int32)  : Option (Int32 × Int32) := some (v_wishesMany, (0 : Int32))
set_option maxHeartbeats 4000000 in
set_option maxRecDepth 100000 in
theorem wX9_give {p : Program} {l : Launch} {e : Env} {R : Room} {s : State} {m : MethodId} {args : Array Value} {below : List Frame} {meth : Method} {c : Code} {cells slots : Nat} {Q : State → Prop} {D : va_G} {A : Nat → Prop} {cI cZ cG : ClassId} {q q_page q_worths q_kinds q_likes q_had q_plots q_row q_plotsThen q_rowThen q_traded q_points q_ringLong q_wishes q_order q_bestOrder q_sights q_ways q_keptKinds q_keptPlots q_keptRow q_keptHad q_keptWishes q_keptSights : Nat} {v_pageMany : Int32} {v_houses : Int32} {v_nights : Int32} {v_squaresRead : Int32} {v_front : Int32} {v_down : Int32} {v_frontThen : Int32} {v_downThen : Int32} {v_ringsMany : Int32} {v_wishesMany : Int32} {v_ordersDone : Int32} {v_seenMany : Int32} {v_seedNow : Int32} {v_keptSquare : Int32} {v_keptFront : Int32} {v_keptDown : Int32} {v_keptNights : Int32} {v_keptWishesMany : Int32} {v_keptSeen : Int32} {v_hash : Int64} {N : Nat} {ρ : Int32 × Int32} (X : CX p s m args c cX9_give 2 RX9 D (TY cI cZ cG) A) (hrm : RM R 0 0 cells slots) (ret : ∀ (pc : Nat) (H : Heap) (locs : List Loc) (ls : Array Slot), decode cX9_give pc = .ok (.ireturn, 1) → WD D A (kwX9_give cI cZ cG q q_page q_worths q_kinds q_likes q_had q_plots q_row q_plotsThen q_rowThen q_traded q_points q_ringLong q_wishes q_order q_bestOrder q_sights q_ways q_keptKinds q_keptPlots q_keptRow q_keptHad q_keptWishes q_keptSights v_pageMany v_houses v_nights v_squaresRead v_front v_down v_frontThen v_downThen v_ringsMany (ρ.2) v_ordersDone v_seenMany v_seedNow v_keptSquare v_keptFront v_keptDown v_keptNights v_keptWishesMany v_keptSeen v_hash) s.heap H locs → W p l e R s m args below meth c H locs cells slots Q (F0 m pc ls [.int ρ.1])) (h : fX9_give N v_wishesMany  = some ρ) (H : Heap) (locs : List Loc) (ls : Array Slot) (hw : WD D A (kwX9_give cI cZ cG q q_page q_worths q_kinds q_likes q_had q_plots q_row q_plotsThen q_rowThen q_traded q_points q_ringLong q_wishes q_order q_bestOrder q_sights q_ways q_keptKinds q_keptPlots q_keptRow q_keptHad q_keptWishes q_keptSights v_pageMany v_houses v_nights v_squaresRead v_front v_down v_frontThen v_downThen v_ringsMany v_wishesMany v_ordersDone v_seenMany v_seedNow v_keptSquare v_keptFront v_keptDown v_keptNights v_keptWishesMany v_keptSeen v_hash) s.heap H locs) (hl : lv_has ls 2 [(0, .ref q)]) : W p l e R s m args below meth c H locs cells slots Q (F0 m 0 ls []) := by
  have hx := X.1.1
  have hb := X.1.2.1
  unfold fX9_give at h
  refine lv_aload_n hx hb dX9_give_0 rfl (lv_at hl 0 rfl) ?_
  refine kget (ci := 9) (v := .int v_wishesMany) X hw iX9 0 rfl rfl 21 (by decide) tw_629 rfl dX9_give_1 ?_
  refine lv_istore_n (lv' := [(1, .int v_wishesMany), (0, .ref q)]) hx hb dX9_give_4 rfl hl (by decide) rfl (fun ls hl => ?_)
  refine lv_aload_n hx hb dX9_give_5 rfl (lv_at hl 1 rfl) ?_
  refine lv_iconst (v := (0 : Int32)) hx hb dX9_give_6 (by decide) ?_
  refine kput (ci := 9) (v := .int (0 : Int32)) (ty := .int) X hw iX9 tyX9_ok nmX9 0 rfl rfl 21 (by decide) tw_629 rfl rfl rfl rfl (Nat.le_of_ble_eq_true rfl) dX9_give_7 (fun H locs hw => ?_)
  have hw : WD D A (kwX9_give cI cZ cG q q_page q_worths q_kinds q_likes q_had q_plots q_row q_plotsThen q_rowThen q_traded q_points q_ringLong q_wishes q_order q_bestOrder q_sights q_ways q_keptKinds q_keptPlots q_keptRow q_keptHad q_keptWishes q_keptSights v_pageMany v_houses v_nights v_squaresRead v_front v_down v_frontThen v_downThen v_ringsMany (0 : Int32) v_ordersDone v_seenMany v_seedNow v_keptSquare v_keptFront v_keptDown v_keptNights v_keptWishesMany v_keptSeen v_hash) s.heap H locs := hw
  refine lv_iload_n hx hb dX9_give_10 rfl (lv_at hl 0 rfl) ?_
  obtain rfl := Option.some.inj h
  exact ret _ _ _ _ dX9_give_11 hw
set_option maxHeartbeats 4000000 in
set_option maxRecDepth 100000 in
theorem cX9_give_ct (l : Launch) (D : va_G) (cI cZ cG : ClassId) (q q_page q_worths q_kinds q_likes q_had q_plots q_row q_plotsThen q_rowThen q_traded q_points q_ringLong q_wishes q_order q_bestOrder q_sights q_ways q_keptKinds q_keptPlots q_keptRow q_keptHad q_keptWishes q_keptSights : Nat)  (v_pageMany : Int32) (v_houses : Int32) (v_nights : Int32) (v_squaresRead : Int32) (v_front : Int32) (v_down : Int32) (v_frontThen : Int32) (v_downThen : Int32) (v_ringsMany : Int32) (v_wishesMany : Int32) (v_ordersDone : Int32) (v_seenMany : Int32) (v_seedNow : Int32) (v_keptSquare : Int32) (v_keptFront : Int32) (v_keptDown : Int32) (v_keptNights : Int32) (v_keptWishesMany : Int32) (v_keptSeen : Int32) (v_hash : Int64)  (N : Nat) (ρ : Int32 × Int32) (h : fX9_give N v_wishesMany  = some ρ) (sz : Nat) : Met l yX9_give (wz yX9_give cX9_give 2 (some .int)) (cRm 0 0) (cPre D (TY cI cZ cG) [.ref q] (kwX9_give cI cZ cG q q_page q_worths q_kinds q_likes q_had q_plots q_row q_plotsThen q_rowThen q_traded q_points q_ringLong q_wishes q_order q_bestOrder q_sights q_ways q_keptKinds q_keptPlots q_keptRow q_keptHad q_keptWishes q_keptSights v_pageMany v_houses v_nights v_squaresRead v_front v_down v_frontThen v_downThen v_ringsMany v_wishesMany v_ordersDone v_seenMany v_seedNow v_keptSquare v_keptFront v_keptDown v_keptNights v_keptWishesMany v_keptSeen v_hash) sz) (cQi D (ρ.1) (kwX9_give cI cZ cG q q_page q_worths q_kinds q_likes q_had q_plots q_row q_plotsThen q_rowThen q_traded q_points q_ringLong q_wishes q_order q_bestOrder q_sights q_ways q_keptKinds q_keptPlots q_keptRow q_keptHad q_keptWishes q_keptSights v_pageMany v_houses v_nights v_squaresRead v_front v_down v_frontThen v_downThen v_ringsMany v_wishesMany v_ordersDone v_seenMany v_seedNow v_keptSquare v_keptFront v_keptDown v_keptNights v_keptWishesMany v_keptSeen v_hash) (kwX9_give cI cZ cG q q_page q_worths q_kinds q_likes q_had q_plots q_row q_plotsThen q_rowThen q_traded q_points q_ringLong q_wishes q_order q_bestOrder q_sights q_ways q_keptKinds q_keptPlots q_keptRow q_keptHad q_keptWishes q_keptSights v_pageMany v_houses v_nights v_squaresRead v_front v_down v_frontThen v_downThen v_ringsMany (ρ.2) v_ordersDone v_seenMany v_seedNow v_keptSquare v_keptFront v_keptDown v_keptNights v_keptWishesMany v_keptSeen v_hash) sz) 0 0 (va_A (kwX9_give cI cZ cG q q_page q_worths q_kinds q_likes q_had q_plots q_row q_plotsThen q_rowThen q_traded q_points q_ringLong q_wishes q_order q_bestOrder q_sights q_ways q_keptKinds q_keptPlots q_keptRow q_keptHad q_keptWishes q_keptSights v_pageMany v_houses v_nights v_squaresRead v_front v_down v_frontThen v_downThen v_ringsMany v_wishesMany v_ordersDone v_seenMany v_seedNow v_keptSquare v_keptFront v_keptDown v_keptNights v_keptWishesMany v_keptSeen v_hash) sz) :=
  mk_i (by decide) (Nat.le_of_ble_eq_true rfl) (fun X hrm ret hw hl => wX9_give X hrm ret h _ _ _ hw hl)
theorem dX9_comeTrue_0 : decode cX9_comeTrue 0 = .ok (.iconst 0, 1) := by decide +kernel
theorem dX9_comeTrue_1 : decode cX9_comeTrue 1 = .ok (.istore_n 1, 1) := by decide +kernel
theorem dX9_comeTrue_2 : decode cX9_comeTrue 2 = .ok (.iload_n 1, 1) := by decide +kernel
theorem dX9_comeTrue_3 : decode cX9_comeTrue 3 = .ok (.aload_n 0, 1) := by decide +kernel
theorem dX9_comeTrue_4 : decode cX9_comeTrue 4 = .ok (.getfield 112, 3) := by decide +kernel
theorem dX9_comeTrue_7 : decode cX9_comeTrue 7 = .ok (.if_icmp .ge 33, 3) := by decide +kernel
theorem dX9_comeTrue_10 : decode cX9_comeTrue 10 = .ok (.aload_n 0, 1) := by decide +kernel
theorem dX9_comeTrue_11 : decode cX9_comeTrue 11 = .ok (.getfield 31, 3) := by decide +kernel
theorem dX9_comeTrue_14 : decode cX9_comeTrue 14 = .ok (.aload_n 0, 1) := by decide +kernel
theorem dX9_comeTrue_15 : decode cX9_comeTrue 15 = .ok (.getfield 49, 3) := by decide +kernel
theorem dX9_comeTrue_18 : decode cX9_comeTrue 18 = .ok (.iload_n 1, 1) := by decide +kernel
theorem dX9_comeTrue_19 : decode cX9_comeTrue 19 = .ok (.iaload, 1) := by decide +kernel
theorem dX9_comeTrue_20 : decode cX9_comeTrue 20 = .ok (.iload_n 1, 1) := by decide +kernel
theorem dX9_comeTrue_21 : decode cX9_comeTrue 21 = .ok (.iastore, 1) := by decide +kernel
theorem dX9_comeTrue_22 : decode cX9_comeTrue 22 = .ok (.aload_n 0, 1) := by decide +kernel
theorem dX9_comeTrue_23 : decode cX9_comeTrue 23 = .ok (.getfield 34, 3) := by decide +kernel
theorem dX9_comeTrue_26 : decode cX9_comeTrue 26 = .ok (.iload_n 1, 1) := by decide +kernel
theorem dX9_comeTrue_27 : decode cX9_comeTrue 27 = .ok (.aload_n 0, 1) := by decide +kernel
theorem dX9_comeTrue_28 : decode cX9_comeTrue 28 = .ok (.getfield 49, 3) := by decide +kernel
theorem dX9_comeTrue_31 : decode cX9_comeTrue 31 = .ok (.iload_n 1, 1) := by decide +kernel
theorem dX9_comeTrue_32 : decode cX9_comeTrue 32 = .ok (.iaload, 1) := by decide +kernel
theorem dX9_comeTrue_33 : decode cX9_comeTrue 33 = .ok (.iastore, 1) := by decide +kernel
theorem dX9_comeTrue_34 : decode cX9_comeTrue 34 = .ok (.iinc 1 1, 3) := by decide +kernel
theorem dX9_comeTrue_37 : decode cX9_comeTrue 37 = .ok (.goto (-35), 3) := by decide +kernel
theorem dX9_comeTrue_40 : decode cX9_comeTrue 40 = .ok (.aload_n 0, 1) := by decide +kernel
theorem dX9_comeTrue_41 : decode cX9_comeTrue 41 = .ok (.aload_n 0, 1) := by decide +kernel
theorem dX9_comeTrue_42 : decode cX9_comeTrue 42 = .ok (.getfield 112, 3) := by decide +kernel
theorem dX9_comeTrue_45 : decode cX9_comeTrue 45 = .ok (.iconst 1, 1) := by decide +kernel
theorem dX9_comeTrue_46 : decode cX9_comeTrue 46 = .ok (.isub, 1) := by decide +kernel
theorem dX9_comeTrue_47 : decode cX9_comeTrue 47 = .ok (.putfield 143, 3) := by decide +kernel
theorem dX9_comeTrue_50 : decode cX9_comeTrue 50 = .ok (.aload_n 0, 1) := by decide +kernel
theorem dX9_comeTrue_51 : decode cX9_comeTrue 51 = .ok (.iconst 0, 1) := by decide +kernel
theorem dX9_comeTrue_52 : decode cX9_comeTrue 52 = .ok (.putfield 146, 3) := by decide +kernel
theorem dX9_comeTrue_55 : decode cX9_comeTrue 55 = .ok (.iconst 0, 1) := by decide +kernel
theorem dX9_comeTrue_56 : decode cX9_comeTrue 56 = .ok (.istore_n 1, 1) := by decide +kernel
theorem dX9_comeTrue_57 : decode cX9_comeTrue 57 = .ok (.iconst 1, 1) := by decide +kernel
theorem dX9_comeTrue_58 : decode cX9_comeTrue 58 = .ok (.istore_n 2, 1) := by decide +kernel
theorem dX9_comeTrue_59 : decode cX9_comeTrue 59 = .ok (.iload_n 2, 1) := by decide +kernel
theorem dX9_comeTrue_60 : decode cX9_comeTrue 60 = .ok (.bipush 41, 2) := by decide +kernel
theorem dX9_comeTrue_62 : decode cX9_comeTrue 62 = .ok (.if_icmp .ge 74, 3) := by decide +kernel
theorem dX9_comeTrue_65 : decode cX9_comeTrue 65 = .ok (.aload_n 0, 1) := by decide +kernel
theorem dX9_comeTrue_66 : decode cX9_comeTrue 66 = .ok (.invokevirtual 165, 3) := by decide +kernel
theorem dX9_comeTrue_69 : decode cX9_comeTrue 69 = .ok (.pop, 1) := by decide +kernel
theorem dX9_comeTrue_70 : decode cX9_comeTrue 70 = .ok (.iconst 0, 1) := by decide +kernel
theorem dX9_comeTrue_71 : decode cX9_comeTrue 71 = .ok (.istore_n 3, 1) := by decide +kernel
theorem dX9_comeTrue_72 : decode cX9_comeTrue 72 = .ok (.iload_n 3, 1) := by decide +kernel
theorem dX9_comeTrue_73 : decode cX9_comeTrue 73 = .ok (.iconst 3, 1) := by decide +kernel
theorem dX9_comeTrue_74 : decode cX9_comeTrue 74 = .ok (.aload_n 0, 1) := by decide +kernel
theorem dX9_comeTrue_75 : decode cX9_comeTrue 75 = .ok (.getfield 124, 3) := by decide +kernel
theorem dX9_comeTrue_78 : decode cX9_comeTrue 78 = .ok (.imul, 1) := by decide +kernel
theorem dX9_comeTrue_79 : decode cX9_comeTrue 79 = .ok (.if_icmp .ge 51, 3) := by decide +kernel
theorem dX9_comeTrue_82 : decode cX9_comeTrue 82 = .ok (.iload_n 1, 1) := by decide +kernel
theorem dX9_comeTrue_83 : decode cX9_comeTrue 83 = .ok (.aload_n 0, 1) := by decide +kernel
theorem dX9_comeTrue_84 : decode cX9_comeTrue 84 = .ok (.getfield 46, 3) := by decide +kernel
theorem dX9_comeTrue_87 : decode cX9_comeTrue 87 = .ok (.iload_n 3, 1) := by decide +kernel
theorem dX9_comeTrue_88 : decode cX9_comeTrue 88 = .ok (.iconst 2, 1) := by decide +kernel
theorem dX9_comeTrue_89 : decode cX9_comeTrue 89 = .ok (.iadd, 1) := by decide +kernel
theorem dX9_comeTrue_90 : decode cX9_comeTrue 90 = .ok (.iaload, 1) := by decide +kernel
theorem dX9_comeTrue_91 : decode cX9_comeTrue 91 = .ok (.iload_n 2, 1) := by decide +kernel
theorem dX9_comeTrue_92 : decode cX9_comeTrue 92 = .ok (.if_icmp .ne 29, 3) := by decide +kernel
theorem dX9_comeTrue_95 : decode cX9_comeTrue 95 = .ok (.aload_n 0, 1) := by decide +kernel
theorem dX9_comeTrue_96 : decode cX9_comeTrue 96 = .ok (.getfield 31, 3) := by decide +kernel
theorem dX9_comeTrue_99 : decode cX9_comeTrue 99 = .ok (.aload_n 0, 1) := by decide +kernel
theorem dX9_comeTrue_100 : decode cX9_comeTrue 100 = .ok (.getfield 46, 3) := by decide +kernel
theorem dX9_comeTrue_103 : decode cX9_comeTrue 103 = .ok (.iload_n 3, 1) := by decide +kernel
theorem dX9_comeTrue_104 : decode cX9_comeTrue 104 = .ok (.iaload, 1) := by decide +kernel
theorem dX9_comeTrue_105 : decode cX9_comeTrue 105 = .ok (.iaload, 1) := by decide +kernel
theorem dX9_comeTrue_106 : decode cX9_comeTrue 106 = .ok (.aload_n 0, 1) := by decide +kernel
theorem dX9_comeTrue_107 : decode cX9_comeTrue 107 = .ok (.getfield 46, 3) := by decide +kernel
theorem dX9_comeTrue_110 : decode cX9_comeTrue 110 = .ok (.iload_n 3, 1) := by decide +kernel
theorem dX9_comeTrue_111 : decode cX9_comeTrue 111 = .ok (.iconst 1, 1) := by decide +kernel
theorem dX9_comeTrue_112 : decode cX9_comeTrue 112 = .ok (.iadd, 1) := by decide +kernel
theorem dX9_comeTrue_113 : decode cX9_comeTrue 113 = .ok (.iaload, 1) := by decide +kernel
theorem dX9_comeTrue_114 : decode cX9_comeTrue 114 = .ok (.if_icmp .ne 7, 3) := by decide +kernel
theorem dX9_comeTrue_117 : decode cX9_comeTrue 117 = .ok (.iconst 1, 1) := by decide +kernel
theorem dX9_comeTrue_118 : decode cX9_comeTrue 118 = .ok (.goto 4, 3) := by decide +kernel
theorem dX9_comeTrue_121 : decode cX9_comeTrue 121 = .ok (.iconst 0, 1) := by decide +kernel
theorem dX9_comeTrue_122 : decode cX9_comeTrue 122 = .ok (.iadd, 1) := by decide +kernel
theorem dX9_comeTrue_123 : decode cX9_comeTrue 123 = .ok (.istore_n 1, 1) := by decide +kernel
theorem dX9_comeTrue_124 : decode cX9_comeTrue 124 = .ok (.iinc 3 3, 3) := by decide +kernel
theorem dX9_comeTrue_127 : decode cX9_comeTrue 127 = .ok (.goto (-55), 3) := by decide +kernel
theorem dX9_comeTrue_130 : decode cX9_comeTrue 130 = .ok (.iinc 2 1, 3) := by decide +kernel
theorem dX9_comeTrue_133 : decode cX9_comeTrue 133 = .ok (.goto (-74), 3) := by decide +kernel
theorem dX9_comeTrue_136 : decode cX9_comeTrue 136 = .ok (.iload_n 1, 1) := by decide +kernel
theorem dX9_comeTrue_137 : decode cX9_comeTrue 137 = .ok (.ireturn, 1) := by decide +kernel
abbrev kwX9_comeTrue (cI cZ cG : ClassId) (q q_page q_worths q_kinds q_likes q_had q_plots q_row q_plotsThen q_rowThen q_traded q_points q_ringLong q_wishes q_order q_bestOrder q_sights q_ways q_keptKinds q_keptPlots q_keptRow q_keptHad q_keptWishes q_keptSights : Nat) (v_pageMany : Int32) (v_houses : Int32) (v_nights : Int32) (v_squaresRead : Int32) (v_front : Int32) (v_down : Int32) (v_frontThen : Int32) (v_downThen : Int32) (v_ringsMany : Int32) (v_wishesMany : Int32) (v_ordersDone : Int32) (v_seenMany : Int32) (v_seedNow : Int32) (v_keptSquare : Int32) (v_keptFront : Int32) (v_keptDown : Int32) (v_keptNights : Int32) (v_keptWishesMany : Int32) (v_keptSeen : Int32) (v_hash : Int64) (v_order : (Nat → Int32)) (v_plotsThen : (Nat → Int32)) (v_rowThen : (Nat → Int32)) (v_kinds : (Nat → Int32)) (v_wishes : (Nat → Int32)) : va_W := [(q, .inr (9, [.ref q_page, .int v_pageMany, .int v_houses, .int v_nights, .int v_squaresRead, .ref q_worths, .ref q_kinds, .ref q_likes, .ref q_had, .ref q_plots, .ref q_row, .int v_front, .int v_down, .ref q_plotsThen, .ref q_rowThen, .int v_frontThen, .int v_downThen, .ref q_traded, .ref q_points, .int v_ringsMany, .ref q_ringLong, .int v_wishesMany, .ref q_wishes, .int v_ordersDone, .ref q_order, .ref q_bestOrder, .int v_seenMany, .ref q_sights, .ref q_ways, .int v_seedNow, .int v_keptSquare, .int v_keptFront, .int v_keptDown, .int v_keptNights, .int v_keptWishesMany, .int v_keptSeen, .ref q_keptKinds, .ref q_keptPlots, .ref q_keptRow, .ref q_keptHad, .ref q_keptWishes, .ref q_keptSights, .long v_hash])), (q_order, .inl (cI, 6, .inl v_order)), (q_plotsThen, .inl (cI, 6, .inl v_plotsThen)), (q_rowThen, .inl (cI, 6, .inl v_rowThen)), (q_kinds, .inl (cI, 6, .inl v_kinds)), (q_wishes, .inl (cI, 15, .inl v_wishes))]
noncomputable def fX9_comeTrue_72 (N : Nat) (v_houses : Int32) (v_wishesMany : Int32) (v_order : (Nat → Int32)) (v_kinds : (Nat → Int32)) (v_wishes : (Nat → Int32)) (K_59 : Int32 → Int32 → Int32 → Int32 → (Nat → Int32) → (Nat → Int32) → Option (Int32 × Int32 × Int32 × (Nat → Int32) × (Nat → Int32))) (K_72 : Int32 → Int32 → Int32 → Int32 → Int32 → (Nat → Int32) → (Nat → Int32) → Option (Int32 × Int32 × Int32 × (Nat → Int32) × (Nat → Int32))) (l1 : Int32) (l2 : Int32) (l3 : Int32) (v_frontThen : Int32) (v_downThen : Int32) (v_plotsThen : (Nat → Int32)) (v_rowThen : (Nat → Int32)) : Option (Int32 × Int32 × Int32 × (Nat → Int32) × (Nat → Int32)) := if ((3 : Int32) * v_wishesMany) ≤ l3 then (K_59 l1 (l2 + (1 : Int32)) v_frontThen v_downThen v_plotsThen v_rowThen) else (if (l3 + (2 : Int32)) < 0 ∨ 15 ≤ ((l3 + (2 : Int32))).toNatClampNeg then none else (if (v_wishes ((l3 + (2 : Int32))).toNatClampNeg) = l2 then (if l3 < 0 ∨ 15 ≤ (l3).toNatClampNeg then none else (if (v_wishes (l3).toNatClampNeg) < 0 ∨ 6 ≤ ((v_wishes (l3).toNatClampNeg)).toNatClampNeg then none else (if (l3 + (1 : Int32)) < 0 ∨ 15 ≤ ((l3 + (1 : Int32))).toNatClampNeg then none else (if (v_plotsThen ((v_wishes (l3).toNatClampNeg)).toNatClampNeg) = (v_wishes ((l3 + (1 : Int32))).toNatClampNeg) then (K_72 (l1 + (1 : Int32)) l2 (l3 + (3 : Int32)) v_frontThen v_downThen v_plotsThen v_rowThen) else (K_72 (l1 + (0 : Int32)) l2 (l3 + (3 : Int32)) v_frontThen v_downThen v_plotsThen v_rowThen))))) else (K_72 (l1 + (0 : Int32)) l2 (l3 + (3 : Int32)) v_frontThen v_downThen v_plotsThen v_rowThen)))
noncomputable def fX9_comeTrue_59 (N : Nat) (v_houses : Int32) (v_wishesMany : Int32) (v_order : (Nat → Int32)) (v_kinds : (Nat → Int32)) (v_wishes : (Nat → Int32))  (K_59 : Int32 → Int32 → Int32 → Int32 → (Nat → Int32) → (Nat → Int32) → Option (Int32 × Int32 × Int32 × (Nat → Int32) × (Nat → Int32))) (l1 : Int32) (l2 : Int32) (v_frontThen : Int32) (v_downThen : Int32) (v_plotsThen : (Nat → Int32)) (v_rowThen : (Nat → Int32)) : Option (Int32 × Int32 × Int32 × (Nat → Int32) × (Nat → Int32)) := if (41 : Int32) ≤ l2 then (some (l1, v_frontThen, v_downThen, v_plotsThen, v_rowThen)) else ((fX9_goOn N v_houses v_kinds v_frontThen v_downThen v_rowThen v_plotsThen).bind (fun x_66 => lfix (fun (K : Int32 × Int32 × Int32 × Int32 × Int32 × (Nat → Int32) × (Nat → Int32) → Option (Int32 × Int32 × Int32 × (Nat → Int32) × (Nat → Int32))) (a : Int32 × Int32 × Int32 × Int32 × Int32 × (Nat → Int32) × (Nat → Int32)) => fX9_comeTrue_72 N v_houses v_wishesMany v_order v_kinds v_wishes K_59 (fun (l1 : Int32) (l2 : Int32) (l3 : Int32) (v_frontThen : Int32) (v_downThen : Int32) (v_plotsThen : (Nat → Int32)) (v_rowThen : (Nat → Int32)) => K (l1, l2, l3, v_frontThen, v_downThen, v_plotsThen, v_rowThen)) a.1 a.2.1 a.2.2.1 a.2.2.2.1 a.2.2.2.2.1 a.2.2.2.2.2.1 a.2.2.2.2.2.2) N (l1, l2, (0 : Int32), x_66.2.1, x_66.2.2.1, x_66.2.2.2.2, x_66.2.2.2.1)))
noncomputable def fX9_comeTrue_2 (N : Nat) (v_houses : Int32) (v_wishesMany : Int32) (v_order : (Nat → Int32)) (v_kinds : (Nat → Int32)) (v_wishes : (Nat → Int32))  (K_2 : Int32 → Int32 → Int32 → (Nat → Int32) → (Nat → Int32) → Option (Int32 × Int32 × Int32 × (Nat → Int32) × (Nat → Int32))) (l1 : Int32) (v_frontThen : Int32) (v_downThen : Int32) (v_plotsThen : (Nat → Int32)) (v_rowThen : (Nat → Int32)) : Option (Int32 × Int32 × Int32 × (Nat → Int32) × (Nat → Int32)) := if v_houses ≤ l1 then (lfix (fun (K : Int32 × Int32 × Int32 × Int32 × (Nat → Int32) × (Nat → Int32) → Option (Int32 × Int32 × Int32 × (Nat → Int32) × (Nat → Int32))) (a : Int32 × Int32 × Int32 × Int32 × (Nat → Int32) × (Nat → Int32)) => fX9_comeTrue_59 N v_houses v_wishesMany v_order v_kinds v_wishes (fun (l1 : Int32) (l2 : Int32) (v_frontThen : Int32) (v_downThen : Int32) (v_plotsThen : (Nat → Int32)) (v_rowThen : (Nat → Int32)) => K (l1, l2, v_frontThen, v_downThen, v_plotsThen, v_rowThen)) a.1 a.2.1 a.2.2.1 a.2.2.2.1 a.2.2.2.2.1 a.2.2.2.2.2) N ((0 : Int32), (1 : Int32), (v_houses - (1 : Int32)), (0 : Int32), v_plotsThen, v_rowThen)) else (if l1 < 0 ∨ 6 ≤ (l1).toNatClampNeg then none else (if (v_order (l1).toNatClampNeg) < 0 ∨ 6 ≤ ((v_order (l1).toNatClampNeg)).toNatClampNeg then none else (if l1 < 0 ∨ 6 ≤ (l1).toNatClampNeg then none else (if l1 < 0 ∨ 6 ≤ (l1).toNatClampNeg then none else (K_2 (l1 + (1 : Int32)) v_frontThen v_downThen (upd v_plotsThen ((v_order (l1).toNatClampNeg)).toNatClampNeg l1) (upd v_rowThen (l1).toNatClampNeg (v_order (l1).toNatClampNeg)))))))
noncomputable def fX9_comeTrue (N : Nat) (v_houses : Int32) (v_wishesMany : Int32) (v_order : (Nat → Int32)) (v_kinds : (Nat → Int32)) (v_wishes : (Nat → Int32)) (v_frontThen : Int32) (v_downThen : Int32) (v_plotsThen : (Nat → Int32)) (v_rowThen : (Nat → Int32))  : Option (Int32 × Int32 × Int32 × (Nat → Int32) × (Nat → Int32)) := lfix (fun (K : Int32 × Int32 × Int32 × (Nat → Int32) × (Nat → Int32) → Option (Int32 × Int32 × Int32 × (Nat → Int32) × (Nat → Int32))) (a : Int32 × Int32 × Int32 × (Nat → Int32) × (Nat → Int32)) => fX9_comeTrue_2 N v_houses v_wishesMany v_order v_kinds v_wishes (fun (l1 : Int32) (v_frontThen : Int32) (v_downThen : Int32) (v_plotsThen : (Nat → Int32)) (v_rowThen : (Nat → Int32)) => K (l1, v_frontThen, v_downThen, v_plotsThen, v_rowThen)) a.1 a.2.1 a.2.2.1 a.2.2.2.1 a.2.2.2.2) N ((0 : Int32), v_frontThen, v_downThen, v_plotsThen, v_rowThen)
set_option maxHeartbeats 4000000 in
set_option maxRecDepth 100000 in
theorem wX9_comeTrue_72 {p : Program} {l : Launch} {e : Env} {R : Room} {s : State} {m : MethodId} {args : Array Value} {below : List Frame} {meth : Method} {c : Code} {cells slots : Nat} {Q : State → Prop} {D : va_G} {A : Nat → Prop} {cI cZ cG : ClassId} {q q_page q_worths q_kinds q_likes q_had q_plots q_row q_plotsThen q_rowThen q_traded q_points q_ringLong q_wishes q_order q_bestOrder q_sights q_ways q_keptKinds q_keptPlots q_keptRow q_keptHad q_keptWishes q_keptSights : Nat} {v_pageMany : Int32} {v_houses : Int32} {v_nights : Int32} {v_squaresRead : Int32} {v_front : Int32} {v_down : Int32} {v_ringsMany : Int32} {v_wishesMany : Int32} {v_ordersDone : Int32} {v_seenMany : Int32} {v_seedNow : Int32} {v_keptSquare : Int32} {v_keptFront : Int32} {v_keptDown : Int32} {v_keptNights : Int32} {v_keptWishesMany : Int32} {v_keptSeen : Int32} {v_hash : Int64} {v_order : (Nat → Int32)} {v_kinds : (Nat → Int32)} {v_wishes : (Nat → Int32)} {N : Nat} {ρ : Int32 × Int32 × Int32 × (Nat → Int32) × (Nat → Int32)} (X : CX p s m args c cX9_comeTrue 4 RX9 D (TY cI cZ cG) A) (hrm : RM R 3 67 cells slots) (ret : ∀ (pc : Nat) (H : Heap) (locs : List Loc) (ls : Array Slot), decode cX9_comeTrue pc = .ok (.ireturn, 1) → WD D A (kwX9_comeTrue cI cZ cG q q_page q_worths q_kinds q_likes q_had q_plots q_row q_plotsThen q_rowThen q_traded q_points q_ringLong q_wishes q_order q_bestOrder q_sights q_ways q_keptKinds q_keptPlots q_keptRow q_keptHad q_keptWishes q_keptSights v_pageMany v_houses v_nights v_squaresRead v_front v_down (ρ.2.1) (ρ.2.2.1) v_ringsMany v_wishesMany v_ordersDone v_seenMany v_seedNow v_keptSquare v_keptFront v_keptDown v_keptNights v_keptWishesMany v_keptSeen v_hash v_order (ρ.2.2.2.1) (ρ.2.2.2.2) v_kinds v_wishes) s.heap H locs → W p l e R s m args below meth c H locs cells slots Q (F0 m pc ls [.int ρ.1])) {K_59 : Int32 → Int32 → Int32 → Int32 → (Nat → Int32) → (Nat → Int32) → Option (Int32 × Int32 × Int32 × (Nat → Int32) × (Nat → Int32))} (hK_59 : ∀ (l1 : Int32) (l2 : Int32) (v_frontThen : Int32) (v_downThen : Int32) (v_plotsThen : (Nat → Int32)) (v_rowThen : (Nat → Int32)), K_59 l1 l2 v_frontThen v_downThen v_plotsThen v_rowThen = some ρ → ∀ (H : Heap) (locs : List Loc) (ls : Array Slot), WD D A (kwX9_comeTrue cI cZ cG q q_page q_worths q_kinds q_likes q_had q_plots q_row q_plotsThen q_rowThen q_traded q_points q_ringLong q_wishes q_order q_bestOrder q_sights q_ways q_keptKinds q_keptPlots q_keptRow q_keptHad q_keptWishes q_keptSights v_pageMany v_houses v_nights v_squaresRead v_front v_down v_frontThen v_downThen v_ringsMany v_wishesMany v_ordersDone v_seenMany v_seedNow v_keptSquare v_keptFront v_keptDown v_keptNights v_keptWishesMany v_keptSeen v_hash v_order v_plotsThen v_rowThen v_kinds v_wishes) s.heap H locs → lv_has ls 4 [(0, .ref q), (1, .int l1), (2, .int l2)] → W p l e R s m args below meth c H locs cells slots Q (F0 m 59 ls [])) : ∀ (n : Nat) (a : Int32 × Int32 × Int32 × Int32 × Int32 × (Nat → Int32) × (Nat → Int32)), lfix (fun (K : Int32 × Int32 × Int32 × Int32 × Int32 × (Nat → Int32) × (Nat → Int32) → Option (Int32 × Int32 × Int32 × (Nat → Int32) × (Nat → Int32))) (a : Int32 × Int32 × Int32 × Int32 × Int32 × (Nat → Int32) × (Nat → Int32)) => fX9_comeTrue_72 N v_houses v_wishesMany v_order v_kinds v_wishes K_59 (fun (l1 : Int32) (l2 : Int32) (l3 : Int32) (v_frontThen : Int32) (v_downThen : Int32) (v_plotsThen : (Nat → Int32)) (v_rowThen : (Nat → Int32)) => K (l1, l2, l3, v_frontThen, v_downThen, v_plotsThen, v_rowThen)) a.1 a.2.1 a.2.2.1 a.2.2.2.1 a.2.2.2.2.1 a.2.2.2.2.2.1 a.2.2.2.2.2.2) n a = some ρ → (fun (l1 : Int32) (l2 : Int32) (l3 : Int32) (v_frontThen : Int32) (v_downThen : Int32) (v_plotsThen : (Nat → Int32)) (v_rowThen : (Nat → Int32)) => ∀ (H : Heap) (locs : List Loc) (ls : Array Slot), WD D A (kwX9_comeTrue cI cZ cG q q_page q_worths q_kinds q_likes q_had q_plots q_row q_plotsThen q_rowThen q_traded q_points q_ringLong q_wishes q_order q_bestOrder q_sights q_ways q_keptKinds q_keptPlots q_keptRow q_keptHad q_keptWishes q_keptSights v_pageMany v_houses v_nights v_squaresRead v_front v_down v_frontThen v_downThen v_ringsMany v_wishesMany v_ordersDone v_seenMany v_seedNow v_keptSquare v_keptFront v_keptDown v_keptNights v_keptWishesMany v_keptSeen v_hash v_order v_plotsThen v_rowThen v_kinds v_wishes) s.heap H locs → lv_has ls 4 [(0, .ref q), (1, .int l1), (2, .int l2), (3, .int l3)] → W p l e R s m args below meth c H locs cells slots Q (F0 m 72 ls [])) (a.1) (a.2.1) (a.2.2.1) (a.2.2.2.1) (a.2.2.2.2.1) (a.2.2.2.2.2.1) (a.2.2.2.2.2.2) := by
  have hx := X.1.1
  have hb := X.1.2.1
  refine lfix_W (fun K hK a h => ?_)
  obtain ⟨l1, l2, l3, v_frontThen, v_downThen, v_plotsThen, v_rowThen⟩ := a
  intro H locs ls hw hl
  have h : fX9_comeTrue_72 N v_houses v_wishesMany v_order v_kinds v_wishes K_59 (fun (l1 : Int32) (l2 : Int32) (l3 : Int32) (v_frontThen : Int32) (v_downThen : Int32) (v_plotsThen : (Nat → Int32)) (v_rowThen : (Nat → Int32)) => K (l1, l2, l3, v_frontThen, v_downThen, v_plotsThen, v_rowThen)) l1 l2 l3 v_frontThen v_downThen v_plotsThen v_rowThen = some ρ := h
  have hK_72 : ∀ (l1 : Int32) (l2 : Int32) (l3 : Int32) (v_frontThen : Int32) (v_downThen : Int32) (v_plotsThen : (Nat → Int32)) (v_rowThen : (Nat → Int32)), (fun (l1 : Int32) (l2 : Int32) (l3 : Int32) (v_frontThen : Int32) (v_downThen : Int32) (v_plotsThen : (Nat → Int32)) (v_rowThen : (Nat → Int32)) => K (l1, l2, l3, v_frontThen, v_downThen, v_plotsThen, v_rowThen)) l1 l2 l3 v_frontThen v_downThen v_plotsThen v_rowThen = some ρ → ∀ (H : Heap) (locs : List Loc) (ls : Array Slot), WD D A (kwX9_comeTrue cI cZ cG q q_page q_worths q_kinds q_likes q_had q_plots q_row q_plotsThen q_rowThen q_traded q_points q_ringLong q_wishes q_order q_bestOrder q_sights q_ways q_keptKinds q_keptPlots q_keptRow q_keptHad q_keptWishes q_keptSights v_pageMany v_houses v_nights v_squaresRead v_front v_down v_frontThen v_downThen v_ringsMany v_wishesMany v_ordersDone v_seenMany v_seedNow v_keptSquare v_keptFront v_keptDown v_keptNights v_keptWishesMany v_keptSeen v_hash v_order v_plotsThen v_rowThen v_kinds v_wishes) s.heap H locs → lv_has ls 4 [(0, .ref q), (1, .int l1), (2, .int l2), (3, .int l3)] → W p l e R s m args below meth c H locs cells slots Q (F0 m 72 ls []) := fun l1 l2 l3 v_frontThen v_downThen v_plotsThen v_rowThen h => hK (l1, l2, l3, v_frontThen, v_downThen, v_plotsThen, v_rowThen) h
  generalize (fun (l1 : Int32) (l2 : Int32) (l3 : Int32) (v_frontThen : Int32) (v_downThen : Int32) (v_plotsThen : (Nat → Int32)) (v_rowThen : (Nat → Int32)) => K (l1, l2, l3, v_frontThen, v_downThen, v_plotsThen, v_rowThen)) = K_72 at h hK_72
  have hw : WD D A (kwX9_comeTrue cI cZ cG q q_page q_worths q_kinds q_likes q_had q_plots q_row q_plotsThen q_rowThen q_traded q_points q_ringLong q_wishes q_order q_bestOrder q_sights q_ways q_keptKinds q_keptPlots q_keptRow q_keptHad q_keptWishes q_keptSights v_pageMany v_houses v_nights v_squaresRead v_front v_down v_frontThen v_downThen v_ringsMany v_wishesMany v_ordersDone v_seenMany v_seedNow v_keptSquare v_keptFront v_keptDown v_keptNights v_keptWishesMany v_keptSeen v_hash v_order v_plotsThen v_rowThen v_kinds v_wishes) s.heap H locs := hw
  have hl : lv_has ls 4 [(0, .ref q), (1, .int l1), (2, .int l2), (3, .int l3)] := hl
  unfold fX9_comeTrue_72 at h
  refine lv_iload_n hx hb dX9_comeTrue_72 rfl (lv_at hl 3 rfl) ?_
  refine lv_iconst (v := (3 : Int32)) hx hb dX9_comeTrue_73 (by decide) ?_
  refine lv_aload_n hx hb dX9_comeTrue_74 rfl (lv_at hl 0 rfl) ?_
  refine kget (ci := 9) (v := .int v_wishesMany) X hw iX9 0 rfl rfl 21 (by decide) tw_629 rfl dX9_comeTrue_75 ?_
  refine lv_imul hx hb dX9_comeTrue_78 ?_
  refine lv_icmp_ge (tgt := 130) hx hb dX9_comeTrue_79 (by decide) (fun c_79 => ?_) (fun c_79 => ?_)
  · have h := ift c_79 h
    refine lv_iinc (v := (l2 + (1 : Int32))) (lv' := [(2, .int (l2 + (1 : Int32))), (0, .ref q), (1, .int l1), (3, .int l3)]) hx hb dX9_comeTrue_130 hl (k := 2) rfl (congrArg (l2 + ·) (by decide)) (by decide) rfl (fun ls hl => ?_)
    refine lv_goto (tgt := 59) hx hb dX9_comeTrue_133 (by decide) ?_
    exact hK_59 _ _ _ _ _ _ h _ _ _ hw (lv_sub hl [1, 2, 0] rfl)
  · have h := iff_ c_79 h
    refine lv_iload_n hx hb dX9_comeTrue_82 rfl (lv_at hl 1 rfl) ?_
    refine lv_aload_n hx hb dX9_comeTrue_83 rfl (lv_at hl 0 rfl) ?_
    refine kget (ci := 9) (v := .ref q_wishes) X hw iX9 0 rfl rfl 22 (by decide) tw_823 rfl dX9_comeTrue_84 ?_
    refine lv_iload_n hx hb dX9_comeTrue_87 rfl (lv_at hl 3 rfl) ?_
    refine lv_iconst (v := (2 : Int32)) hx hb dX9_comeTrue_88 (by decide) ?_
    refine lv_iadd hx hb dX9_comeTrue_89 ?_
    obtain ⟨g_90, h⟩ := gd h
    refine kiald X hw 5 rfl rfl g_90 dX9_comeTrue_90 ?_
    refine lv_iload_n hx hb dX9_comeTrue_91 rfl (lv_at hl 2 rfl) ?_
    refine lv_icmp_ne (tgt := 121) hx hb dX9_comeTrue_92 (by decide) (fun c_92 => ?_) (fun c_92 => ?_)
    · have h := iff_ c_92 h
      refine lv_iconst (v := (0 : Int32)) hx hb dX9_comeTrue_121 (by decide) ?_
      refine lv_iadd hx hb dX9_comeTrue_122 ?_
      refine lv_istore_n (lv' := [(1, .int (l1 + (0 : Int32))), (0, .ref q), (2, .int l2), (3, .int l3)]) hx hb dX9_comeTrue_123 rfl hl (by decide) rfl (fun ls hl => ?_)
      refine lv_iinc (v := (l3 + (3 : Int32))) (lv' := [(3, .int (l3 + (3 : Int32))), (1, .int (l1 + (0 : Int32))), (0, .ref q), (2, .int l2)]) hx hb dX9_comeTrue_124 hl (k := 3) rfl (congrArg (l3 + ·) (by decide)) (by decide) rfl (fun ls hl => ?_)
      refine lv_goto (tgt := 72) hx hb dX9_comeTrue_127 (by decide) ?_
      exact hK_72 _ _ _ _ _ _ _ h _ _ _ hw (lv_sub hl [2, 1, 3, 0] rfl)
    · have h := ift c_92 h
      refine lv_aload_n hx hb dX9_comeTrue_95 rfl (lv_at hl 0 rfl) ?_
      refine kget (ci := 9) (v := .ref q_plotsThen) X hw iX9 0 rfl rfl 13 (by decide) tw_654 rfl dX9_comeTrue_96 ?_
      refine lv_aload_n hx hb dX9_comeTrue_99 rfl (lv_at hl 0 rfl) ?_
      refine kget (ci := 9) (v := .ref q_wishes) X hw iX9 0 rfl rfl 22 (by decide) tw_823 rfl dX9_comeTrue_100 ?_
      refine lv_iload_n hx hb dX9_comeTrue_103 rfl (lv_at hl 3 rfl) ?_
      obtain ⟨g_104, h⟩ := gd h
      refine kiald X hw 5 rfl rfl g_104 dX9_comeTrue_104 ?_
      obtain ⟨g_105, h⟩ := gd h
      refine kiald X hw 2 rfl rfl g_105 dX9_comeTrue_105 ?_
      refine lv_aload_n hx hb dX9_comeTrue_106 rfl (lv_at hl 0 rfl) ?_
      refine kget (ci := 9) (v := .ref q_wishes) X hw iX9 0 rfl rfl 22 (by decide) tw_823 rfl dX9_comeTrue_107 ?_
      refine lv_iload_n hx hb dX9_comeTrue_110 rfl (lv_at hl 3 rfl) ?_
      refine lv_iconst (v := (1 : Int32)) hx hb dX9_comeTrue_111 (by decide) ?_
      refine lv_iadd hx hb dX9_comeTrue_112 ?_
      obtain ⟨g_113, h⟩ := gd h
      refine kiald X hw 5 rfl rfl g_113 dX9_comeTrue_113 ?_
      refine lv_icmp_ne (tgt := 121) hx hb dX9_comeTrue_114 (by decide) (fun c_114 => ?_) (fun c_114 => ?_)
      · have h := iff_ c_114 h
        refine lv_iconst (v := (0 : Int32)) hx hb dX9_comeTrue_121 (by decide) ?_
        refine lv_iadd hx hb dX9_comeTrue_122 ?_
        refine lv_istore_n (lv' := [(1, .int (l1 + (0 : Int32))), (0, .ref q), (2, .int l2), (3, .int l3)]) hx hb dX9_comeTrue_123 rfl hl (by decide) rfl (fun ls hl => ?_)
        refine lv_iinc (v := (l3 + (3 : Int32))) (lv' := [(3, .int (l3 + (3 : Int32))), (1, .int (l1 + (0 : Int32))), (0, .ref q), (2, .int l2)]) hx hb dX9_comeTrue_124 hl (k := 3) rfl (congrArg (l3 + ·) (by decide)) (by decide) rfl (fun ls hl => ?_)
        refine lv_goto (tgt := 72) hx hb dX9_comeTrue_127 (by decide) ?_
        exact hK_72 _ _ _ _ _ _ _ h _ _ _ hw (lv_sub hl [2, 1, 3, 0] rfl)
      · have h := ift c_114 h
        refine lv_iconst (v := (1 : Int32)) hx hb dX9_comeTrue_117 (by decide) ?_
        refine lv_goto (tgt := 122) hx hb dX9_comeTrue_118 (by decide) ?_
        refine lv_iadd hx hb dX9_comeTrue_122 ?_
        refine lv_istore_n (lv' := [(1, .int (l1 + (1 : Int32))), (0, .ref q), (2, .int l2), (3, .int l3)]) hx hb dX9_comeTrue_123 rfl hl (by decide) rfl (fun ls hl => ?_)
        refine lv_iinc (v := (l3 + (3 : Int32))) (lv' := [(3, .int (l3 + (3 : Int32))), (1, .int (l1 + (1 : Int32))), (0, .ref q), (2, .int l2)]) hx hb dX9_comeTrue_124 hl (k := 3) rfl (congrArg (l3 + ·) (by decide)) (by decide) rfl (fun ls hl => ?_)
        refine lv_goto (tgt := 72) hx hb dX9_comeTrue_127 (by decide) ?_
        exact hK_72 _ _ _ _ _ _ _ h _ _ _ hw (lv_sub hl [2, 1, 3, 0] rfl)
set_option maxHeartbeats 4000000 in
set_option maxRecDepth 100000 in
theorem wX9_comeTrue_59 {p : Program} {l : Launch} {e : Env} {R : Room} {s : State} {m : MethodId} {args : Array Value} {below : List Frame} {meth : Method} {c : Code} {cells slots : Nat} {Q : State → Prop} {D : va_G} {A : Nat → Prop} {cI cZ cG : ClassId} {q q_page q_worths q_kinds q_likes q_had q_plots q_row q_plotsThen q_rowThen q_traded q_points q_ringLong q_wishes q_order q_bestOrder q_sights q_ways q_keptKinds q_keptPlots q_keptRow q_keptHad q_keptWishes q_keptSights : Nat} {v_pageMany : Int32} {v_houses : Int32} {v_nights : Int32} {v_squaresRead : Int32} {v_front : Int32} {v_down : Int32} {v_ringsMany : Int32} {v_wishesMany : Int32} {v_ordersDone : Int32} {v_seenMany : Int32} {v_seedNow : Int32} {v_keptSquare : Int32} {v_keptFront : Int32} {v_keptDown : Int32} {v_keptNights : Int32} {v_keptWishesMany : Int32} {v_keptSeen : Int32} {v_hash : Int64} {v_order : (Nat → Int32)} {v_kinds : (Nat → Int32)} {v_wishes : (Nat → Int32)} {N : Nat} {ρ : Int32 × Int32 × Int32 × (Nat → Int32) × (Nat → Int32)} (X : CX p s m args c cX9_comeTrue 4 RX9 D (TY cI cZ cG) A) (hrm : RM R 3 67 cells slots) (ret : ∀ (pc : Nat) (H : Heap) (locs : List Loc) (ls : Array Slot), decode cX9_comeTrue pc = .ok (.ireturn, 1) → WD D A (kwX9_comeTrue cI cZ cG q q_page q_worths q_kinds q_likes q_had q_plots q_row q_plotsThen q_rowThen q_traded q_points q_ringLong q_wishes q_order q_bestOrder q_sights q_ways q_keptKinds q_keptPlots q_keptRow q_keptHad q_keptWishes q_keptSights v_pageMany v_houses v_nights v_squaresRead v_front v_down (ρ.2.1) (ρ.2.2.1) v_ringsMany v_wishesMany v_ordersDone v_seenMany v_seedNow v_keptSquare v_keptFront v_keptDown v_keptNights v_keptWishesMany v_keptSeen v_hash v_order (ρ.2.2.2.1) (ρ.2.2.2.2) v_kinds v_wishes) s.heap H locs → W p l e R s m args below meth c H locs cells slots Q (F0 m pc ls [.int ρ.1]))  : ∀ (n : Nat) (a : Int32 × Int32 × Int32 × Int32 × (Nat → Int32) × (Nat → Int32)), lfix (fun (K : Int32 × Int32 × Int32 × Int32 × (Nat → Int32) × (Nat → Int32) → Option (Int32 × Int32 × Int32 × (Nat → Int32) × (Nat → Int32))) (a : Int32 × Int32 × Int32 × Int32 × (Nat → Int32) × (Nat → Int32)) => fX9_comeTrue_59 N v_houses v_wishesMany v_order v_kinds v_wishes (fun (l1 : Int32) (l2 : Int32) (v_frontThen : Int32) (v_downThen : Int32) (v_plotsThen : (Nat → Int32)) (v_rowThen : (Nat → Int32)) => K (l1, l2, v_frontThen, v_downThen, v_plotsThen, v_rowThen)) a.1 a.2.1 a.2.2.1 a.2.2.2.1 a.2.2.2.2.1 a.2.2.2.2.2) n a = some ρ → (fun (l1 : Int32) (l2 : Int32) (v_frontThen : Int32) (v_downThen : Int32) (v_plotsThen : (Nat → Int32)) (v_rowThen : (Nat → Int32)) => ∀ (H : Heap) (locs : List Loc) (ls : Array Slot), WD D A (kwX9_comeTrue cI cZ cG q q_page q_worths q_kinds q_likes q_had q_plots q_row q_plotsThen q_rowThen q_traded q_points q_ringLong q_wishes q_order q_bestOrder q_sights q_ways q_keptKinds q_keptPlots q_keptRow q_keptHad q_keptWishes q_keptSights v_pageMany v_houses v_nights v_squaresRead v_front v_down v_frontThen v_downThen v_ringsMany v_wishesMany v_ordersDone v_seenMany v_seedNow v_keptSquare v_keptFront v_keptDown v_keptNights v_keptWishesMany v_keptSeen v_hash v_order v_plotsThen v_rowThen v_kinds v_wishes) s.heap H locs → lv_has ls 4 [(0, .ref q), (1, .int l1), (2, .int l2)] → W p l e R s m args below meth c H locs cells slots Q (F0 m 59 ls [])) (a.1) (a.2.1) (a.2.2.1) (a.2.2.2.1) (a.2.2.2.2.1) (a.2.2.2.2.2) := by
  have hx := X.1.1
  have hb := X.1.2.1
  refine lfix_W (fun K hK a h => ?_)
  obtain ⟨l1, l2, v_frontThen, v_downThen, v_plotsThen, v_rowThen⟩ := a
  intro H locs ls hw hl
  have h : fX9_comeTrue_59 N v_houses v_wishesMany v_order v_kinds v_wishes (fun (l1 : Int32) (l2 : Int32) (v_frontThen : Int32) (v_downThen : Int32) (v_plotsThen : (Nat → Int32)) (v_rowThen : (Nat → Int32)) => K (l1, l2, v_frontThen, v_downThen, v_plotsThen, v_rowThen)) l1 l2 v_frontThen v_downThen v_plotsThen v_rowThen = some ρ := h
  have hK_59 : ∀ (l1 : Int32) (l2 : Int32) (v_frontThen : Int32) (v_downThen : Int32) (v_plotsThen : (Nat → Int32)) (v_rowThen : (Nat → Int32)), (fun (l1 : Int32) (l2 : Int32) (v_frontThen : Int32) (v_downThen : Int32) (v_plotsThen : (Nat → Int32)) (v_rowThen : (Nat → Int32)) => K (l1, l2, v_frontThen, v_downThen, v_plotsThen, v_rowThen)) l1 l2 v_frontThen v_downThen v_plotsThen v_rowThen = some ρ → ∀ (H : Heap) (locs : List Loc) (ls : Array Slot), WD D A (kwX9_comeTrue cI cZ cG q q_page q_worths q_kinds q_likes q_had q_plots q_row q_plotsThen q_rowThen q_traded q_points q_ringLong q_wishes q_order q_bestOrder q_sights q_ways q_keptKinds q_keptPlots q_keptRow q_keptHad q_keptWishes q_keptSights v_pageMany v_houses v_nights v_squaresRead v_front v_down v_frontThen v_downThen v_ringsMany v_wishesMany v_ordersDone v_seenMany v_seedNow v_keptSquare v_keptFront v_keptDown v_keptNights v_keptWishesMany v_keptSeen v_hash v_order v_plotsThen v_rowThen v_kinds v_wishes) s.heap H locs → lv_has ls 4 [(0, .ref q), (1, .int l1), (2, .int l2)] → W p l e R s m args below meth c H locs cells slots Q (F0 m 59 ls []) := fun l1 l2 v_frontThen v_downThen v_plotsThen v_rowThen h => hK (l1, l2, v_frontThen, v_downThen, v_plotsThen, v_rowThen) h
  generalize (fun (l1 : Int32) (l2 : Int32) (v_frontThen : Int32) (v_downThen : Int32) (v_plotsThen : (Nat → Int32)) (v_rowThen : (Nat → Int32)) => K (l1, l2, v_frontThen, v_downThen, v_plotsThen, v_rowThen)) = K_59 at h hK_59
  have hw : WD D A (kwX9_comeTrue cI cZ cG q q_page q_worths q_kinds q_likes q_had q_plots q_row q_plotsThen q_rowThen q_traded q_points q_ringLong q_wishes q_order q_bestOrder q_sights q_ways q_keptKinds q_keptPlots q_keptRow q_keptHad q_keptWishes q_keptSights v_pageMany v_houses v_nights v_squaresRead v_front v_down v_frontThen v_downThen v_ringsMany v_wishesMany v_ordersDone v_seenMany v_seedNow v_keptSquare v_keptFront v_keptDown v_keptNights v_keptWishesMany v_keptSeen v_hash v_order v_plotsThen v_rowThen v_kinds v_wishes) s.heap H locs := hw
  have hl : lv_has ls 4 [(0, .ref q), (1, .int l1), (2, .int l2)] := hl
  unfold fX9_comeTrue_59 at h
  refine lv_iload_n hx hb dX9_comeTrue_59 rfl (lv_at hl 2 rfl) ?_
  refine lv_bipush (v := (41 : Int32)) hx hb dX9_comeTrue_60 (by decide) ?_
  refine lv_icmp_ge (tgt := 136) hx hb dX9_comeTrue_62 (by decide) (fun c_62 => ?_) (fun c_62 => ?_)
  · have h := ift c_62 h
    refine lv_iload_n hx hb dX9_comeTrue_136 rfl (lv_at hl 1 rfl) ?_
    obtain rfl := Option.some.inj h
    exact ret _ _ _ _ dX9_comeTrue_137 hw
  · have h := iff_ c_62 h
    refine lv_aload_n hx hb dX9_comeTrue_65 rfl (lv_at hl 0 rfl) ?_
    obtain ⟨x_66, hc_66, h⟩ := obd h
    refine ksV_i (ws2 := (kwX9_comeTrue cI cZ cG q q_page q_worths q_kinds q_likes q_had q_plots q_row q_plotsThen q_rowThen q_traded q_points q_ringLong q_wishes q_order q_bestOrder q_sights q_ways q_keptKinds q_keptPlots q_keptRow q_keptHad q_keptWishes q_keptSights v_pageMany v_houses v_nights v_squaresRead v_front v_down x_66.2.1 x_66.2.2.1 v_ringsMany v_wishesMany v_ordersDone v_seenMany v_seedNow v_keptSquare v_keptFront v_keptDown v_keptNights v_keptWishesMany v_keptSeen v_hash v_order x_66.2.2.2.2 x_66.2.2.2.1 v_kinds v_wishes)) (nW := 6) (ci := 9) (As := []) (rest := []) X hw rfl rfl rfl (cX9_goOn_ct l D cI cZ cG q q_page q_worths q_kinds q_likes q_had q_plots q_row q_plotsThen q_rowThen q_traded q_points q_ringLong q_wishes q_order q_bestOrder q_sights q_ways q_keptKinds q_keptPlots q_keptRow q_keptHad q_keptWishes q_keptSights v_pageMany v_houses v_nights v_squaresRead v_front v_down v_frontThen v_downThen v_ringsMany v_wishesMany v_ordersDone v_seenMany v_seedNow v_keptSquare v_keptFront v_keptDown v_keptNights v_keptWishesMany v_keptSeen v_hash v_rowThen v_kinds v_plotsThen N x_66 hc_66 H.size) mX9_goOn tw_685 (hrm.call (by decide) (by decide)) [0, 3, 4, 2] rfl (by decide) rfl (by decide) rfl ⟨rfl, ⟨rfl, trivial⟩⟩ rfl hl.1 rfl (Nat.le_of_ble_eq_true rfl) dX9_comeTrue_66 ⟨hrm.2.2.1, hrm.2.2.2⟩ (fun H locs hw => ?_)
    refine lv_pop hx hb dX9_comeTrue_69 rfl ?_
    refine lv_iconst (v := (0 : Int32)) hx hb dX9_comeTrue_70 (by decide) ?_
    refine lv_istore_n (lv' := [(3, .int (0 : Int32)), (0, .ref q), (1, .int l1), (2, .int l2)]) hx hb dX9_comeTrue_71 rfl hl (by decide) rfl (fun ls hl => ?_)
    exact wX9_comeTrue_72 X hrm ret hK_59 _ _ h _ _ _ hw (lv_sub hl [1, 2, 3, 0] rfl)
set_option maxHeartbeats 4000000 in
set_option maxRecDepth 100000 in
theorem wX9_comeTrue_2 {p : Program} {l : Launch} {e : Env} {R : Room} {s : State} {m : MethodId} {args : Array Value} {below : List Frame} {meth : Method} {c : Code} {cells slots : Nat} {Q : State → Prop} {D : va_G} {A : Nat → Prop} {cI cZ cG : ClassId} {q q_page q_worths q_kinds q_likes q_had q_plots q_row q_plotsThen q_rowThen q_traded q_points q_ringLong q_wishes q_order q_bestOrder q_sights q_ways q_keptKinds q_keptPlots q_keptRow q_keptHad q_keptWishes q_keptSights : Nat} {v_pageMany : Int32} {v_houses : Int32} {v_nights : Int32} {v_squaresRead : Int32} {v_front : Int32} {v_down : Int32} {v_ringsMany : Int32} {v_wishesMany : Int32} {v_ordersDone : Int32} {v_seenMany : Int32} {v_seedNow : Int32} {v_keptSquare : Int32} {v_keptFront : Int32} {v_keptDown : Int32} {v_keptNights : Int32} {v_keptWishesMany : Int32} {v_keptSeen : Int32} {v_hash : Int64} {v_order : (Nat → Int32)} {v_kinds : (Nat → Int32)} {v_wishes : (Nat → Int32)} {N : Nat} {ρ : Int32 × Int32 × Int32 × (Nat → Int32) × (Nat → Int32)} (X : CX p s m args c cX9_comeTrue 4 RX9 D (TY cI cZ cG) A) (hrm : RM R 3 67 cells slots) (ret : ∀ (pc : Nat) (H : Heap) (locs : List Loc) (ls : Array Slot), decode cX9_comeTrue pc = .ok (.ireturn, 1) → WD D A (kwX9_comeTrue cI cZ cG q q_page q_worths q_kinds q_likes q_had q_plots q_row q_plotsThen q_rowThen q_traded q_points q_ringLong q_wishes q_order q_bestOrder q_sights q_ways q_keptKinds q_keptPlots q_keptRow q_keptHad q_keptWishes q_keptSights v_pageMany v_houses v_nights v_squaresRead v_front v_down (ρ.2.1) (ρ.2.2.1) v_ringsMany v_wishesMany v_ordersDone v_seenMany v_seedNow v_keptSquare v_keptFront v_keptDown v_keptNights v_keptWishesMany v_keptSeen v_hash v_order (ρ.2.2.2.1) (ρ.2.2.2.2) v_kinds v_wishes) s.heap H locs → W p l e R s m args below meth c H locs cells slots Q (F0 m pc ls [.int ρ.1]))  : ∀ (n : Nat) (a : Int32 × Int32 × Int32 × (Nat → Int32) × (Nat → Int32)), lfix (fun (K : Int32 × Int32 × Int32 × (Nat → Int32) × (Nat → Int32) → Option (Int32 × Int32 × Int32 × (Nat → Int32) × (Nat → Int32))) (a : Int32 × Int32 × Int32 × (Nat → Int32) × (Nat → Int32)) => fX9_comeTrue_2 N v_houses v_wishesMany v_order v_kinds v_wishes (fun (l1 : Int32) (v_frontThen : Int32) (v_downThen : Int32) (v_plotsThen : (Nat → Int32)) (v_rowThen : (Nat → Int32)) => K (l1, v_frontThen, v_downThen, v_plotsThen, v_rowThen)) a.1 a.2.1 a.2.2.1 a.2.2.2.1 a.2.2.2.2) n a = some ρ → (fun (l1 : Int32) (v_frontThen : Int32) (v_downThen : Int32) (v_plotsThen : (Nat → Int32)) (v_rowThen : (Nat → Int32)) => ∀ (H : Heap) (locs : List Loc) (ls : Array Slot), WD D A (kwX9_comeTrue cI cZ cG q q_page q_worths q_kinds q_likes q_had q_plots q_row q_plotsThen q_rowThen q_traded q_points q_ringLong q_wishes q_order q_bestOrder q_sights q_ways q_keptKinds q_keptPlots q_keptRow q_keptHad q_keptWishes q_keptSights v_pageMany v_houses v_nights v_squaresRead v_front v_down v_frontThen v_downThen v_ringsMany v_wishesMany v_ordersDone v_seenMany v_seedNow v_keptSquare v_keptFront v_keptDown v_keptNights v_keptWishesMany v_keptSeen v_hash v_order v_plotsThen v_rowThen v_kinds v_wishes) s.heap H locs → lv_has ls 4 [(0, .ref q), (1, .int l1)] → W p l e R s m args below meth c H locs cells slots Q (F0 m 2 ls [])) (a.1) (a.2.1) (a.2.2.1) (a.2.2.2.1) (a.2.2.2.2) := by
  have hx := X.1.1
  have hb := X.1.2.1
  refine lfix_W (fun K hK a h => ?_)
  obtain ⟨l1, v_frontThen, v_downThen, v_plotsThen, v_rowThen⟩ := a
  intro H locs ls hw hl
  have h : fX9_comeTrue_2 N v_houses v_wishesMany v_order v_kinds v_wishes (fun (l1 : Int32) (v_frontThen : Int32) (v_downThen : Int32) (v_plotsThen : (Nat → Int32)) (v_rowThen : (Nat → Int32)) => K (l1, v_frontThen, v_downThen, v_plotsThen, v_rowThen)) l1 v_frontThen v_downThen v_plotsThen v_rowThen = some ρ := h
  have hK_2 : ∀ (l1 : Int32) (v_frontThen : Int32) (v_downThen : Int32) (v_plotsThen : (Nat → Int32)) (v_rowThen : (Nat → Int32)), (fun (l1 : Int32) (v_frontThen : Int32) (v_downThen : Int32) (v_plotsThen : (Nat → Int32)) (v_rowThen : (Nat → Int32)) => K (l1, v_frontThen, v_downThen, v_plotsThen, v_rowThen)) l1 v_frontThen v_downThen v_plotsThen v_rowThen = some ρ → ∀ (H : Heap) (locs : List Loc) (ls : Array Slot), WD D A (kwX9_comeTrue cI cZ cG q q_page q_worths q_kinds q_likes q_had q_plots q_row q_plotsThen q_rowThen q_traded q_points q_ringLong q_wishes q_order q_bestOrder q_sights q_ways q_keptKinds q_keptPlots q_keptRow q_keptHad q_keptWishes q_keptSights v_pageMany v_houses v_nights v_squaresRead v_front v_down v_frontThen v_downThen v_ringsMany v_wishesMany v_ordersDone v_seenMany v_seedNow v_keptSquare v_keptFront v_keptDown v_keptNights v_keptWishesMany v_keptSeen v_hash v_order v_plotsThen v_rowThen v_kinds v_wishes) s.heap H locs → lv_has ls 4 [(0, .ref q), (1, .int l1)] → W p l e R s m args below meth c H locs cells slots Q (F0 m 2 ls []) := fun l1 v_frontThen v_downThen v_plotsThen v_rowThen h => hK (l1, v_frontThen, v_downThen, v_plotsThen, v_rowThen) h
  generalize (fun (l1 : Int32) (v_frontThen : Int32) (v_downThen : Int32) (v_plotsThen : (Nat → Int32)) (v_rowThen : (Nat → Int32)) => K (l1, v_frontThen, v_downThen, v_plotsThen, v_rowThen)) = K_2 at h hK_2
  have hw : WD D A (kwX9_comeTrue cI cZ cG q q_page q_worths q_kinds q_likes q_had q_plots q_row q_plotsThen q_rowThen q_traded q_points q_ringLong q_wishes q_order q_bestOrder q_sights q_ways q_keptKinds q_keptPlots q_keptRow q_keptHad q_keptWishes q_keptSights v_pageMany v_houses v_nights v_squaresRead v_front v_down v_frontThen v_downThen v_ringsMany v_wishesMany v_ordersDone v_seenMany v_seedNow v_keptSquare v_keptFront v_keptDown v_keptNights v_keptWishesMany v_keptSeen v_hash v_order v_plotsThen v_rowThen v_kinds v_wishes) s.heap H locs := hw
  have hl : lv_has ls 4 [(0, .ref q), (1, .int l1)] := hl
  unfold fX9_comeTrue_2 at h
  refine lv_iload_n hx hb dX9_comeTrue_2 rfl (lv_at hl 1 rfl) ?_
  refine lv_aload_n hx hb dX9_comeTrue_3 rfl (lv_at hl 0 rfl) ?_
  refine kget (ci := 9) (v := .int v_houses) X hw iX9 0 rfl rfl 2 (by decide) tw_625 rfl dX9_comeTrue_4 ?_
  refine lv_icmp_ge (tgt := 40) hx hb dX9_comeTrue_7 (by decide) (fun c_7 => ?_) (fun c_7 => ?_)
  · have h := ift c_7 h
    refine lv_aload_n hx hb dX9_comeTrue_40 rfl (lv_at hl 0 rfl) ?_
    refine lv_aload_n hx hb dX9_comeTrue_41 rfl (lv_at hl 0 rfl) ?_
    refine kget (ci := 9) (v := .int v_houses) X hw iX9 0 rfl rfl 2 (by decide) tw_625 rfl dX9_comeTrue_42 ?_
    refine lv_iconst (v := (1 : Int32)) hx hb dX9_comeTrue_45 (by decide) ?_
    refine lv_isub hx hb dX9_comeTrue_46 ?_
    refine kput (ci := 9) (v := .int (v_houses - (1 : Int32))) (ty := .int) X hw iX9 tyX9_ok nmX9 0 rfl rfl 15 (by decide) tw_657 rfl rfl rfl rfl (Nat.le_of_ble_eq_true rfl) dX9_comeTrue_47 (fun H locs hw => ?_)
    have hw : WD D A (kwX9_comeTrue cI cZ cG q q_page q_worths q_kinds q_likes q_had q_plots q_row q_plotsThen q_rowThen q_traded q_points q_ringLong q_wishes q_order q_bestOrder q_sights q_ways q_keptKinds q_keptPlots q_keptRow q_keptHad q_keptWishes q_keptSights v_pageMany v_houses v_nights v_squaresRead v_front v_down (v_houses - (1 : Int32)) v_downThen v_ringsMany v_wishesMany v_ordersDone v_seenMany v_seedNow v_keptSquare v_keptFront v_keptDown v_keptNights v_keptWishesMany v_keptSeen v_hash v_order v_plotsThen v_rowThen v_kinds v_wishes) s.heap H locs := hw
    refine lv_aload_n hx hb dX9_comeTrue_50 rfl (lv_at hl 0 rfl) ?_
    refine lv_iconst (v := (0 : Int32)) hx hb dX9_comeTrue_51 (by decide) ?_
    refine kput (ci := 9) (v := .int (0 : Int32)) (ty := .int) X hw iX9 tyX9_ok nmX9 0 rfl rfl 16 (by decide) tw_658 rfl rfl rfl rfl (Nat.le_of_ble_eq_true rfl) dX9_comeTrue_52 (fun H locs hw => ?_)
    have hw : WD D A (kwX9_comeTrue cI cZ cG q q_page q_worths q_kinds q_likes q_had q_plots q_row q_plotsThen q_rowThen q_traded q_points q_ringLong q_wishes q_order q_bestOrder q_sights q_ways q_keptKinds q_keptPlots q_keptRow q_keptHad q_keptWishes q_keptSights v_pageMany v_houses v_nights v_squaresRead v_front v_down (v_houses - (1 : Int32)) (0 : Int32) v_ringsMany v_wishesMany v_ordersDone v_seenMany v_seedNow v_keptSquare v_keptFront v_keptDown v_keptNights v_keptWishesMany v_keptSeen v_hash v_order v_plotsThen v_rowThen v_kinds v_wishes) s.heap H locs := hw
    refine lv_iconst (v := (0 : Int32)) hx hb dX9_comeTrue_55 (by decide) ?_
    refine lv_istore_n (lv' := [(1, .int (0 : Int32)), (0, .ref q)]) hx hb dX9_comeTrue_56 rfl hl (by decide) rfl (fun ls hl => ?_)
    refine lv_iconst (v := (1 : Int32)) hx hb dX9_comeTrue_57 (by decide) ?_
    refine lv_istore_n (lv' := [(2, .int (1 : Int32)), (1, .int (0 : Int32)), (0, .ref q)]) hx hb dX9_comeTrue_58 rfl hl (by decide) rfl (fun ls hl => ?_)
    exact wX9_comeTrue_59 X hrm ret  _ _ h _ _ _ hw (lv_sub hl [2, 1, 0] rfl)
  · have h := iff_ c_7 h
    refine lv_aload_n hx hb dX9_comeTrue_10 rfl (lv_at hl 0 rfl) ?_
    refine kget (ci := 9) (v := .ref q_plotsThen) X hw iX9 0 rfl rfl 13 (by decide) tw_654 rfl dX9_comeTrue_11 ?_
    refine lv_aload_n hx hb dX9_comeTrue_14 rfl (lv_at hl 0 rfl) ?_
    refine kget (ci := 9) (v := .ref q_order) X hw iX9 0 rfl rfl 24 (by decide) tw_830 rfl dX9_comeTrue_15 ?_
    refine lv_iload_n hx hb dX9_comeTrue_18 rfl (lv_at hl 1 rfl) ?_
    obtain ⟨g_19, h⟩ := gd h
    refine kiald X hw 1 rfl rfl g_19 dX9_comeTrue_19 ?_
    refine lv_iload_n hx hb dX9_comeTrue_20 rfl (lv_at hl 1 rfl) ?_
    obtain ⟨g_21, h⟩ := gd h
    refine kiast X hw 2 rfl rfl g_21 dX9_comeTrue_21 (fun H locs hw => ?_)
    have hw : WD D A (kwX9_comeTrue cI cZ cG q q_page q_worths q_kinds q_likes q_had q_plots q_row q_plotsThen q_rowThen q_traded q_points q_ringLong q_wishes q_order q_bestOrder q_sights q_ways q_keptKinds q_keptPlots q_keptRow q_keptHad q_keptWishes q_keptSights v_pageMany v_houses v_nights v_squaresRead v_front v_down v_frontThen v_downThen v_ringsMany v_wishesMany v_ordersDone v_seenMany v_seedNow v_keptSquare v_keptFront v_keptDown v_keptNights v_keptWishesMany v_keptSeen v_hash v_order (upd v_plotsThen ((v_order (l1).toNatClampNeg)).toNatClampNeg l1) v_rowThen v_kinds v_wishes) s.heap H locs := hw
    refine lv_aload_n hx hb dX9_comeTrue_22 rfl (lv_at hl 0 rfl) ?_
    refine kget (ci := 9) (v := .ref q_rowThen) X hw iX9 0 rfl rfl 14 (by decide) tw_656 rfl dX9_comeTrue_23 ?_
    refine lv_iload_n hx hb dX9_comeTrue_26 rfl (lv_at hl 1 rfl) ?_
    refine lv_aload_n hx hb dX9_comeTrue_27 rfl (lv_at hl 0 rfl) ?_
    refine kget (ci := 9) (v := .ref q_order) X hw iX9 0 rfl rfl 24 (by decide) tw_830 rfl dX9_comeTrue_28 ?_
    refine lv_iload_n hx hb dX9_comeTrue_31 rfl (lv_at hl 1 rfl) ?_
    obtain ⟨g_32, h⟩ := gd h
    refine kiald X hw 1 rfl rfl g_32 dX9_comeTrue_32 ?_
    obtain ⟨g_33, h⟩ := gd h
    refine kiast X hw 3 rfl rfl g_33 dX9_comeTrue_33 (fun H locs hw => ?_)
    have hw : WD D A (kwX9_comeTrue cI cZ cG q q_page q_worths q_kinds q_likes q_had q_plots q_row q_plotsThen q_rowThen q_traded q_points q_ringLong q_wishes q_order q_bestOrder q_sights q_ways q_keptKinds q_keptPlots q_keptRow q_keptHad q_keptWishes q_keptSights v_pageMany v_houses v_nights v_squaresRead v_front v_down v_frontThen v_downThen v_ringsMany v_wishesMany v_ordersDone v_seenMany v_seedNow v_keptSquare v_keptFront v_keptDown v_keptNights v_keptWishesMany v_keptSeen v_hash v_order (upd v_plotsThen ((v_order (l1).toNatClampNeg)).toNatClampNeg l1) (upd v_rowThen (l1).toNatClampNeg (v_order (l1).toNatClampNeg)) v_kinds v_wishes) s.heap H locs := hw
    refine lv_iinc (v := (l1 + (1 : Int32))) (lv' := [(1, .int (l1 + (1 : Int32))), (0, .ref q)]) hx hb dX9_comeTrue_34 hl (k := 1) rfl (congrArg (l1 + ·) (by decide)) (by decide) rfl (fun ls hl => ?_)
    refine lv_goto (tgt := 2) hx hb dX9_comeTrue_37 (by decide) ?_
    exact hK_2 _ _ _ _ _ h _ _ _ hw (lv_sub hl [1, 0] rfl)
set_option maxHeartbeats 4000000 in
set_option maxRecDepth 100000 in
theorem wX9_comeTrue {p : Program} {l : Launch} {e : Env} {R : Room} {s : State} {m : MethodId} {args : Array Value} {below : List Frame} {meth : Method} {c : Code} {cells slots : Nat} {Q : State → Prop} {D : va_G} {A : Nat → Prop} {cI cZ cG : ClassId} {q q_page q_worths q_kinds q_likes q_had q_plots q_row q_plotsThen q_rowThen q_traded q_points q_ringLong q_wishes q_order q_bestOrder q_sights q_ways q_keptKinds q_keptPlots q_keptRow q_keptHad q_keptWishes q_keptSights : Nat} {v_pageMany : Int32} {v_houses : Int32} {v_nights : Int32} {v_squaresRead : Int32} {v_front : Int32} {v_down : Int32} {v_frontThen : Int32} {v_downThen : Int32} {v_ringsMany : Int32} {v_wishesMany : Int32} {v_ordersDone : Int32} {v_seenMany : Int32} {v_seedNow : Int32} {v_keptSquare : Int32} {v_keptFront : Int32} {v_keptDown : Int32} {v_keptNights : Int32} {v_keptWishesMany : Int32} {v_keptSeen : Int32} {v_hash : Int64} {v_order : (Nat → Int32)} {v_plotsThen : (Nat → Int32)} {v_rowThen : (Nat → Int32)} {v_kinds : (Nat → Int32)} {v_wishes : (Nat → Int32)} {N : Nat} {ρ : Int32 × Int32 × Int32 × (Nat → Int32) × (Nat → Int32)} (X : CX p s m args c cX9_comeTrue 4 RX9 D (TY cI cZ cG) A) (hrm : RM R 3 67 cells slots) (ret : ∀ (pc : Nat) (H : Heap) (locs : List Loc) (ls : Array Slot), decode cX9_comeTrue pc = .ok (.ireturn, 1) → WD D A (kwX9_comeTrue cI cZ cG q q_page q_worths q_kinds q_likes q_had q_plots q_row q_plotsThen q_rowThen q_traded q_points q_ringLong q_wishes q_order q_bestOrder q_sights q_ways q_keptKinds q_keptPlots q_keptRow q_keptHad q_keptWishes q_keptSights v_pageMany v_houses v_nights v_squaresRead v_front v_down (ρ.2.1) (ρ.2.2.1) v_ringsMany v_wishesMany v_ordersDone v_seenMany v_seedNow v_keptSquare v_keptFront v_keptDown v_keptNights v_keptWishesMany v_keptSeen v_hash v_order (ρ.2.2.2.1) (ρ.2.2.2.2) v_kinds v_wishes) s.heap H locs → W p l e R s m args below meth c H locs cells slots Q (F0 m pc ls [.int ρ.1])) (h : fX9_comeTrue N v_houses v_wishesMany v_order v_kinds v_wishes v_frontThen v_downThen v_plotsThen v_rowThen  = some ρ) (H : Heap) (locs : List Loc) (ls : Array Slot) (hw : WD D A (kwX9_comeTrue cI cZ cG q q_page q_worths q_kinds q_likes q_had q_plots q_row q_plotsThen q_rowThen q_traded q_points q_ringLong q_wishes q_order q_bestOrder q_sights q_ways q_keptKinds q_keptPlots q_keptRow q_keptHad q_keptWishes q_keptSights v_pageMany v_houses v_nights v_squaresRead v_front v_down v_frontThen v_downThen v_ringsMany v_wishesMany v_ordersDone v_seenMany v_seedNow v_keptSquare v_keptFront v_keptDown v_keptNights v_keptWishesMany v_keptSeen v_hash v_order v_plotsThen v_rowThen v_kinds v_wishes) s.heap H locs) (hl : lv_has ls 4 [(0, .ref q)]) : W p l e R s m args below meth c H locs cells slots Q (F0 m 0 ls []) := by
  have hx := X.1.1
  have hb := X.1.2.1
  unfold fX9_comeTrue at h
  refine lv_iconst (v := (0 : Int32)) hx hb dX9_comeTrue_0 (by decide) ?_
  refine lv_istore_n (lv' := [(1, .int (0 : Int32)), (0, .ref q)]) hx hb dX9_comeTrue_1 rfl hl (by decide) rfl (fun ls hl => ?_)
  exact wX9_comeTrue_2 X hrm ret  _ _ h _ _ _ hw (lv_sub hl [1, 0] rfl)
set_option maxHeartbeats 4000000 in
set_option maxRecDepth 100000 in
theorem cX9_comeTrue_ct (l : Launch) (D : va_G) (cI cZ cG : ClassId) (q q_page q_worths q_kinds q_likes q_had q_plots q_row q_plotsThen q_rowThen q_traded q_points q_ringLong q_wishes q_order q_bestOrder q_sights q_ways q_keptKinds q_keptPlots q_keptRow q_keptHad q_keptWishes q_keptSights : Nat)  (v_pageMany : Int32) (v_houses : Int32) (v_nights : Int32) (v_squaresRead : Int32) (v_front : Int32) (v_down : Int32) (v_frontThen : Int32) (v_downThen : Int32) (v_ringsMany : Int32) (v_wishesMany : Int32) (v_ordersDone : Int32) (v_seenMany : Int32) (v_seedNow : Int32) (v_keptSquare : Int32) (v_keptFront : Int32) (v_keptDown : Int32) (v_keptNights : Int32) (v_keptWishesMany : Int32) (v_keptSeen : Int32) (v_hash : Int64) (v_order : (Nat → Int32)) (v_plotsThen : (Nat → Int32)) (v_rowThen : (Nat → Int32)) (v_kinds : (Nat → Int32)) (v_wishes : (Nat → Int32))  (N : Nat) (ρ : Int32 × Int32 × Int32 × (Nat → Int32) × (Nat → Int32)) (h : fX9_comeTrue N v_houses v_wishesMany v_order v_kinds v_wishes v_frontThen v_downThen v_plotsThen v_rowThen  = some ρ) (sz : Nat) : Met l yX9_comeTrue (wz yX9_comeTrue cX9_comeTrue 4 (some .int)) (cRm 3 67) (cPre D (TY cI cZ cG) [.ref q] (kwX9_comeTrue cI cZ cG q q_page q_worths q_kinds q_likes q_had q_plots q_row q_plotsThen q_rowThen q_traded q_points q_ringLong q_wishes q_order q_bestOrder q_sights q_ways q_keptKinds q_keptPlots q_keptRow q_keptHad q_keptWishes q_keptSights v_pageMany v_houses v_nights v_squaresRead v_front v_down v_frontThen v_downThen v_ringsMany v_wishesMany v_ordersDone v_seenMany v_seedNow v_keptSquare v_keptFront v_keptDown v_keptNights v_keptWishesMany v_keptSeen v_hash v_order v_plotsThen v_rowThen v_kinds v_wishes) sz) (cQi D (ρ.1) (kwX9_comeTrue cI cZ cG q q_page q_worths q_kinds q_likes q_had q_plots q_row q_plotsThen q_rowThen q_traded q_points q_ringLong q_wishes q_order q_bestOrder q_sights q_ways q_keptKinds q_keptPlots q_keptRow q_keptHad q_keptWishes q_keptSights v_pageMany v_houses v_nights v_squaresRead v_front v_down v_frontThen v_downThen v_ringsMany v_wishesMany v_ordersDone v_seenMany v_seedNow v_keptSquare v_keptFront v_keptDown v_keptNights v_keptWishesMany v_keptSeen v_hash v_order v_plotsThen v_rowThen v_kinds v_wishes) (kwX9_comeTrue cI cZ cG q q_page q_worths q_kinds q_likes q_had q_plots q_row q_plotsThen q_rowThen q_traded q_points q_ringLong q_wishes q_order q_bestOrder q_sights q_ways q_keptKinds q_keptPlots q_keptRow q_keptHad q_keptWishes q_keptSights v_pageMany v_houses v_nights v_squaresRead v_front v_down (ρ.2.1) (ρ.2.2.1) v_ringsMany v_wishesMany v_ordersDone v_seenMany v_seedNow v_keptSquare v_keptFront v_keptDown v_keptNights v_keptWishesMany v_keptSeen v_hash v_order (ρ.2.2.2.1) (ρ.2.2.2.2) v_kinds v_wishes) sz) 0 0 (va_A (kwX9_comeTrue cI cZ cG q q_page q_worths q_kinds q_likes q_had q_plots q_row q_plotsThen q_rowThen q_traded q_points q_ringLong q_wishes q_order q_bestOrder q_sights q_ways q_keptKinds q_keptPlots q_keptRow q_keptHad q_keptWishes q_keptSights v_pageMany v_houses v_nights v_squaresRead v_front v_down v_frontThen v_downThen v_ringsMany v_wishesMany v_ordersDone v_seenMany v_seedNow v_keptSquare v_keptFront v_keptDown v_keptNights v_keptWishesMany v_keptSeen v_hash v_order v_plotsThen v_rowThen v_kinds v_wishes) sz) :=
  mk_i (by decide) (Nat.le_of_ble_eq_true rfl) (fun X hrm ret hw hl => wX9_comeTrue X hrm ret h _ _ _ hw hl)
theorem dX9_nextOrder_0 : decode cX9_nextOrder 0 = .ok (.aload_n 0, 1) := by decide +kernel
theorem dX9_nextOrder_1 : decode cX9_nextOrder 1 = .ok (.getfield 112, 3) := by decide +kernel
theorem dX9_nextOrder_4 : decode cX9_nextOrder 4 = .ok (.iconst 2, 1) := by decide +kernel
theorem dX9_nextOrder_5 : decode cX9_nextOrder 5 = .ok (.isub, 1) := by decide +kernel
theorem dX9_nextOrder_6 : decode cX9_nextOrder 6 = .ok (.istore_n 1, 1) := by decide +kernel
theorem dX9_nextOrder_7 : decode cX9_nextOrder 7 = .ok (.iload_n 1, 1) := by decide +kernel
theorem dX9_nextOrder_8 : decode cX9_nextOrder 8 = .ok (.ifCond .lt 26, 3) := by decide +kernel
theorem dX9_nextOrder_11 : decode cX9_nextOrder 11 = .ok (.aload_n 0, 1) := by decide +kernel
theorem dX9_nextOrder_12 : decode cX9_nextOrder 12 = .ok (.getfield 49, 3) := by decide +kernel
theorem dX9_nextOrder_15 : decode cX9_nextOrder 15 = .ok (.iload_n 1, 1) := by decide +kernel
theorem dX9_nextOrder_16 : decode cX9_nextOrder 16 = .ok (.iaload, 1) := by decide +kernel
theorem dX9_nextOrder_17 : decode cX9_nextOrder 17 = .ok (.aload_n 0, 1) := by decide +kernel
theorem dX9_nextOrder_18 : decode cX9_nextOrder 18 = .ok (.getfield 49, 3) := by decide +kernel
theorem dX9_nextOrder_21 : decode cX9_nextOrder 21 = .ok (.iload_n 1, 1) := by decide +kernel
theorem dX9_nextOrder_22 : decode cX9_nextOrder 22 = .ok (.iconst 1, 1) := by decide +kernel
theorem dX9_nextOrder_23 : decode cX9_nextOrder 23 = .ok (.iadd, 1) := by decide +kernel
theorem dX9_nextOrder_24 : decode cX9_nextOrder 24 = .ok (.iaload, 1) := by decide +kernel
theorem dX9_nextOrder_25 : decode cX9_nextOrder 25 = .ok (.if_icmp .le 9, 3) := by decide +kernel
theorem dX9_nextOrder_28 : decode cX9_nextOrder 28 = .ok (.iinc 1 (-1), 3) := by decide +kernel
theorem dX9_nextOrder_31 : decode cX9_nextOrder 31 = .ok (.goto (-24), 3) := by decide +kernel
theorem dX9_nextOrder_34 : decode cX9_nextOrder 34 = .ok (.iload_n 1, 1) := by decide +kernel
theorem dX9_nextOrder_35 : decode cX9_nextOrder 35 = .ok (.ifCond .ge 5, 3) := by decide +kernel
theorem dX9_nextOrder_38 : decode cX9_nextOrder 38 = .ok (.iconst 0, 1) := by decide +kernel
theorem dX9_nextOrder_39 : decode cX9_nextOrder 39 = .ok (.ireturn, 1) := by decide +kernel
theorem dX9_nextOrder_40 : decode cX9_nextOrder 40 = .ok (.aload_n 0, 1) := by decide +kernel
theorem dX9_nextOrder_41 : decode cX9_nextOrder 41 = .ok (.getfield 112, 3) := by decide +kernel
theorem dX9_nextOrder_44 : decode cX9_nextOrder 44 = .ok (.iconst 1, 1) := by decide +kernel
theorem dX9_nextOrder_45 : decode cX9_nextOrder 45 = .ok (.isub, 1) := by decide +kernel
theorem dX9_nextOrder_46 : decode cX9_nextOrder 46 = .ok (.istore_n 2, 1) := by decide +kernel
theorem dX9_nextOrder_47 : decode cX9_nextOrder 47 = .ok (.aload_n 0, 1) := by decide +kernel
theorem dX9_nextOrder_48 : decode cX9_nextOrder 48 = .ok (.getfield 49, 3) := by decide +kernel
theorem dX9_nextOrder_51 : decode cX9_nextOrder 51 = .ok (.iload_n 2, 1) := by decide +kernel
theorem dX9_nextOrder_52 : decode cX9_nextOrder 52 = .ok (.iaload, 1) := by decide +kernel
theorem dX9_nextOrder_53 : decode cX9_nextOrder 53 = .ok (.aload_n 0, 1) := by decide +kernel
theorem dX9_nextOrder_54 : decode cX9_nextOrder 54 = .ok (.getfield 49, 3) := by decide +kernel
theorem dX9_nextOrder_57 : decode cX9_nextOrder 57 = .ok (.iload_n 1, 1) := by decide +kernel
theorem dX9_nextOrder_58 : decode cX9_nextOrder 58 = .ok (.iaload, 1) := by decide +kernel
theorem dX9_nextOrder_59 : decode cX9_nextOrder 59 = .ok (.if_icmp .ge 9, 3) := by decide +kernel
theorem dX9_nextOrder_62 : decode cX9_nextOrder 62 = .ok (.iinc 2 (-1), 3) := by decide +kernel
theorem dX9_nextOrder_65 : decode cX9_nextOrder 65 = .ok (.goto (-18), 3) := by decide +kernel
theorem dX9_nextOrder_68 : decode cX9_nextOrder 68 = .ok (.aload_n 0, 1) := by decide +kernel
theorem dX9_nextOrder_69 : decode cX9_nextOrder 69 = .ok (.getfield 49, 3) := by decide +kernel
theorem dX9_nextOrder_72 : decode cX9_nextOrder 72 = .ok (.iload_n 1, 1) := by decide +kernel
theorem dX9_nextOrder_73 : decode cX9_nextOrder 73 = .ok (.iaload, 1) := by decide +kernel
theorem dX9_nextOrder_74 : decode cX9_nextOrder 74 = .ok (.istore_n 3, 1) := by decide +kernel
theorem dX9_nextOrder_75 : decode cX9_nextOrder 75 = .ok (.aload_n 0, 1) := by decide +kernel
theorem dX9_nextOrder_76 : decode cX9_nextOrder 76 = .ok (.getfield 49, 3) := by decide +kernel
theorem dX9_nextOrder_79 : decode cX9_nextOrder 79 = .ok (.iload_n 1, 1) := by decide +kernel
theorem dX9_nextOrder_80 : decode cX9_nextOrder 80 = .ok (.aload_n 0, 1) := by decide +kernel
theorem dX9_nextOrder_81 : decode cX9_nextOrder 81 = .ok (.getfield 49, 3) := by decide +kernel
theorem dX9_nextOrder_84 : decode cX9_nextOrder 84 = .ok (.iload_n 2, 1) := by decide +kernel
theorem dX9_nextOrder_85 : decode cX9_nextOrder 85 = .ok (.iaload, 1) := by decide +kernel
theorem dX9_nextOrder_86 : decode cX9_nextOrder 86 = .ok (.iastore, 1) := by decide +kernel
theorem dX9_nextOrder_87 : decode cX9_nextOrder 87 = .ok (.aload_n 0, 1) := by decide +kernel
theorem dX9_nextOrder_88 : decode cX9_nextOrder 88 = .ok (.getfield 49, 3) := by decide +kernel
theorem dX9_nextOrder_91 : decode cX9_nextOrder 91 = .ok (.iload_n 2, 1) := by decide +kernel
theorem dX9_nextOrder_92 : decode cX9_nextOrder 92 = .ok (.iload_n 3, 1) := by decide +kernel
theorem dX9_nextOrder_93 : decode cX9_nextOrder 93 = .ok (.iastore, 1) := by decide +kernel
theorem dX9_nextOrder_94 : decode cX9_nextOrder 94 = .ok (.iload_n 1, 1) := by decide +kernel
theorem dX9_nextOrder_95 : decode cX9_nextOrder 95 = .ok (.iconst 1, 1) := by decide +kernel
theorem dX9_nextOrder_96 : decode cX9_nextOrder 96 = .ok (.iadd, 1) := by decide +kernel
theorem dX9_nextOrder_97 : decode cX9_nextOrder 97 = .ok (.istore 4, 2) := by decide +kernel
theorem dX9_nextOrder_99 : decode cX9_nextOrder 99 = .ok (.aload_n 0, 1) := by decide +kernel
theorem dX9_nextOrder_100 : decode cX9_nextOrder 100 = .ok (.getfield 112, 3) := by decide +kernel
theorem dX9_nextOrder_103 : decode cX9_nextOrder 103 = .ok (.iconst 1, 1) := by decide +kernel
theorem dX9_nextOrder_104 : decode cX9_nextOrder 104 = .ok (.isub, 1) := by decide +kernel
theorem dX9_nextOrder_105 : decode cX9_nextOrder 105 = .ok (.istore 5, 2) := by decide +kernel
theorem dX9_nextOrder_107 : decode cX9_nextOrder 107 = .ok (.iload 4, 2) := by decide +kernel
theorem dX9_nextOrder_109 : decode cX9_nextOrder 109 = .ok (.iload 5, 2) := by decide +kernel
theorem dX9_nextOrder_111 : decode cX9_nextOrder 111 = .ok (.if_icmp .ge 44, 3) := by decide +kernel
theorem dX9_nextOrder_114 : decode cX9_nextOrder 114 = .ok (.aload_n 0, 1) := by decide +kernel
theorem dX9_nextOrder_115 : decode cX9_nextOrder 115 = .ok (.getfield 49, 3) := by decide +kernel
theorem dX9_nextOrder_118 : decode cX9_nextOrder 118 = .ok (.iload 4, 2) := by decide +kernel
theorem dX9_nextOrder_120 : decode cX9_nextOrder 120 = .ok (.iaload, 1) := by decide +kernel
theorem dX9_nextOrder_121 : decode cX9_nextOrder 121 = .ok (.istore 6, 2) := by decide +kernel
theorem dX9_nextOrder_123 : decode cX9_nextOrder 123 = .ok (.aload_n 0, 1) := by decide +kernel
theorem dX9_nextOrder_124 : decode cX9_nextOrder 124 = .ok (.getfield 49, 3) := by decide +kernel
theorem dX9_nextOrder_127 : decode cX9_nextOrder 127 = .ok (.iload 4, 2) := by decide +kernel
theorem dX9_nextOrder_129 : decode cX9_nextOrder 129 = .ok (.aload_n 0, 1) := by decide +kernel
theorem dX9_nextOrder_130 : decode cX9_nextOrder 130 = .ok (.getfield 49, 3) := by decide +kernel
theorem dX9_nextOrder_133 : decode cX9_nextOrder 133 = .ok (.iload 5, 2) := by decide +kernel
theorem dX9_nextOrder_135 : decode cX9_nextOrder 135 = .ok (.iaload, 1) := by decide +kernel
theorem dX9_nextOrder_136 : decode cX9_nextOrder 136 = .ok (.iastore, 1) := by decide +kernel
theorem dX9_nextOrder_137 : decode cX9_nextOrder 137 = .ok (.aload_n 0, 1) := by decide +kernel
theorem dX9_nextOrder_138 : decode cX9_nextOrder 138 = .ok (.getfield 49, 3) := by decide +kernel
theorem dX9_nextOrder_141 : decode cX9_nextOrder 141 = .ok (.iload 5, 2) := by decide +kernel
theorem dX9_nextOrder_143 : decode cX9_nextOrder 143 = .ok (.iload 6, 2) := by decide +kernel
theorem dX9_nextOrder_145 : decode cX9_nextOrder 145 = .ok (.iastore, 1) := by decide +kernel
theorem dX9_nextOrder_146 : decode cX9_nextOrder 146 = .ok (.iinc 4 1, 3) := by decide +kernel
theorem dX9_nextOrder_149 : decode cX9_nextOrder 149 = .ok (.iinc 5 (-1), 3) := by decide +kernel
theorem dX9_nextOrder_152 : decode cX9_nextOrder 152 = .ok (.goto (-45), 3) := by decide +kernel
theorem dX9_nextOrder_155 : decode cX9_nextOrder 155 = .ok (.iconst 1, 1) := by decide +kernel
theorem dX9_nextOrder_156 : decode cX9_nextOrder 156 = .ok (.ireturn, 1) := by decide +kernel
abbrev kwX9_nextOrder (cI cZ cG : ClassId) (q q_page q_worths q_kinds q_likes q_had q_plots q_row q_plotsThen q_rowThen q_traded q_points q_ringLong q_wishes q_order q_bestOrder q_sights q_ways q_keptKinds q_keptPlots q_keptRow q_keptHad q_keptWishes q_keptSights : Nat) (v_pageMany : Int32) (v_houses : Int32) (v_nights : Int32) (v_squaresRead : Int32) (v_front : Int32) (v_down : Int32) (v_frontThen : Int32) (v_downThen : Int32) (v_ringsMany : Int32) (v_wishesMany : Int32) (v_ordersDone : Int32) (v_seenMany : Int32) (v_seedNow : Int32) (v_keptSquare : Int32) (v_keptFront : Int32) (v_keptDown : Int32) (v_keptNights : Int32) (v_keptWishesMany : Int32) (v_keptSeen : Int32) (v_hash : Int64) (v_order : (Nat → Int32)) : va_W := [(q, .inr (9, [.ref q_page, .int v_pageMany, .int v_houses, .int v_nights, .int v_squaresRead, .ref q_worths, .ref q_kinds, .ref q_likes, .ref q_had, .ref q_plots, .ref q_row, .int v_front, .int v_down, .ref q_plotsThen, .ref q_rowThen, .int v_frontThen, .int v_downThen, .ref q_traded, .ref q_points, .int v_ringsMany, .ref q_ringLong, .int v_wishesMany, .ref q_wishes, .int v_ordersDone, .ref q_order, .ref q_bestOrder, .int v_seenMany, .ref q_sights, .ref q_ways, .int v_seedNow, .int v_keptSquare, .int v_keptFront, .int v_keptDown, .int v_keptNights, .int v_keptWishesMany, .int v_keptSeen, .ref q_keptKinds, .ref q_keptPlots, .ref q_keptRow, .ref q_keptHad, .ref q_keptWishes, .ref q_keptSights, .long v_hash])), (q_order, .inl (cI, 6, .inl v_order))]
noncomputable def fX9_nextOrder_107 (N : Nat) (v_houses : Int32)  (K_107 : Int32 → Int32 → (Nat → Int32) → Option (Int32 × (Nat → Int32))) (l4 : Int32) (l5 : Int32) (v_order : (Nat → Int32)) : Option (Int32 × (Nat → Int32)) := if l5 ≤ l4 then (some ((1 : Int32), v_order)) else (if l4 < 0 ∨ 6 ≤ (l4).toNatClampNeg then none else (if l5 < 0 ∨ 6 ≤ (l5).toNatClampNeg then none else (if l4 < 0 ∨ 6 ≤ (l4).toNatClampNeg then none else (if l5 < 0 ∨ 6 ≤ (l5).toNatClampNeg then none else (K_107 (l4 + (1 : Int32)) (l5 + (-1 : Int32)) (upd (upd v_order (l4).toNatClampNeg (v_order (l5).toNatClampNeg)) (l5).toNatClampNeg (v_order (l4).toNatClampNeg)))))))
noncomputable def fX9_nextOrder_47 (N : Nat) (v_houses : Int32)  (K_47 : Int32 → Int32 → (Nat → Int32) → Option (Int32 × (Nat → Int32))) (l1 : Int32) (l2 : Int32) (v_order : (Nat → Int32)) : Option (Int32 × (Nat → Int32)) := if l2 < 0 ∨ 6 ≤ (l2).toNatClampNeg then none else (if l1 < 0 ∨ 6 ≤ (l1).toNatClampNeg then none else (if (v_order (l1).toNatClampNeg) ≤ (v_order (l2).toNatClampNeg) then (if l1 < 0 ∨ 6 ≤ (l1).toNatClampNeg then none else (if l2 < 0 ∨ 6 ≤ (l2).toNatClampNeg then none else (if l1 < 0 ∨ 6 ≤ (l1).toNatClampNeg then none else (if l2 < 0 ∨ 6 ≤ (l2).toNatClampNeg then none else (lfix (fun (K : Int32 × Int32 × (Nat → Int32) → Option (Int32 × (Nat → Int32))) (a : Int32 × Int32 × (Nat → Int32)) => fX9_nextOrder_107 N v_houses (fun (l4 : Int32) (l5 : Int32) (v_order : (Nat → Int32)) => K (l4, l5, v_order)) a.1 a.2.1 a.2.2) N ((l1 + (1 : Int32)), (v_houses - (1 : Int32)), (upd (upd v_order (l1).toNatClampNeg (v_order (l2).toNatClampNeg)) (l2).toNatClampNeg (v_order (l1).toNatClampNeg)))))))) else (K_47 l1 (l2 + (-1 : Int32)) v_order)))
noncomputable def fX9_nextOrder_7 (N : Nat) (v_houses : Int32)  (K_7 : Int32 → (Nat → Int32) → Option (Int32 × (Nat → Int32))) (l1 : Int32) (v_order : (Nat → Int32)) : Option (Int32 × (Nat → Int32)) := if l1 < 0 then (if 0 ≤ l1 then (lfix (fun (K : Int32 × Int32 × (Nat → Int32) → Option (Int32 × (Nat → Int32))) (a : Int32 × Int32 × (Nat → Int32)) => fX9_nextOrder_47 N v_houses (fun (l1 : Int32) (l2 : Int32) (v_order : (Nat → Int32)) => K (l1, l2, v_order)) a.1 a.2.1 a.2.2) N (l1, (v_houses - (1 : Int32)), v_order)) else (some ((0 : Int32), v_order))) else (if l1 < 0 ∨ 6 ≤ (l1).toNatClampNeg then none else (if (l1 + (1 : Int32)) < 0 ∨ 6 ≤ ((l1 + (1 : Int32))).toNatClampNeg then none else (if (v_order (l1).toNatClampNeg) ≤ (v_order ((l1 + (1 : Int32))).toNatClampNeg) then (if 0 ≤ l1 then (lfix (fun (K : Int32 × Int32 × (Nat → Int32) → Option (Int32 × (Nat → Int32))) (a : Int32 × Int32 × (Nat → Int32)) => fX9_nextOrder_47 N v_houses (fun (l1 : Int32) (l2 : Int32) (v_order : (Nat → Int32)) => K (l1, l2, v_order)) a.1 a.2.1 a.2.2) N (l1, (v_houses - (1 : Int32)), v_order)) else (some ((0 : Int32), v_order))) else (K_7 (l1 + (-1 : Int32)) v_order))))
noncomputable def fX9_nextOrder (N : Nat) (v_houses : Int32) (v_order : (Nat → Int32))  : Option (Int32 × (Nat → Int32)) := lfix (fun (K : Int32 × (Nat → Int32) → Option (Int32 × (Nat → Int32))) (a : Int32 × (Nat → Int32)) => fX9_nextOrder_7 N v_houses (fun (l1 : Int32) (v_order : (Nat → Int32)) => K (l1, v_order)) a.1 a.2) N ((v_houses - (2 : Int32)), v_order)
set_option maxHeartbeats 4000000 in
set_option maxRecDepth 100000 in
theorem wX9_nextOrder_107 {p : Program} {l : Launch} {e : Env} {R : Room} {s : State} {m : MethodId} {args : Array Value} {below : List Frame} {meth : Method} {c : Code} {cells slots : Nat} {Q : State → Prop} {D : va_G} {A : Nat → Prop} {cI cZ cG : ClassId} {q q_page q_worths q_kinds q_likes q_had q_plots q_row q_plotsThen q_rowThen q_traded q_points q_ringLong q_wishes q_order q_bestOrder q_sights q_ways q_keptKinds q_keptPlots q_keptRow q_keptHad q_keptWishes q_keptSights : Nat} {v_pageMany : Int32} {v_houses : Int32} {v_nights : Int32} {v_squaresRead : Int32} {v_front : Int32} {v_down : Int32} {v_frontThen : Int32} {v_downThen : Int32} {v_ringsMany : Int32} {v_wishesMany : Int32} {v_ordersDone : Int32} {v_seenMany : Int32} {v_seedNow : Int32} {v_keptSquare : Int32} {v_keptFront : Int32} {v_keptDown : Int32} {v_keptNights : Int32} {v_keptWishesMany : Int32} {v_keptSeen : Int32} {v_hash : Int64} {N : Nat} {ρ : Int32 × (Nat → Int32)} (X : CX p s m args c cX9_nextOrder 7 RX9 D (TY cI cZ cG) A) (hrm : RM R 0 0 cells slots) (ret : ∀ (pc : Nat) (H : Heap) (locs : List Loc) (ls : Array Slot), narrow .boolean (.int ρ.1) = .int ρ.1 → decode cX9_nextOrder pc = .ok (.ireturn, 1) → WD D A (kwX9_nextOrder cI cZ cG q q_page q_worths q_kinds q_likes q_had q_plots q_row q_plotsThen q_rowThen q_traded q_points q_ringLong q_wishes q_order q_bestOrder q_sights q_ways q_keptKinds q_keptPlots q_keptRow q_keptHad q_keptWishes q_keptSights v_pageMany v_houses v_nights v_squaresRead v_front v_down v_frontThen v_downThen v_ringsMany v_wishesMany v_ordersDone v_seenMany v_seedNow v_keptSquare v_keptFront v_keptDown v_keptNights v_keptWishesMany v_keptSeen v_hash (ρ.2)) s.heap H locs → W p l e R s m args below meth c H locs cells slots Q (F0 m pc ls [.int ρ.1]))  : ∀ (n : Nat) (a : Int32 × Int32 × (Nat → Int32)), lfix (fun (K : Int32 × Int32 × (Nat → Int32) → Option (Int32 × (Nat → Int32))) (a : Int32 × Int32 × (Nat → Int32)) => fX9_nextOrder_107 N v_houses (fun (l4 : Int32) (l5 : Int32) (v_order : (Nat → Int32)) => K (l4, l5, v_order)) a.1 a.2.1 a.2.2) n a = some ρ → (fun (l4 : Int32) (l5 : Int32) (v_order : (Nat → Int32)) => ∀ (H : Heap) (locs : List Loc) (ls : Array Slot), WD D A (kwX9_nextOrder cI cZ cG q q_page q_worths q_kinds q_likes q_had q_plots q_row q_plotsThen q_rowThen q_traded q_points q_ringLong q_wishes q_order q_bestOrder q_sights q_ways q_keptKinds q_keptPlots q_keptRow q_keptHad q_keptWishes q_keptSights v_pageMany v_houses v_nights v_squaresRead v_front v_down v_frontThen v_downThen v_ringsMany v_wishesMany v_ordersDone v_seenMany v_seedNow v_keptSquare v_keptFront v_keptDown v_keptNights v_keptWishesMany v_keptSeen v_hash v_order) s.heap H locs → lv_has ls 7 [(0, .ref q), (4, .int l4), (5, .int l5)] → W p l e R s m args below meth c H locs cells slots Q (F0 m 107 ls [])) (a.1) (a.2.1) (a.2.2) := by
  have hx := X.1.1
  have hb := X.1.2.1
  refine lfix_W (fun K hK a h => ?_)
  obtain ⟨l4, l5, v_order⟩ := a
  intro H locs ls hw hl
  have h : fX9_nextOrder_107 N v_houses (fun (l4 : Int32) (l5 : Int32) (v_order : (Nat → Int32)) => K (l4, l5, v_order)) l4 l5 v_order = some ρ := h
  have hK_107 : ∀ (l4 : Int32) (l5 : Int32) (v_order : (Nat → Int32)), (fun (l4 : Int32) (l5 : Int32) (v_order : (Nat → Int32)) => K (l4, l5, v_order)) l4 l5 v_order = some ρ → ∀ (H : Heap) (locs : List Loc) (ls : Array Slot), WD D A (kwX9_nextOrder cI cZ cG q q_page q_worths q_kinds q_likes q_had q_plots q_row q_plotsThen q_rowThen q_traded q_points q_ringLong q_wishes q_order q_bestOrder q_sights q_ways q_keptKinds q_keptPlots q_keptRow q_keptHad q_keptWishes q_keptSights v_pageMany v_houses v_nights v_squaresRead v_front v_down v_frontThen v_downThen v_ringsMany v_wishesMany v_ordersDone v_seenMany v_seedNow v_keptSquare v_keptFront v_keptDown v_keptNights v_keptWishesMany v_keptSeen v_hash v_order) s.heap H locs → lv_has ls 7 [(0, .ref q), (4, .int l4), (5, .int l5)] → W p l e R s m args below meth c H locs cells slots Q (F0 m 107 ls []) := fun l4 l5 v_order h => hK (l4, l5, v_order) h
  generalize (fun (l4 : Int32) (l5 : Int32) (v_order : (Nat → Int32)) => K (l4, l5, v_order)) = K_107 at h hK_107
  have hw : WD D A (kwX9_nextOrder cI cZ cG q q_page q_worths q_kinds q_likes q_had q_plots q_row q_plotsThen q_rowThen q_traded q_points q_ringLong q_wishes q_order q_bestOrder q_sights q_ways q_keptKinds q_keptPlots q_keptRow q_keptHad q_keptWishes q_keptSights v_pageMany v_houses v_nights v_squaresRead v_front v_down v_frontThen v_downThen v_ringsMany v_wishesMany v_ordersDone v_seenMany v_seedNow v_keptSquare v_keptFront v_keptDown v_keptNights v_keptWishesMany v_keptSeen v_hash v_order) s.heap H locs := hw
  have hl : lv_has ls 7 [(0, .ref q), (4, .int l4), (5, .int l5)] := hl
  unfold fX9_nextOrder_107 at h
  refine lv_iload hx hb dX9_nextOrder_107 (lv_at hl 1 rfl) ?_
  refine lv_iload hx hb dX9_nextOrder_109 (lv_at hl 2 rfl) ?_
  refine lv_icmp_ge (tgt := 155) hx hb dX9_nextOrder_111 (by decide) (fun c_111 => ?_) (fun c_111 => ?_)
  · have h := ift c_111 h
    refine lv_iconst (v := (1 : Int32)) hx hb dX9_nextOrder_155 (by decide) ?_
    obtain rfl := Option.some.inj h
    exact ret _ _ _ _ (show narrow .boolean (.int (1 : Int32)) = .int (1 : Int32) from rfl) dX9_nextOrder_156 hw
  · have h := iff_ c_111 h
    refine lv_aload_n hx hb dX9_nextOrder_114 rfl (lv_at hl 0 rfl) ?_
    refine kget (ci := 9) (v := .ref q_order) X hw iX9 0 rfl rfl 24 (by decide) tw_830 rfl dX9_nextOrder_115 ?_
    refine lv_iload hx hb dX9_nextOrder_118 (lv_at hl 1 rfl) ?_
    obtain ⟨g_120, h⟩ := gd h
    refine kiald X hw 1 rfl rfl g_120 dX9_nextOrder_120 ?_
    refine lv_istore (lv' := [(6, .int (v_order (l4).toNatClampNeg)), (0, .ref q), (4, .int l4), (5, .int l5)]) hx hb dX9_nextOrder_121 hl (by decide) rfl (fun ls hl => ?_)
    refine lv_aload_n hx hb dX9_nextOrder_123 rfl (lv_at hl 1 rfl) ?_
    refine kget (ci := 9) (v := .ref q_order) X hw iX9 0 rfl rfl 24 (by decide) tw_830 rfl dX9_nextOrder_124 ?_
    refine lv_iload hx hb dX9_nextOrder_127 (lv_at hl 2 rfl) ?_
    refine lv_aload_n hx hb dX9_nextOrder_129 rfl (lv_at hl 1 rfl) ?_
    refine kget (ci := 9) (v := .ref q_order) X hw iX9 0 rfl rfl 24 (by decide) tw_830 rfl dX9_nextOrder_130 ?_
    refine lv_iload hx hb dX9_nextOrder_133 (lv_at hl 3 rfl) ?_
    obtain ⟨g_135, h⟩ := gd h
    refine kiald X hw 1 rfl rfl g_135 dX9_nextOrder_135 ?_
    obtain ⟨g_136, h⟩ := gd h
    refine kiast X hw 1 rfl rfl g_136 dX9_nextOrder_136 (fun H locs hw => ?_)
    have hw : WD D A (kwX9_nextOrder cI cZ cG q q_page q_worths q_kinds q_likes q_had q_plots q_row q_plotsThen q_rowThen q_traded q_points q_ringLong q_wishes q_order q_bestOrder q_sights q_ways q_keptKinds q_keptPlots q_keptRow q_keptHad q_keptWishes q_keptSights v_pageMany v_houses v_nights v_squaresRead v_front v_down v_frontThen v_downThen v_ringsMany v_wishesMany v_ordersDone v_seenMany v_seedNow v_keptSquare v_keptFront v_keptDown v_keptNights v_keptWishesMany v_keptSeen v_hash (upd v_order (l4).toNatClampNeg (v_order (l5).toNatClampNeg))) s.heap H locs := hw
    refine lv_aload_n hx hb dX9_nextOrder_137 rfl (lv_at hl 1 rfl) ?_
    refine kget (ci := 9) (v := .ref q_order) X hw iX9 0 rfl rfl 24 (by decide) tw_830 rfl dX9_nextOrder_138 ?_
    refine lv_iload hx hb dX9_nextOrder_141 (lv_at hl 3 rfl) ?_
    refine lv_iload hx hb dX9_nextOrder_143 (lv_at hl 0 rfl) ?_
    obtain ⟨g_145, h⟩ := gd h
    refine kiast X hw 1 rfl rfl g_145 dX9_nextOrder_145 (fun H locs hw => ?_)
    have hw : WD D A (kwX9_nextOrder cI cZ cG q q_page q_worths q_kinds q_likes q_had q_plots q_row q_plotsThen q_rowThen q_traded q_points q_ringLong q_wishes q_order q_bestOrder q_sights q_ways q_keptKinds q_keptPlots q_keptRow q_keptHad q_keptWishes q_keptSights v_pageMany v_houses v_nights v_squaresRead v_front v_down v_frontThen v_downThen v_ringsMany v_wishesMany v_ordersDone v_seenMany v_seedNow v_keptSquare v_keptFront v_keptDown v_keptNights v_keptWishesMany v_keptSeen v_hash (upd (upd v_order (l4).toNatClampNeg (v_order (l5).toNatClampNeg)) (l5).toNatClampNeg (v_order (l4).toNatClampNeg))) s.heap H locs := hw
    refine lv_iinc (v := (l4 + (1 : Int32))) (lv' := [(4, .int (l4 + (1 : Int32))), (6, .int (v_order (l4).toNatClampNeg)), (0, .ref q), (5, .int l5)]) hx hb dX9_nextOrder_146 hl (k := 2) rfl (congrArg (l4 + ·) (by decide)) (by decide) rfl (fun ls hl => ?_)
    refine lv_iinc (v := (l5 + (-1 : Int32))) (lv' := [(5, .int (l5 + (-1 : Int32))), (4, .int (l4 + (1 : Int32))), (6, .int (v_order (l4).toNatClampNeg)), (0, .ref q)]) hx hb dX9_nextOrder_149 hl (k := 3) rfl (congrArg (l5 + ·) (by decide)) (by decide) rfl (fun ls hl => ?_)
    refine lv_goto (tgt := 107) hx hb dX9_nextOrder_152 (by decide) ?_
    exact hK_107 _ _ _ h _ _ _ hw (lv_sub hl [3, 1, 0] rfl)
set_option maxHeartbeats 4000000 in
set_option maxRecDepth 100000 in
theorem wX9_nextOrder_47 {p : Program} {l : Launch} {e : Env} {R : Room} {s : State} {m : MethodId} {args : Array Value} {below : List Frame} {meth : Method} {c : Code} {cells slots : Nat} {Q : State → Prop} {D : va_G} {A : Nat → Prop} {cI cZ cG : ClassId} {q q_page q_worths q_kinds q_likes q_had q_plots q_row q_plotsThen q_rowThen q_traded q_points q_ringLong q_wishes q_order q_bestOrder q_sights q_ways q_keptKinds q_keptPlots q_keptRow q_keptHad q_keptWishes q_keptSights : Nat} {v_pageMany : Int32} {v_houses : Int32} {v_nights : Int32} {v_squaresRead : Int32} {v_front : Int32} {v_down : Int32} {v_frontThen : Int32} {v_downThen : Int32} {v_ringsMany : Int32} {v_wishesMany : Int32} {v_ordersDone : Int32} {v_seenMany : Int32} {v_seedNow : Int32} {v_keptSquare : Int32} {v_keptFront : Int32} {v_keptDown : Int32} {v_keptNights : Int32} {v_keptWishesMany : Int32} {v_keptSeen : Int32} {v_hash : Int64} {N : Nat} {ρ : Int32 × (Nat → Int32)} (X : CX p s m args c cX9_nextOrder 7 RX9 D (TY cI cZ cG) A) (hrm : RM R 0 0 cells slots) (ret : ∀ (pc : Nat) (H : Heap) (locs : List Loc) (ls : Array Slot), narrow .boolean (.int ρ.1) = .int ρ.1 → decode cX9_nextOrder pc = .ok (.ireturn, 1) → WD D A (kwX9_nextOrder cI cZ cG q q_page q_worths q_kinds q_likes q_had q_plots q_row q_plotsThen q_rowThen q_traded q_points q_ringLong q_wishes q_order q_bestOrder q_sights q_ways q_keptKinds q_keptPlots q_keptRow q_keptHad q_keptWishes q_keptSights v_pageMany v_houses v_nights v_squaresRead v_front v_down v_frontThen v_downThen v_ringsMany v_wishesMany v_ordersDone v_seenMany v_seedNow v_keptSquare v_keptFront v_keptDown v_keptNights v_keptWishesMany v_keptSeen v_hash (ρ.2)) s.heap H locs → W p l e R s m args below meth c H locs cells slots Q (F0 m pc ls [.int ρ.1]))  : ∀ (n : Nat) (a : Int32 × Int32 × (Nat → Int32)), lfix (fun (K : Int32 × Int32 × (Nat → Int32) → Option (Int32 × (Nat → Int32))) (a : Int32 × Int32 × (Nat → Int32)) => fX9_nextOrder_47 N v_houses (fun (l1 : Int32) (l2 : Int32) (v_order : (Nat → Int32)) => K (l1, l2, v_order)) a.1 a.2.1 a.2.2) n a = some ρ → (fun (l1 : Int32) (l2 : Int32) (v_order : (Nat → Int32)) => ∀ (H : Heap) (locs : List Loc) (ls : Array Slot), WD D A (kwX9_nextOrder cI cZ cG q q_page q_worths q_kinds q_likes q_had q_plots q_row q_plotsThen q_rowThen q_traded q_points q_ringLong q_wishes q_order q_bestOrder q_sights q_ways q_keptKinds q_keptPlots q_keptRow q_keptHad q_keptWishes q_keptSights v_pageMany v_houses v_nights v_squaresRead v_front v_down v_frontThen v_downThen v_ringsMany v_wishesMany v_ordersDone v_seenMany v_seedNow v_keptSquare v_keptFront v_keptDown v_keptNights v_keptWishesMany v_keptSeen v_hash v_order) s.heap H locs → lv_has ls 7 [(0, .ref q), (1, .int l1), (2, .int l2)] → W p l e R s m args below meth c H locs cells slots Q (F0 m 47 ls [])) (a.1) (a.2.1) (a.2.2) := by
  have hx := X.1.1
  have hb := X.1.2.1
  refine lfix_W (fun K hK a h => ?_)
  obtain ⟨l1, l2, v_order⟩ := a
  intro H locs ls hw hl
  have h : fX9_nextOrder_47 N v_houses (fun (l1 : Int32) (l2 : Int32) (v_order : (Nat → Int32)) => K (l1, l2, v_order)) l1 l2 v_order = some ρ := h
  have hK_47 : ∀ (l1 : Int32) (l2 : Int32) (v_order : (Nat → Int32)), (fun (l1 : Int32) (l2 : Int32) (v_order : (Nat → Int32)) => K (l1, l2, v_order)) l1 l2 v_order = some ρ → ∀ (H : Heap) (locs : List Loc) (ls : Array Slot), WD D A (kwX9_nextOrder cI cZ cG q q_page q_worths q_kinds q_likes q_had q_plots q_row q_plotsThen q_rowThen q_traded q_points q_ringLong q_wishes q_order q_bestOrder q_sights q_ways q_keptKinds q_keptPlots q_keptRow q_keptHad q_keptWishes q_keptSights v_pageMany v_houses v_nights v_squaresRead v_front v_down v_frontThen v_downThen v_ringsMany v_wishesMany v_ordersDone v_seenMany v_seedNow v_keptSquare v_keptFront v_keptDown v_keptNights v_keptWishesMany v_keptSeen v_hash v_order) s.heap H locs → lv_has ls 7 [(0, .ref q), (1, .int l1), (2, .int l2)] → W p l e R s m args below meth c H locs cells slots Q (F0 m 47 ls []) := fun l1 l2 v_order h => hK (l1, l2, v_order) h
  generalize (fun (l1 : Int32) (l2 : Int32) (v_order : (Nat → Int32)) => K (l1, l2, v_order)) = K_47 at h hK_47
  have hw : WD D A (kwX9_nextOrder cI cZ cG q q_page q_worths q_kinds q_likes q_had q_plots q_row q_plotsThen q_rowThen q_traded q_points q_ringLong q_wishes q_order q_bestOrder q_sights q_ways q_keptKinds q_keptPlots q_keptRow q_keptHad q_keptWishes q_keptSights v_pageMany v_houses v_nights v_squaresRead v_front v_down v_frontThen v_downThen v_ringsMany v_wishesMany v_ordersDone v_seenMany v_seedNow v_keptSquare v_keptFront v_keptDown v_keptNights v_keptWishesMany v_keptSeen v_hash v_order) s.heap H locs := hw
  have hl : lv_has ls 7 [(0, .ref q), (1, .int l1), (2, .int l2)] := hl
  unfold fX9_nextOrder_47 at h
  refine lv_aload_n hx hb dX9_nextOrder_47 rfl (lv_at hl 0 rfl) ?_
  refine kget (ci := 9) (v := .ref q_order) X hw iX9 0 rfl rfl 24 (by decide) tw_830 rfl dX9_nextOrder_48 ?_
  refine lv_iload_n hx hb dX9_nextOrder_51 rfl (lv_at hl 2 rfl) ?_
  obtain ⟨g_52, h⟩ := gd h
  refine kiald X hw 1 rfl rfl g_52 dX9_nextOrder_52 ?_
  refine lv_aload_n hx hb dX9_nextOrder_53 rfl (lv_at hl 0 rfl) ?_
  refine kget (ci := 9) (v := .ref q_order) X hw iX9 0 rfl rfl 24 (by decide) tw_830 rfl dX9_nextOrder_54 ?_
  refine lv_iload_n hx hb dX9_nextOrder_57 rfl (lv_at hl 1 rfl) ?_
  obtain ⟨g_58, h⟩ := gd h
  refine kiald X hw 1 rfl rfl g_58 dX9_nextOrder_58 ?_
  refine lv_icmp_ge (tgt := 68) hx hb dX9_nextOrder_59 (by decide) (fun c_59 => ?_) (fun c_59 => ?_)
  · have h := ift c_59 h
    refine lv_aload_n hx hb dX9_nextOrder_68 rfl (lv_at hl 0 rfl) ?_
    refine kget (ci := 9) (v := .ref q_order) X hw iX9 0 rfl rfl 24 (by decide) tw_830 rfl dX9_nextOrder_69 ?_
    refine lv_iload_n hx hb dX9_nextOrder_72 rfl (lv_at hl 1 rfl) ?_
    obtain ⟨g_73, h⟩ := gd h
    refine kiald X hw 1 rfl rfl g_73 dX9_nextOrder_73 ?_
    refine lv_istore_n (lv' := [(3, .int (v_order (l1).toNatClampNeg)), (0, .ref q), (1, .int l1), (2, .int l2)]) hx hb dX9_nextOrder_74 rfl hl (by decide) rfl (fun ls hl => ?_)
    refine lv_aload_n hx hb dX9_nextOrder_75 rfl (lv_at hl 1 rfl) ?_
    refine kget (ci := 9) (v := .ref q_order) X hw iX9 0 rfl rfl 24 (by decide) tw_830 rfl dX9_nextOrder_76 ?_
    refine lv_iload_n hx hb dX9_nextOrder_79 rfl (lv_at hl 2 rfl) ?_
    refine lv_aload_n hx hb dX9_nextOrder_80 rfl (lv_at hl 1 rfl) ?_
    refine kget (ci := 9) (v := .ref q_order) X hw iX9 0 rfl rfl 24 (by decide) tw_830 rfl dX9_nextOrder_81 ?_
    refine lv_iload_n hx hb dX9_nextOrder_84 rfl (lv_at hl 3 rfl) ?_
    obtain ⟨g_85, h⟩ := gd h
    refine kiald X hw 1 rfl rfl g_85 dX9_nextOrder_85 ?_
    obtain ⟨g_86, h⟩ := gd h
    refine kiast X hw 1 rfl rfl g_86 dX9_nextOrder_86 (fun H locs hw => ?_)
    have hw : WD D A (kwX9_nextOrder cI cZ cG q q_page q_worths q_kinds q_likes q_had q_plots q_row q_plotsThen q_rowThen q_traded q_points q_ringLong q_wishes q_order q_bestOrder q_sights q_ways q_keptKinds q_keptPlots q_keptRow q_keptHad q_keptWishes q_keptSights v_pageMany v_houses v_nights v_squaresRead v_front v_down v_frontThen v_downThen v_ringsMany v_wishesMany v_ordersDone v_seenMany v_seedNow v_keptSquare v_keptFront v_keptDown v_keptNights v_keptWishesMany v_keptSeen v_hash (upd v_order (l1).toNatClampNeg (v_order (l2).toNatClampNeg))) s.heap H locs := hw
    refine lv_aload_n hx hb dX9_nextOrder_87 rfl (lv_at hl 1 rfl) ?_
    refine kget (ci := 9) (v := .ref q_order) X hw iX9 0 rfl rfl 24 (by decide) tw_830 rfl dX9_nextOrder_88 ?_
    refine lv_iload_n hx hb dX9_nextOrder_91 rfl (lv_at hl 3 rfl) ?_
    refine lv_iload_n hx hb dX9_nextOrder_92 rfl (lv_at hl 0 rfl) ?_
    obtain ⟨g_93, h⟩ := gd h
    refine kiast X hw 1 rfl rfl g_93 dX9_nextOrder_93 (fun H locs hw => ?_)
    have hw : WD D A (kwX9_nextOrder cI cZ cG q q_page q_worths q_kinds q_likes q_had q_plots q_row q_plotsThen q_rowThen q_traded q_points q_ringLong q_wishes q_order q_bestOrder q_sights q_ways q_keptKinds q_keptPlots q_keptRow q_keptHad q_keptWishes q_keptSights v_pageMany v_houses v_nights v_squaresRead v_front v_down v_frontThen v_downThen v_ringsMany v_wishesMany v_ordersDone v_seenMany v_seedNow v_keptSquare v_keptFront v_keptDown v_keptNights v_keptWishesMany v_keptSeen v_hash (upd (upd v_order (l1).toNatClampNeg (v_order (l2).toNatClampNeg)) (l2).toNatClampNeg (v_order (l1).toNatClampNeg))) s.heap H locs := hw
    refine lv_iload_n hx hb dX9_nextOrder_94 rfl (lv_at hl 2 rfl) ?_
    refine lv_iconst (v := (1 : Int32)) hx hb dX9_nextOrder_95 (by decide) ?_
    refine lv_iadd hx hb dX9_nextOrder_96 ?_
    refine lv_istore (lv' := [(4, .int (l1 + (1 : Int32))), (3, .int (v_order (l1).toNatClampNeg)), (0, .ref q), (1, .int l1), (2, .int l2)]) hx hb dX9_nextOrder_97 hl (by decide) rfl (fun ls hl => ?_)
    refine lv_aload_n hx hb dX9_nextOrder_99 rfl (lv_at hl 2 rfl) ?_
    refine kget (ci := 9) (v := .int v_houses) X hw iX9 0 rfl rfl 2 (by decide) tw_625 rfl dX9_nextOrder_100 ?_
    refine lv_iconst (v := (1 : Int32)) hx hb dX9_nextOrder_103 (by decide) ?_
    refine lv_isub hx hb dX9_nextOrder_104 ?_
    refine lv_istore (lv' := [(5, .int (v_houses - (1 : Int32))), (4, .int (l1 + (1 : Int32))), (3, .int (v_order (l1).toNatClampNeg)), (0, .ref q), (1, .int l1), (2, .int l2)]) hx hb dX9_nextOrder_105 hl (by decide) rfl (fun ls hl => ?_)
    exact wX9_nextOrder_107 X hrm ret  _ _ h _ _ _ hw (lv_sub hl [3, 1, 0] rfl)
  · have h := iff_ c_59 h
    refine lv_iinc (v := (l2 + (-1 : Int32))) (lv' := [(2, .int (l2 + (-1 : Int32))), (0, .ref q), (1, .int l1)]) hx hb dX9_nextOrder_62 hl (k := 2) rfl (congrArg (l2 + ·) (by decide)) (by decide) rfl (fun ls hl => ?_)
    refine lv_goto (tgt := 47) hx hb dX9_nextOrder_65 (by decide) ?_
    exact hK_47 _ _ _ h _ _ _ hw (lv_sub hl [1, 2, 0] rfl)
set_option maxHeartbeats 4000000 in
set_option maxRecDepth 100000 in
theorem wX9_nextOrder_7 {p : Program} {l : Launch} {e : Env} {R : Room} {s : State} {m : MethodId} {args : Array Value} {below : List Frame} {meth : Method} {c : Code} {cells slots : Nat} {Q : State → Prop} {D : va_G} {A : Nat → Prop} {cI cZ cG : ClassId} {q q_page q_worths q_kinds q_likes q_had q_plots q_row q_plotsThen q_rowThen q_traded q_points q_ringLong q_wishes q_order q_bestOrder q_sights q_ways q_keptKinds q_keptPlots q_keptRow q_keptHad q_keptWishes q_keptSights : Nat} {v_pageMany : Int32} {v_houses : Int32} {v_nights : Int32} {v_squaresRead : Int32} {v_front : Int32} {v_down : Int32} {v_frontThen : Int32} {v_downThen : Int32} {v_ringsMany : Int32} {v_wishesMany : Int32} {v_ordersDone : Int32} {v_seenMany : Int32} {v_seedNow : Int32} {v_keptSquare : Int32} {v_keptFront : Int32} {v_keptDown : Int32} {v_keptNights : Int32} {v_keptWishesMany : Int32} {v_keptSeen : Int32} {v_hash : Int64} {N : Nat} {ρ : Int32 × (Nat → Int32)} (X : CX p s m args c cX9_nextOrder 7 RX9 D (TY cI cZ cG) A) (hrm : RM R 0 0 cells slots) (ret : ∀ (pc : Nat) (H : Heap) (locs : List Loc) (ls : Array Slot), narrow .boolean (.int ρ.1) = .int ρ.1 → decode cX9_nextOrder pc = .ok (.ireturn, 1) → WD D A (kwX9_nextOrder cI cZ cG q q_page q_worths q_kinds q_likes q_had q_plots q_row q_plotsThen q_rowThen q_traded q_points q_ringLong q_wishes q_order q_bestOrder q_sights q_ways q_keptKinds q_keptPlots q_keptRow q_keptHad q_keptWishes q_keptSights v_pageMany v_houses v_nights v_squaresRead v_front v_down v_frontThen v_downThen v_ringsMany v_wishesMany v_ordersDone v_seenMany v_seedNow v_keptSquare v_keptFront v_keptDown v_keptNights v_keptWishesMany v_keptSeen v_hash (ρ.2)) s.heap H locs → W p l e R s m args below meth c H locs cells slots Q (F0 m pc ls [.int ρ.1]))  : ∀ (n : Nat) (a : Int32 × (Nat → Int32)), lfix (fun (K : Int32 × (Nat → Int32) → Option (Int32 × (Nat → Int32))) (a : Int32 × (Nat → Int32)) => fX9_nextOrder_7 N v_houses (fun (l1 : Int32) (v_order : (Nat → Int32)) => K (l1, v_order)) a.1 a.2) n a = some ρ → (fun (l1 : Int32) (v_order : (Nat → Int32)) => ∀ (H : Heap) (locs : List Loc) (ls : Array Slot), WD D A (kwX9_nextOrder cI cZ cG q q_page q_worths q_kinds q_likes q_had q_plots q_row q_plotsThen q_rowThen q_traded q_points q_ringLong q_wishes q_order q_bestOrder q_sights q_ways q_keptKinds q_keptPlots q_keptRow q_keptHad q_keptWishes q_keptSights v_pageMany v_houses v_nights v_squaresRead v_front v_down v_frontThen v_downThen v_ringsMany v_wishesMany v_ordersDone v_seenMany v_seedNow v_keptSquare v_keptFront v_keptDown v_keptNights v_keptWishesMany v_keptSeen v_hash v_order) s.heap H locs → lv_has ls 7 [(0, .ref q), (1, .int l1)] → W p l e R s m args below meth c H locs cells slots Q (F0 m 7 ls [])) (a.1) (a.2) := by
  have hx := X.1.1
  have hb := X.1.2.1
  refine lfix_W (fun K hK a h => ?_)
  obtain ⟨l1, v_order⟩ := a
  intro H locs ls hw hl
  have h : fX9_nextOrder_7 N v_houses (fun (l1 : Int32) (v_order : (Nat → Int32)) => K (l1, v_order)) l1 v_order = some ρ := h
  have hK_7 : ∀ (l1 : Int32) (v_order : (Nat → Int32)), (fun (l1 : Int32) (v_order : (Nat → Int32)) => K (l1, v_order)) l1 v_order = some ρ → ∀ (H : Heap) (locs : List Loc) (ls : Array Slot), WD D A (kwX9_nextOrder cI cZ cG q q_page q_worths q_kinds q_likes q_had q_plots q_row q_plotsThen q_rowThen q_traded q_points q_ringLong q_wishes q_order q_bestOrder q_sights q_ways q_keptKinds q_keptPlots q_keptRow q_keptHad q_keptWishes q_keptSights v_pageMany v_houses v_nights v_squaresRead v_front v_down v_frontThen v_downThen v_ringsMany v_wishesMany v_ordersDone v_seenMany v_seedNow v_keptSquare v_keptFront v_keptDown v_keptNights v_keptWishesMany v_keptSeen v_hash v_order) s.heap H locs → lv_has ls 7 [(0, .ref q), (1, .int l1)] → W p l e R s m args below meth c H locs cells slots Q (F0 m 7 ls []) := fun l1 v_order h => hK (l1, v_order) h
  generalize (fun (l1 : Int32) (v_order : (Nat → Int32)) => K (l1, v_order)) = K_7 at h hK_7
  have hw : WD D A (kwX9_nextOrder cI cZ cG q q_page q_worths q_kinds q_likes q_had q_plots q_row q_plotsThen q_rowThen q_traded q_points q_ringLong q_wishes q_order q_bestOrder q_sights q_ways q_keptKinds q_keptPlots q_keptRow q_keptHad q_keptWishes q_keptSights v_pageMany v_houses v_nights v_squaresRead v_front v_down v_frontThen v_downThen v_ringsMany v_wishesMany v_ordersDone v_seenMany v_seedNow v_keptSquare v_keptFront v_keptDown v_keptNights v_keptWishesMany v_keptSeen v_hash v_order) s.heap H locs := hw
  have hl : lv_has ls 7 [(0, .ref q), (1, .int l1)] := hl
  unfold fX9_nextOrder_7 at h
  refine lv_iload_n hx hb dX9_nextOrder_7 rfl (lv_at hl 1 rfl) ?_
  refine lv_if_lt (tgt := 34) hx hb dX9_nextOrder_8 (by decide) (fun c_8 => ?_) (fun c_8 => ?_)
  · have h := ift c_8 h
    refine lv_iload_n hx hb dX9_nextOrder_34 rfl (lv_at hl 1 rfl) ?_
    refine lv_if_ge (tgt := 40) hx hb dX9_nextOrder_35 (by decide) (fun c_35 => ?_) (fun c_35 => ?_)
    · have h := ift c_35 h
      refine lv_aload_n hx hb dX9_nextOrder_40 rfl (lv_at hl 0 rfl) ?_
      refine kget (ci := 9) (v := .int v_houses) X hw iX9 0 rfl rfl 2 (by decide) tw_625 rfl dX9_nextOrder_41 ?_
      refine lv_iconst (v := (1 : Int32)) hx hb dX9_nextOrder_44 (by decide) ?_
      refine lv_isub hx hb dX9_nextOrder_45 ?_
      refine lv_istore_n (lv' := [(2, .int (v_houses - (1 : Int32))), (0, .ref q), (1, .int l1)]) hx hb dX9_nextOrder_46 rfl hl (by decide) rfl (fun ls hl => ?_)
      exact wX9_nextOrder_47 X hrm ret  _ _ h _ _ _ hw (lv_sub hl [1, 2, 0] rfl)
    · have h := iff_ c_35 h
      refine lv_iconst (v := (0 : Int32)) hx hb dX9_nextOrder_38 (by decide) ?_
      obtain rfl := Option.some.inj h
      exact ret _ _ _ _ (show narrow .boolean (.int (0 : Int32)) = .int (0 : Int32) from rfl) dX9_nextOrder_39 hw
  · have h := iff_ c_8 h
    refine lv_aload_n hx hb dX9_nextOrder_11 rfl (lv_at hl 0 rfl) ?_
    refine kget (ci := 9) (v := .ref q_order) X hw iX9 0 rfl rfl 24 (by decide) tw_830 rfl dX9_nextOrder_12 ?_
    refine lv_iload_n hx hb dX9_nextOrder_15 rfl (lv_at hl 1 rfl) ?_
    obtain ⟨g_16, h⟩ := gd h
    refine kiald X hw 1 rfl rfl g_16 dX9_nextOrder_16 ?_
    refine lv_aload_n hx hb dX9_nextOrder_17 rfl (lv_at hl 0 rfl) ?_
    refine kget (ci := 9) (v := .ref q_order) X hw iX9 0 rfl rfl 24 (by decide) tw_830 rfl dX9_nextOrder_18 ?_
    refine lv_iload_n hx hb dX9_nextOrder_21 rfl (lv_at hl 1 rfl) ?_
    refine lv_iconst (v := (1 : Int32)) hx hb dX9_nextOrder_22 (by decide) ?_
    refine lv_iadd hx hb dX9_nextOrder_23 ?_
    obtain ⟨g_24, h⟩ := gd h
    refine kiald X hw 1 rfl rfl g_24 dX9_nextOrder_24 ?_
    refine lv_icmp_le (tgt := 34) hx hb dX9_nextOrder_25 (by decide) (fun c_25 => ?_) (fun c_25 => ?_)
    · have h := ift c_25 h
      refine lv_iload_n hx hb dX9_nextOrder_34 rfl (lv_at hl 1 rfl) ?_
      refine lv_if_ge (tgt := 40) hx hb dX9_nextOrder_35 (by decide) (fun c_35 => ?_) (fun c_35 => ?_)
      · have h := ift c_35 h
        refine lv_aload_n hx hb dX9_nextOrder_40 rfl (lv_at hl 0 rfl) ?_
        refine kget (ci := 9) (v := .int v_houses) X hw iX9 0 rfl rfl 2 (by decide) tw_625 rfl dX9_nextOrder_41 ?_
        refine lv_iconst (v := (1 : Int32)) hx hb dX9_nextOrder_44 (by decide) ?_
        refine lv_isub hx hb dX9_nextOrder_45 ?_
        refine lv_istore_n (lv' := [(2, .int (v_houses - (1 : Int32))), (0, .ref q), (1, .int l1)]) hx hb dX9_nextOrder_46 rfl hl (by decide) rfl (fun ls hl => ?_)
        exact wX9_nextOrder_47 X hrm ret  _ _ h _ _ _ hw (lv_sub hl [1, 2, 0] rfl)
      · have h := iff_ c_35 h
        refine lv_iconst (v := (0 : Int32)) hx hb dX9_nextOrder_38 (by decide) ?_
        obtain rfl := Option.some.inj h
        exact ret _ _ _ _ (show narrow .boolean (.int (0 : Int32)) = .int (0 : Int32) from rfl) dX9_nextOrder_39 hw
    · have h := iff_ c_25 h
      refine lv_iinc (v := (l1 + (-1 : Int32))) (lv' := [(1, .int (l1 + (-1 : Int32))), (0, .ref q)]) hx hb dX9_nextOrder_28 hl (k := 1) rfl (congrArg (l1 + ·) (by decide)) (by decide) rfl (fun ls hl => ?_)
      refine lv_goto (tgt := 7) hx hb dX9_nextOrder_31 (by decide) ?_
      exact hK_7 _ _ h _ _ _ hw (lv_sub hl [1, 0] rfl)
set_option maxHeartbeats 4000000 in
set_option maxRecDepth 100000 in
theorem wX9_nextOrder {p : Program} {l : Launch} {e : Env} {R : Room} {s : State} {m : MethodId} {args : Array Value} {below : List Frame} {meth : Method} {c : Code} {cells slots : Nat} {Q : State → Prop} {D : va_G} {A : Nat → Prop} {cI cZ cG : ClassId} {q q_page q_worths q_kinds q_likes q_had q_plots q_row q_plotsThen q_rowThen q_traded q_points q_ringLong q_wishes q_order q_bestOrder q_sights q_ways q_keptKinds q_keptPlots q_keptRow q_keptHad q_keptWishes q_keptSights : Nat} {v_pageMany : Int32} {v_houses : Int32} {v_nights : Int32} {v_squaresRead : Int32} {v_front : Int32} {v_down : Int32} {v_frontThen : Int32} {v_downThen : Int32} {v_ringsMany : Int32} {v_wishesMany : Int32} {v_ordersDone : Int32} {v_seenMany : Int32} {v_seedNow : Int32} {v_keptSquare : Int32} {v_keptFront : Int32} {v_keptDown : Int32} {v_keptNights : Int32} {v_keptWishesMany : Int32} {v_keptSeen : Int32} {v_hash : Int64} {v_order : (Nat → Int32)} {N : Nat} {ρ : Int32 × (Nat → Int32)} (X : CX p s m args c cX9_nextOrder 7 RX9 D (TY cI cZ cG) A) (hrm : RM R 0 0 cells slots) (ret : ∀ (pc : Nat) (H : Heap) (locs : List Loc) (ls : Array Slot), narrow .boolean (.int ρ.1) = .int ρ.1 → decode cX9_nextOrder pc = .ok (.ireturn, 1) → WD D A (kwX9_nextOrder cI cZ cG q q_page q_worths q_kinds q_likes q_had q_plots q_row q_plotsThen q_rowThen q_traded q_points q_ringLong q_wishes q_order q_bestOrder q_sights q_ways q_keptKinds q_keptPlots q_keptRow q_keptHad q_keptWishes q_keptSights v_pageMany v_houses v_nights v_squaresRead v_front v_down v_frontThen v_downThen v_ringsMany v_wishesMany v_ordersDone v_seenMany v_seedNow v_keptSquare v_keptFront v_keptDown v_keptNights v_keptWishesMany v_keptSeen v_hash (ρ.2)) s.heap H locs → W p l e R s m args below meth c H locs cells slots Q (F0 m pc ls [.int ρ.1])) (h : fX9_nextOrder N v_houses v_order  = some ρ) (H : Heap) (locs : List Loc) (ls : Array Slot) (hw : WD D A (kwX9_nextOrder cI cZ cG q q_page q_worths q_kinds q_likes q_had q_plots q_row q_plotsThen q_rowThen q_traded q_points q_ringLong q_wishes q_order q_bestOrder q_sights q_ways q_keptKinds q_keptPlots q_keptRow q_keptHad q_keptWishes q_keptSights v_pageMany v_houses v_nights v_squaresRead v_front v_down v_frontThen v_downThen v_ringsMany v_wishesMany v_ordersDone v_seenMany v_seedNow v_keptSquare v_keptFront v_keptDown v_keptNights v_keptWishesMany v_keptSeen v_hash v_order) s.heap H locs) (hl : lv_has ls 7 [(0, .ref q)]) : W p l e R s m args below meth c H locs cells slots Q (F0 m 0 ls []) := by
  have hx := X.1.1
  have hb := X.1.2.1
  unfold fX9_nextOrder at h
  refine lv_aload_n hx hb dX9_nextOrder_0 rfl (lv_at hl 0 rfl) ?_
  refine kget (ci := 9) (v := .int v_houses) X hw iX9 0 rfl rfl 2 (by decide) tw_625 rfl dX9_nextOrder_1 ?_
  refine lv_iconst (v := (2 : Int32)) hx hb dX9_nextOrder_4 (by decide) ?_
  refine lv_isub hx hb dX9_nextOrder_5 ?_
  refine lv_istore_n (lv' := [(1, .int (v_houses - (2 : Int32))), (0, .ref q)]) hx hb dX9_nextOrder_6 rfl hl (by decide) rfl (fun ls hl => ?_)
  exact wX9_nextOrder_7 X hrm ret  _ _ h _ _ _ hw (lv_sub hl [1, 0] rfl)
set_option maxHeartbeats 4000000 in
set_option maxRecDepth 100000 in
theorem cX9_nextOrder_ct (l : Launch) (D : va_G) (cI cZ cG : ClassId) (q q_page q_worths q_kinds q_likes q_had q_plots q_row q_plotsThen q_rowThen q_traded q_points q_ringLong q_wishes q_order q_bestOrder q_sights q_ways q_keptKinds q_keptPlots q_keptRow q_keptHad q_keptWishes q_keptSights : Nat)  (v_pageMany : Int32) (v_houses : Int32) (v_nights : Int32) (v_squaresRead : Int32) (v_front : Int32) (v_down : Int32) (v_frontThen : Int32) (v_downThen : Int32) (v_ringsMany : Int32) (v_wishesMany : Int32) (v_ordersDone : Int32) (v_seenMany : Int32) (v_seedNow : Int32) (v_keptSquare : Int32) (v_keptFront : Int32) (v_keptDown : Int32) (v_keptNights : Int32) (v_keptWishesMany : Int32) (v_keptSeen : Int32) (v_hash : Int64) (v_order : (Nat → Int32))  (N : Nat) (ρ : Int32 × (Nat → Int32)) (h : fX9_nextOrder N v_houses v_order  = some ρ) (sz : Nat) : Met l yX9_nextOrder (wz yX9_nextOrder cX9_nextOrder 7 (some .boolean)) (cRm 0 0) (cPre D (TY cI cZ cG) [.ref q] (kwX9_nextOrder cI cZ cG q q_page q_worths q_kinds q_likes q_had q_plots q_row q_plotsThen q_rowThen q_traded q_points q_ringLong q_wishes q_order q_bestOrder q_sights q_ways q_keptKinds q_keptPlots q_keptRow q_keptHad q_keptWishes q_keptSights v_pageMany v_houses v_nights v_squaresRead v_front v_down v_frontThen v_downThen v_ringsMany v_wishesMany v_ordersDone v_seenMany v_seedNow v_keptSquare v_keptFront v_keptDown v_keptNights v_keptWishesMany v_keptSeen v_hash v_order) sz) (cQi D (ρ.1) (kwX9_nextOrder cI cZ cG q q_page q_worths q_kinds q_likes q_had q_plots q_row q_plotsThen q_rowThen q_traded q_points q_ringLong q_wishes q_order q_bestOrder q_sights q_ways q_keptKinds q_keptPlots q_keptRow q_keptHad q_keptWishes q_keptSights v_pageMany v_houses v_nights v_squaresRead v_front v_down v_frontThen v_downThen v_ringsMany v_wishesMany v_ordersDone v_seenMany v_seedNow v_keptSquare v_keptFront v_keptDown v_keptNights v_keptWishesMany v_keptSeen v_hash v_order) (kwX9_nextOrder cI cZ cG q q_page q_worths q_kinds q_likes q_had q_plots q_row q_plotsThen q_rowThen q_traded q_points q_ringLong q_wishes q_order q_bestOrder q_sights q_ways q_keptKinds q_keptPlots q_keptRow q_keptHad q_keptWishes q_keptSights v_pageMany v_houses v_nights v_squaresRead v_front v_down v_frontThen v_downThen v_ringsMany v_wishesMany v_ordersDone v_seenMany v_seedNow v_keptSquare v_keptFront v_keptDown v_keptNights v_keptWishesMany v_keptSeen v_hash (ρ.2)) sz) 0 0 (va_A (kwX9_nextOrder cI cZ cG q q_page q_worths q_kinds q_likes q_had q_plots q_row q_plotsThen q_rowThen q_traded q_points q_ringLong q_wishes q_order q_bestOrder q_sights q_ways q_keptKinds q_keptPlots q_keptRow q_keptHad q_keptWishes q_keptSights v_pageMany v_houses v_nights v_squaresRead v_front v_down v_frontThen v_downThen v_ringsMany v_wishesMany v_ordersDone v_seenMany v_seedNow v_keptSquare v_keptFront v_keptDown v_keptNights v_keptWishesMany v_keptSeen v_hash v_order) sz) :=
  mk_z (by decide) (Nat.le_of_ble_eq_true rfl) (fun X hrm ret hw hl => wX9_nextOrder X hrm ret h _ _ _ hw hl)
