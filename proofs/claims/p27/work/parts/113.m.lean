theorem dX9_night_0 : decode cX9_night 0 = .ok (.aload_n 0, 1) := by decide +kernel
theorem dX9_night_1 : decode cX9_night 1 = .ok (.invokevirtual 158, 3) := by decide +kernel
theorem dX9_night_4 : decode cX9_night 4 = .ok (.ifCond .eq 6, 3) := by decide +kernel
theorem dX9_night_7 : decode cX9_night 7 = .ok (.bipush (-103), 2) := by decide +kernel
theorem dX9_night_9 : decode cX9_night 9 = .ok (.ireturn, 1) := by decide +kernel
theorem dX9_night_10 : decode cX9_night 10 = .ok (.aload_n 0, 1) := by decide +kernel
theorem dX9_night_11 : decode cX9_night 11 = .ok (.getfield 121, 3) := by decide +kernel
theorem dX9_night_14 : decode cX9_night 14 = .ok (.sipush 999, 3) := by decide +kernel
theorem dX9_night_17 : decode cX9_night 17 = .ok (.if_icmp .ne 6, 3) := by decide +kernel
theorem dX9_night_20 : decode cX9_night 20 = .ok (.bipush (-104), 2) := by decide +kernel
theorem dX9_night_22 : decode cX9_night 22 = .ok (.ireturn, 1) := by decide +kernel
theorem dX9_night_23 : decode cX9_night 23 = .ok (.aload_n 0, 1) := by decide +kernel
theorem dX9_night_24 : decode cX9_night 24 = .ok (.invokevirtual 162, 3) := by decide +kernel
theorem dX9_night_27 : decode cX9_night 27 = .ok (.aload_n 0, 1) := by decide +kernel
theorem dX9_night_28 : decode cX9_night 28 = .ok (.invokevirtual 165, 3) := by decide +kernel
theorem dX9_night_31 : decode cX9_night 31 = .ok (.istore_n 1, 1) := by decide +kernel
theorem dX9_night_32 : decode cX9_night 32 = .ok (.aload_n 0, 1) := by decide +kernel
theorem dX9_night_33 : decode cX9_night 33 = .ok (.invokevirtual 168, 3) := by decide +kernel
theorem dX9_night_36 : decode cX9_night 36 = .ok (.aload_n 0, 1) := by decide +kernel
theorem dX9_night_37 : decode cX9_night 37 = .ok (.invokevirtual 171, 3) := by decide +kernel
theorem dX9_night_40 : decode cX9_night 40 = .ok (.iload_n 1, 1) := by decide +kernel
theorem dX9_night_41 : decode cX9_night 41 = .ok (.ireturn, 1) := by decide +kernel
abbrev kwX9_night (cI cZ cG : ClassId) (q q_page q_worths q_kinds q_likes q_had q_plots q_row q_plotsThen q_rowThen q_traded q_points q_ringLong q_wishes q_order q_bestOrder q_sights q_ways q_keptKinds q_keptPlots q_keptRow q_keptHad q_keptWishes q_keptSights : Nat) (v_pageMany : Int32) (v_houses : Int32) (v_nights : Int32) (v_squaresRead : Int32) (v_front : Int32) (v_down : Int32) (v_frontThen : Int32) (v_downThen : Int32) (v_ringsMany : Int32) (v_wishesMany : Int32) (v_ordersDone : Int32) (v_seenMany : Int32) (v_seedNow : Int32) (v_keptSquare : Int32) (v_keptFront : Int32) (v_keptDown : Int32) (v_keptNights : Int32) (v_keptWishesMany : Int32) (v_keptSeen : Int32) (v_hash : Int64) (v_plots : (Nat → Int32)) (v_plotsThen : (Nat → Int32)) (v_row : (Nat → Int32)) (v_rowThen : (Nat → Int32)) (v_kinds : (Nat → Int32)) (v_had : (Nat → Int32)) (v_worths : (Nat → Int32)) : va_W := [(q, .inr (9, [.ref q_page, .int v_pageMany, .int v_houses, .int v_nights, .int v_squaresRead, .ref q_worths, .ref q_kinds, .ref q_likes, .ref q_had, .ref q_plots, .ref q_row, .int v_front, .int v_down, .ref q_plotsThen, .ref q_rowThen, .int v_frontThen, .int v_downThen, .ref q_traded, .ref q_points, .int v_ringsMany, .ref q_ringLong, .int v_wishesMany, .ref q_wishes, .int v_ordersDone, .ref q_order, .ref q_bestOrder, .int v_seenMany, .ref q_sights, .ref q_ways, .int v_seedNow, .int v_keptSquare, .int v_keptFront, .int v_keptDown, .int v_keptNights, .int v_keptWishesMany, .int v_keptSeen, .ref q_keptKinds, .ref q_keptPlots, .ref q_keptRow, .ref q_keptHad, .ref q_keptWishes, .ref q_keptSights, .long v_hash])), (q_plots, .inl (cI, 6, .inl v_plots)), (q_plotsThen, .inl (cI, 6, .inl v_plotsThen)), (q_row, .inl (cI, 6, .inl v_row)), (q_rowThen, .inl (cI, 6, .inl v_rowThen)), (q_kinds, .inl (cI, 6, .inl v_kinds)), (q_had, .inl (cI, 6, .inl v_had)), (q_worths, .inl (cI, 12, .inl v_worths))]
noncomputable def fX9_night (N : Nat) (v_houses : Int32) (v_kinds : (Nat → Int32)) (v_worths : (Nat → Int32)) (v_nights : Int32) (v_front : Int32) (v_down : Int32) (v_frontThen : Int32) (v_downThen : Int32) (v_plots : (Nat → Int32)) (v_plotsThen : (Nat → Int32)) (v_row : (Nat → Int32)) (v_rowThen : (Nat → Int32)) (v_had : (Nat → Int32))  : Option (Int32 × Int32 × Int32 × Int32 × Int32 × Int32 × (Nat → Int32) × (Nat → Int32) × (Nat → Int32) × (Nat → Int32) × (Nat → Int32)) := (fX9_lacks N v_houses).bind (fun x_1 => if x_1 = 0 then (if v_nights = (999 : Int32) then (some ((-104 : Int32), v_nights, v_front, v_down, v_frontThen, v_downThen, v_plots, v_plotsThen, v_row, v_rowThen, v_had)) else ((fX9_begin N v_front v_down v_plots v_row v_frontThen v_downThen v_plotsThen v_rowThen).bind (fun x_24 => (fX9_goOn N v_houses v_kinds x_24.1 x_24.2.1 x_24.2.2.2 x_24.2.2.1).bind (fun x_28 => (fX9_takeThen N x_28.2.1 x_28.2.2.1 x_28.2.2.2.2 x_28.2.2.2.1 v_front v_down v_plots v_row).bind (fun x_33 => (fX9_have N v_houses x_33.2.2.1 v_worths v_nights v_had).bind (fun x_37 => some (x_28.1, x_37.1, x_33.1, x_33.2.1, x_28.2.1, x_28.2.2.1, x_33.2.2.1, x_28.2.2.2.2, x_33.2.2.2, x_28.2.2.2.1, x_37.2))))))) else (some ((-103 : Int32), v_nights, v_front, v_down, v_frontThen, v_downThen, v_plots, v_plotsThen, v_row, v_rowThen, v_had)))
set_option maxHeartbeats 4000000 in
set_option maxRecDepth 100000 in
theorem wX9_night {p : Program} {l : Launch} {e : Env} {R : Room} {s : State} {m : MethodId} {args : Array Value} {below : List Frame} {meth : Method} {c : Code} {cells slots : Nat} {Q : State → Prop} {D : va_G} {A : Nat → Prop} {cI cZ cG : ClassId} {q q_page q_worths q_kinds q_likes q_had q_plots q_row q_plotsThen q_rowThen q_traded q_points q_ringLong q_wishes q_order q_bestOrder q_sights q_ways q_keptKinds q_keptPlots q_keptRow q_keptHad q_keptWishes q_keptSights : Nat} {v_pageMany : Int32} {v_houses : Int32} {v_nights : Int32} {v_squaresRead : Int32} {v_front : Int32} {v_down : Int32} {v_frontThen : Int32} {v_downThen : Int32} {v_ringsMany : Int32} {v_wishesMany : Int32} {v_ordersDone : Int32} {v_seenMany : Int32} {v_seedNow : Int32} {v_keptSquare : Int32} {v_keptFront : Int32} {v_keptDown : Int32} {v_keptNights : Int32} {v_keptWishesMany : Int32} {v_keptSeen : Int32} {v_hash : Int64} {v_plots : (Nat → Int32)} {v_plotsThen : (Nat → Int32)} {v_row : (Nat → Int32)} {v_rowThen : (Nat → Int32)} {v_kinds : (Nat → Int32)} {v_had : (Nat → Int32)} {v_worths : (Nat → Int32)} {N : Nat} {ρ : Int32 × Int32 × Int32 × Int32 × Int32 × Int32 × (Nat → Int32) × (Nat → Int32) × (Nat → Int32) × (Nat → Int32) × (Nat → Int32)} (X : CX p s m args c cX9_night 2 RX9 D (TY cI cZ cG) A) (hrm : RM R 3 67 cells slots) (ret : ∀ (pc : Nat) (H : Heap) (locs : List Loc) (ls : Array Slot), decode cX9_night pc = .ok (.ireturn, 1) → WD D A (kwX9_night cI cZ cG q q_page q_worths q_kinds q_likes q_had q_plots q_row q_plotsThen q_rowThen q_traded q_points q_ringLong q_wishes q_order q_bestOrder q_sights q_ways q_keptKinds q_keptPlots q_keptRow q_keptHad q_keptWishes q_keptSights v_pageMany v_houses (ρ.2.1) v_squaresRead (ρ.2.2.1) (ρ.2.2.2.1) (ρ.2.2.2.2.1) (ρ.2.2.2.2.2.1) v_ringsMany v_wishesMany v_ordersDone v_seenMany v_seedNow v_keptSquare v_keptFront v_keptDown v_keptNights v_keptWishesMany v_keptSeen v_hash (ρ.2.2.2.2.2.2.1) (ρ.2.2.2.2.2.2.2.1) (ρ.2.2.2.2.2.2.2.2.1) (ρ.2.2.2.2.2.2.2.2.2.1) v_kinds (ρ.2.2.2.2.2.2.2.2.2.2) v_worths) s.heap H locs → W p l e R s m args below meth c H locs cells slots Q (F0 m pc ls [.int ρ.1])) (h : fX9_night N v_houses v_kinds v_worths v_nights v_front v_down v_frontThen v_downThen v_plots v_plotsThen v_row v_rowThen v_had  = some ρ) (H : Heap) (locs : List Loc) (ls : Array Slot) (hw : WD D A (kwX9_night cI cZ cG q q_page q_worths q_kinds q_likes q_had q_plots q_row q_plotsThen q_rowThen q_traded q_points q_ringLong q_wishes q_order q_bestOrder q_sights q_ways q_keptKinds q_keptPlots q_keptRow q_keptHad q_keptWishes q_keptSights v_pageMany v_houses v_nights v_squaresRead v_front v_down v_frontThen v_downThen v_ringsMany v_wishesMany v_ordersDone v_seenMany v_seedNow v_keptSquare v_keptFront v_keptDown v_keptNights v_keptWishesMany v_keptSeen v_hash v_plots v_plotsThen v_row v_rowThen v_kinds v_had v_worths) s.heap H locs) (hl : lv_has ls 2 [(0, .ref q)]) : W p l e R s m args below meth c H locs cells slots Q (F0 m 0 ls []) := by
  have hx := X.1.1
  have hb := X.1.2.1
  unfold fX9_night at h
  refine lv_aload_n hx hb dX9_night_0 rfl (lv_at hl 0 rfl) ?_
  obtain ⟨x_1, hc_1, h⟩ := obd h
  refine ksV_i (ws2 := (kwX9_night cI cZ cG q q_page q_worths q_kinds q_likes q_had q_plots q_row q_plotsThen q_rowThen q_traded q_points q_ringLong q_wishes q_order q_bestOrder q_sights q_ways q_keptKinds q_keptPlots q_keptRow q_keptHad q_keptWishes q_keptSights v_pageMany v_houses v_nights v_squaresRead v_front v_down v_frontThen v_downThen v_ringsMany v_wishesMany v_ordersDone v_seenMany v_seedNow v_keptSquare v_keptFront v_keptDown v_keptNights v_keptWishesMany v_keptSeen v_hash v_plots v_plotsThen v_row v_rowThen v_kinds v_had v_worths)) (nW := 8) (ci := 9) (As := []) (rest := []) X hw rfl rfl rfl (cX9_lacks_ct l D cI cZ cG q q_page q_worths q_kinds q_likes q_had q_plots q_row q_plotsThen q_rowThen q_traded q_points q_ringLong q_wishes q_order q_bestOrder q_sights q_ways q_keptKinds q_keptPlots q_keptRow q_keptHad q_keptWishes q_keptSights v_pageMany v_houses v_nights v_squaresRead v_front v_down v_frontThen v_downThen v_ringsMany v_wishesMany v_ordersDone v_seenMany v_seedNow v_keptSquare v_keptFront v_keptDown v_keptNights v_keptWishesMany v_keptSeen v_hash N x_1 hc_1 H.size) mX9_lacks tw_683 (hrm.call (by decide) (by decide)) [0] rfl (by decide) rfl (by decide) rfl ⟨rfl, ⟨rfl, ⟨rfl, ⟨rfl, ⟨rfl, ⟨rfl, ⟨rfl, trivial⟩⟩⟩⟩⟩⟩⟩ rfl hl.1 rfl (Nat.le_of_ble_eq_true rfl) dX9_night_1 ⟨hrm.2.2.1, hrm.2.2.2⟩ (fun H locs hw => ?_)
  refine lv_if_eq (tgt := 10) hx hb dX9_night_4 (by decide) (fun c_4 => ?_) (fun c_4 => ?_)
  · have h := ift c_4 h
    refine lv_aload_n hx hb dX9_night_10 rfl (lv_at hl 0 rfl) ?_
    refine kget (ci := 9) (v := .int v_nights) X hw iX9 0 rfl rfl 3 (by decide) tw_628 rfl dX9_night_11 ?_
    refine lv_sipush (v := (999 : Int32)) hx hb dX9_night_14 (by decide) ?_
    refine lv_icmp_ne (tgt := 23) hx hb dX9_night_17 (by decide) (fun c_17 => ?_) (fun c_17 => ?_)
    · have h := iff_ c_17 h
      refine lv_aload_n hx hb dX9_night_23 rfl (lv_at hl 0 rfl) ?_
      obtain ⟨x_24, hc_24, h⟩ := obd h
      refine ksV_v (ws2 := (kwX9_night cI cZ cG q q_page q_worths q_kinds q_likes q_had q_plots q_row q_plotsThen q_rowThen q_traded q_points q_ringLong q_wishes q_order q_bestOrder q_sights q_ways q_keptKinds q_keptPlots q_keptRow q_keptHad q_keptWishes q_keptSights v_pageMany v_houses v_nights v_squaresRead v_front v_down x_24.1 x_24.2.1 v_ringsMany v_wishesMany v_ordersDone v_seenMany v_seedNow v_keptSquare v_keptFront v_keptDown v_keptNights v_keptWishesMany v_keptSeen v_hash v_plots x_24.2.2.1 v_row x_24.2.2.2 v_kinds v_had v_worths)) (nW := 8) (ci := 9) (As := []) (rest := []) X hw rfl rfl rfl (cX9_begin_ct l D cI cZ cG q q_page q_worths q_kinds q_likes q_had q_plots q_row q_plotsThen q_rowThen q_traded q_points q_ringLong q_wishes q_order q_bestOrder q_sights q_ways q_keptKinds q_keptPlots q_keptRow q_keptHad q_keptWishes q_keptSights v_pageMany v_houses v_nights v_squaresRead v_front v_down v_frontThen v_downThen v_ringsMany v_wishesMany v_ordersDone v_seenMany v_seedNow v_keptSquare v_keptFront v_keptDown v_keptNights v_keptWishesMany v_keptSeen v_hash v_plots v_plotsThen v_row v_rowThen N x_24 hc_24 H.size) mX9_begin tw_684 (hrm.call (by decide) (by decide)) [0, 1, 2, 3, 4] rfl (by decide) rfl (by decide) rfl ⟨rfl, ⟨rfl, ⟨rfl, trivial⟩⟩⟩ rfl hl.1 rfl (Nat.le_of_ble_eq_true rfl) dX9_night_24 ⟨hrm.2.2.1, hrm.2.2.2⟩ (fun H locs hw => ?_)
      refine lv_aload_n hx hb dX9_night_27 rfl (lv_at hl 0 rfl) ?_
      obtain ⟨x_28, hc_28, h⟩ := obd h
      refine ksV_i (ws2 := (kwX9_night cI cZ cG q q_page q_worths q_kinds q_likes q_had q_plots q_row q_plotsThen q_rowThen q_traded q_points q_ringLong q_wishes q_order q_bestOrder q_sights q_ways q_keptKinds q_keptPlots q_keptRow q_keptHad q_keptWishes q_keptSights v_pageMany v_houses v_nights v_squaresRead v_front v_down x_28.2.1 x_28.2.2.1 v_ringsMany v_wishesMany v_ordersDone v_seenMany v_seedNow v_keptSquare v_keptFront v_keptDown v_keptNights v_keptWishesMany v_keptSeen v_hash v_plots x_28.2.2.2.2 v_row x_28.2.2.2.1 v_kinds v_had v_worths)) (nW := 8) (ci := 9) (As := []) (rest := []) X hw rfl rfl rfl (cX9_goOn_ct l D cI cZ cG q q_page q_worths q_kinds q_likes q_had q_plots q_row q_plotsThen q_rowThen q_traded q_points q_ringLong q_wishes q_order q_bestOrder q_sights q_ways q_keptKinds q_keptPlots q_keptRow q_keptHad q_keptWishes q_keptSights v_pageMany v_houses v_nights v_squaresRead v_front v_down x_24.1 x_24.2.1 v_ringsMany v_wishesMany v_ordersDone v_seenMany v_seedNow v_keptSquare v_keptFront v_keptDown v_keptNights v_keptWishesMany v_keptSeen v_hash x_24.2.2.2 v_kinds x_24.2.2.1 N x_28 hc_28 H.size) mX9_goOn tw_685 (hrm.call (by decide) (by decide)) [0, 4, 5, 2] rfl (by decide) rfl (by decide) rfl ⟨rfl, ⟨rfl, ⟨rfl, ⟨rfl, trivial⟩⟩⟩⟩ rfl hl.1 rfl (Nat.le_of_ble_eq_true rfl) dX9_night_28 ⟨hrm.2.2.1, hrm.2.2.2⟩ (fun H locs hw => ?_)
      refine lv_istore_n (lv' := [(1, .int x_28.1), (0, .ref q)]) hx hb dX9_night_31 rfl hl (by decide) rfl (fun ls hl => ?_)
      refine lv_aload_n hx hb dX9_night_32 rfl (lv_at hl 1 rfl) ?_
      obtain ⟨x_33, hc_33, h⟩ := obd h
      refine ksV_v (ws2 := (kwX9_night cI cZ cG q q_page q_worths q_kinds q_likes q_had q_plots q_row q_plotsThen q_rowThen q_traded q_points q_ringLong q_wishes q_order q_bestOrder q_sights q_ways q_keptKinds q_keptPlots q_keptRow q_keptHad q_keptWishes q_keptSights v_pageMany v_houses v_nights v_squaresRead x_33.1 x_33.2.1 x_28.2.1 x_28.2.2.1 v_ringsMany v_wishesMany v_ordersDone v_seenMany v_seedNow v_keptSquare v_keptFront v_keptDown v_keptNights v_keptWishesMany v_keptSeen v_hash x_33.2.2.1 x_28.2.2.2.2 x_33.2.2.2 x_28.2.2.2.1 v_kinds v_had v_worths)) (nW := 8) (ci := 9) (As := []) (rest := []) X hw rfl rfl rfl (cX9_takeThen_ct l D cI cZ cG q q_page q_worths q_kinds q_likes q_had q_plots q_row q_plotsThen q_rowThen q_traded q_points q_ringLong q_wishes q_order q_bestOrder q_sights q_ways q_keptKinds q_keptPlots q_keptRow q_keptHad q_keptWishes q_keptSights v_pageMany v_houses v_nights v_squaresRead v_front v_down x_28.2.1 x_28.2.2.1 v_ringsMany v_wishesMany v_ordersDone v_seenMany v_seedNow v_keptSquare v_keptFront v_keptDown v_keptNights v_keptWishesMany v_keptSeen v_hash x_28.2.2.2.2 v_plots x_28.2.2.2.1 v_row N x_33 hc_33 H.size) mX9_takeThen tw_686 (hrm.call (by decide) (by decide)) [0, 2, 1, 4, 3] rfl (by decide) rfl (by decide) rfl ⟨rfl, ⟨rfl, ⟨rfl, trivial⟩⟩⟩ rfl hl.1 rfl (Nat.le_of_ble_eq_true rfl) dX9_night_33 ⟨hrm.2.2.1, hrm.2.2.2⟩ (fun H locs hw => ?_)
      refine lv_aload_n hx hb dX9_night_36 rfl (lv_at hl 1 rfl) ?_
      obtain ⟨x_37, hc_37, h⟩ := obd h
      refine ksV_v (ws2 := (kwX9_night cI cZ cG q q_page q_worths q_kinds q_likes q_had q_plots q_row q_plotsThen q_rowThen q_traded q_points q_ringLong q_wishes q_order q_bestOrder q_sights q_ways q_keptKinds q_keptPlots q_keptRow q_keptHad q_keptWishes q_keptSights v_pageMany v_houses x_37.1 v_squaresRead x_33.1 x_33.2.1 x_28.2.1 x_28.2.2.1 v_ringsMany v_wishesMany v_ordersDone v_seenMany v_seedNow v_keptSquare v_keptFront v_keptDown v_keptNights v_keptWishesMany v_keptSeen v_hash x_33.2.2.1 x_28.2.2.2.2 x_33.2.2.2 x_28.2.2.2.1 v_kinds x_37.2 v_worths)) (nW := 8) (ci := 9) (As := []) (rest := []) X hw rfl rfl rfl (cX9_have_ct l D cI cZ cG q q_page q_worths q_kinds q_likes q_had q_plots q_row q_plotsThen q_rowThen q_traded q_points q_ringLong q_wishes q_order q_bestOrder q_sights q_ways q_keptKinds q_keptPlots q_keptRow q_keptHad q_keptWishes q_keptSights v_pageMany v_houses v_nights v_squaresRead x_33.1 x_33.2.1 x_28.2.1 x_28.2.2.1 v_ringsMany v_wishesMany v_ordersDone v_seenMany v_seedNow v_keptSquare v_keptFront v_keptDown v_keptNights v_keptWishesMany v_keptSeen v_hash v_had x_33.2.2.1 v_worths N x_37 hc_37 H.size) mX9_have tw_687 (hrm.call (by decide) (by decide)) [0, 6, 1, 7] rfl (by decide) rfl (by decide) rfl ⟨rfl, ⟨rfl, ⟨rfl, ⟨rfl, trivial⟩⟩⟩⟩ rfl hl.1 rfl (Nat.le_of_ble_eq_true rfl) dX9_night_37 ⟨hrm.2.2.1, hrm.2.2.2⟩ (fun H locs hw => ?_)
      refine lv_iload_n hx hb dX9_night_40 rfl (lv_at hl 0 rfl) ?_
      obtain rfl := Option.some.inj h
      exact ret _ _ _ _ dX9_night_41 hw
    · have h := ift c_17 h
      refine lv_bipush (v := (-104 : Int32)) hx hb dX9_night_20 (by decide) ?_
      obtain rfl := Option.some.inj h
      exact ret _ _ _ _ dX9_night_22 hw
  · have h := iff_ c_4 h
    refine lv_bipush (v := (-103 : Int32)) hx hb dX9_night_7 (by decide) ?_
    obtain rfl := Option.some.inj h
    exact ret _ _ _ _ dX9_night_9 hw
set_option maxHeartbeats 4000000 in
set_option maxRecDepth 100000 in
theorem cX9_night_ct (l : Launch) (D : va_G) (cI cZ cG : ClassId) (q q_page q_worths q_kinds q_likes q_had q_plots q_row q_plotsThen q_rowThen q_traded q_points q_ringLong q_wishes q_order q_bestOrder q_sights q_ways q_keptKinds q_keptPlots q_keptRow q_keptHad q_keptWishes q_keptSights : Nat)  (v_pageMany : Int32) (v_houses : Int32) (v_nights : Int32) (v_squaresRead : Int32) (v_front : Int32) (v_down : Int32) (v_frontThen : Int32) (v_downThen : Int32) (v_ringsMany : Int32) (v_wishesMany : Int32) (v_ordersDone : Int32) (v_seenMany : Int32) (v_seedNow : Int32) (v_keptSquare : Int32) (v_keptFront : Int32) (v_keptDown : Int32) (v_keptNights : Int32) (v_keptWishesMany : Int32) (v_keptSeen : Int32) (v_hash : Int64) (v_plots : (Nat → Int32)) (v_plotsThen : (Nat → Int32)) (v_row : (Nat → Int32)) (v_rowThen : (Nat → Int32)) (v_kinds : (Nat → Int32)) (v_had : (Nat → Int32)) (v_worths : (Nat → Int32))  (N : Nat) (ρ : Int32 × Int32 × Int32 × Int32 × Int32 × Int32 × (Nat → Int32) × (Nat → Int32) × (Nat → Int32) × (Nat → Int32) × (Nat → Int32)) (h : fX9_night N v_houses v_kinds v_worths v_nights v_front v_down v_frontThen v_downThen v_plots v_plotsThen v_row v_rowThen v_had  = some ρ) (sz : Nat) : Met l yX9_night (wz yX9_night cX9_night 2 (some .int)) (cRm 3 67) (cPre D (TY cI cZ cG) [.ref q] (kwX9_night cI cZ cG q q_page q_worths q_kinds q_likes q_had q_plots q_row q_plotsThen q_rowThen q_traded q_points q_ringLong q_wishes q_order q_bestOrder q_sights q_ways q_keptKinds q_keptPlots q_keptRow q_keptHad q_keptWishes q_keptSights v_pageMany v_houses v_nights v_squaresRead v_front v_down v_frontThen v_downThen v_ringsMany v_wishesMany v_ordersDone v_seenMany v_seedNow v_keptSquare v_keptFront v_keptDown v_keptNights v_keptWishesMany v_keptSeen v_hash v_plots v_plotsThen v_row v_rowThen v_kinds v_had v_worths) sz) (cQi D (ρ.1) (kwX9_night cI cZ cG q q_page q_worths q_kinds q_likes q_had q_plots q_row q_plotsThen q_rowThen q_traded q_points q_ringLong q_wishes q_order q_bestOrder q_sights q_ways q_keptKinds q_keptPlots q_keptRow q_keptHad q_keptWishes q_keptSights v_pageMany v_houses v_nights v_squaresRead v_front v_down v_frontThen v_downThen v_ringsMany v_wishesMany v_ordersDone v_seenMany v_seedNow v_keptSquare v_keptFront v_keptDown v_keptNights v_keptWishesMany v_keptSeen v_hash v_plots v_plotsThen v_row v_rowThen v_kinds v_had v_worths) (kwX9_night cI cZ cG q q_page q_worths q_kinds q_likes q_had q_plots q_row q_plotsThen q_rowThen q_traded q_points q_ringLong q_wishes q_order q_bestOrder q_sights q_ways q_keptKinds q_keptPlots q_keptRow q_keptHad q_keptWishes q_keptSights v_pageMany v_houses (ρ.2.1) v_squaresRead (ρ.2.2.1) (ρ.2.2.2.1) (ρ.2.2.2.2.1) (ρ.2.2.2.2.2.1) v_ringsMany v_wishesMany v_ordersDone v_seenMany v_seedNow v_keptSquare v_keptFront v_keptDown v_keptNights v_keptWishesMany v_keptSeen v_hash (ρ.2.2.2.2.2.2.1) (ρ.2.2.2.2.2.2.2.1) (ρ.2.2.2.2.2.2.2.2.1) (ρ.2.2.2.2.2.2.2.2.2.1) v_kinds (ρ.2.2.2.2.2.2.2.2.2.2) v_worths) sz) 0 0 (va_A (kwX9_night cI cZ cG q q_page q_worths q_kinds q_likes q_had q_plots q_row q_plotsThen q_rowThen q_traded q_points q_ringLong q_wishes q_order q_bestOrder q_sights q_ways q_keptKinds q_keptPlots q_keptRow q_keptHad q_keptWishes q_keptSights v_pageMany v_houses v_nights v_squaresRead v_front v_down v_frontThen v_downThen v_ringsMany v_wishesMany v_ordersDone v_seenMany v_seedNow v_keptSquare v_keptFront v_keptDown v_keptNights v_keptWishesMany v_keptSeen v_hash v_plots v_plotsThen v_row v_rowThen v_kinds v_had v_worths) sz) :=
  mk_i (by decide) (Nat.le_of_ble_eq_true rfl) (fun X hrm ret hw hl => wX9_night X hrm ret h _ _ _ hw hl)
theorem dX9_snow_0 : decode cX9_snow 0 = .ok (.aload_n 0, 1) := by decide +kernel
theorem dX9_snow_1 : decode cX9_snow 1 = .ok (.invokevirtual 158, 3) := by decide +kernel
theorem dX9_snow_4 : decode cX9_snow 4 = .ok (.ifCond .eq 6, 3) := by decide +kernel
theorem dX9_snow_7 : decode cX9_snow 7 = .ok (.bipush (-103), 2) := by decide +kernel
theorem dX9_snow_9 : decode cX9_snow 9 = .ok (.ireturn, 1) := by decide +kernel
theorem dX9_snow_10 : decode cX9_snow 10 = .ok (.aload_n 0, 1) := by decide +kernel
theorem dX9_snow_11 : decode cX9_snow 11 = .ok (.getfield 121, 3) := by decide +kernel
theorem dX9_snow_14 : decode cX9_snow 14 = .ok (.sipush 999, 3) := by decide +kernel
theorem dX9_snow_17 : decode cX9_snow 17 = .ok (.if_icmp .ne 6, 3) := by decide +kernel
theorem dX9_snow_20 : decode cX9_snow 20 = .ok (.bipush (-104), 2) := by decide +kernel
theorem dX9_snow_22 : decode cX9_snow 22 = .ok (.ireturn, 1) := by decide +kernel
theorem dX9_snow_23 : decode cX9_snow 23 = .ok (.aload_n 0, 1) := by decide +kernel
theorem dX9_snow_24 : decode cX9_snow 24 = .ok (.invokevirtual 171, 3) := by decide +kernel
theorem dX9_snow_27 : decode cX9_snow 27 = .ok (.aload_n 0, 1) := by decide +kernel
theorem dX9_snow_28 : decode cX9_snow 28 = .ok (.getfield 121, 3) := by decide +kernel
theorem dX9_snow_31 : decode cX9_snow 31 = .ok (.ireturn, 1) := by decide +kernel
abbrev kwX9_snow (cI cZ cG : ClassId) (q q_page q_worths q_kinds q_likes q_had q_plots q_row q_plotsThen q_rowThen q_traded q_points q_ringLong q_wishes q_order q_bestOrder q_sights q_ways q_keptKinds q_keptPlots q_keptRow q_keptHad q_keptWishes q_keptSights : Nat) (v_pageMany : Int32) (v_houses : Int32) (v_nights : Int32) (v_squaresRead : Int32) (v_front : Int32) (v_down : Int32) (v_frontThen : Int32) (v_downThen : Int32) (v_ringsMany : Int32) (v_wishesMany : Int32) (v_ordersDone : Int32) (v_seenMany : Int32) (v_seedNow : Int32) (v_keptSquare : Int32) (v_keptFront : Int32) (v_keptDown : Int32) (v_keptNights : Int32) (v_keptWishesMany : Int32) (v_keptSeen : Int32) (v_hash : Int64) (v_had : (Nat → Int32)) (v_plots : (Nat → Int32)) (v_worths : (Nat → Int32)) : va_W := [(q, .inr (9, [.ref q_page, .int v_pageMany, .int v_houses, .int v_nights, .int v_squaresRead, .ref q_worths, .ref q_kinds, .ref q_likes, .ref q_had, .ref q_plots, .ref q_row, .int v_front, .int v_down, .ref q_plotsThen, .ref q_rowThen, .int v_frontThen, .int v_downThen, .ref q_traded, .ref q_points, .int v_ringsMany, .ref q_ringLong, .int v_wishesMany, .ref q_wishes, .int v_ordersDone, .ref q_order, .ref q_bestOrder, .int v_seenMany, .ref q_sights, .ref q_ways, .int v_seedNow, .int v_keptSquare, .int v_keptFront, .int v_keptDown, .int v_keptNights, .int v_keptWishesMany, .int v_keptSeen, .ref q_keptKinds, .ref q_keptPlots, .ref q_keptRow, .ref q_keptHad, .ref q_keptWishes, .ref q_keptSights, .long v_hash])), (q_had, .inl (cI, 6, .inl v_had)), (q_plots, .inl (cI, 6, .inl v_plots)), (q_worths, .inl (cI, 12, .inl v_worths))]
noncomputable def fX9_snow (N : Nat) (v_houses : Int32) (v_plots : (Nat → Int32)) (v_worths : (Nat → Int32)) (v_nights : Int32) (v_had : (Nat → Int32))  : Option (Int32 × Int32 × (Nat → Int32)) := (fX9_lacks N v_houses).bind (fun x_1 => if x_1 = 0 then (if v_nights = (999 : Int32) then (some ((-104 : Int32), v_nights, v_had)) else ((fX9_have N v_houses v_plots v_worths v_nights v_had).bind (fun x_24 => some (x_24.1, x_24.1, x_24.2)))) else (some ((-103 : Int32), v_nights, v_had)))
set_option maxHeartbeats 4000000 in
set_option maxRecDepth 100000 in
theorem wX9_snow {p : Program} {l : Launch} {e : Env} {R : Room} {s : State} {m : MethodId} {args : Array Value} {below : List Frame} {meth : Method} {c : Code} {cells slots : Nat} {Q : State → Prop} {D : va_G} {A : Nat → Prop} {cI cZ cG : ClassId} {q q_page q_worths q_kinds q_likes q_had q_plots q_row q_plotsThen q_rowThen q_traded q_points q_ringLong q_wishes q_order q_bestOrder q_sights q_ways q_keptKinds q_keptPlots q_keptRow q_keptHad q_keptWishes q_keptSights : Nat} {v_pageMany : Int32} {v_houses : Int32} {v_nights : Int32} {v_squaresRead : Int32} {v_front : Int32} {v_down : Int32} {v_frontThen : Int32} {v_downThen : Int32} {v_ringsMany : Int32} {v_wishesMany : Int32} {v_ordersDone : Int32} {v_seenMany : Int32} {v_seedNow : Int32} {v_keptSquare : Int32} {v_keptFront : Int32} {v_keptDown : Int32} {v_keptNights : Int32} {v_keptWishesMany : Int32} {v_keptSeen : Int32} {v_hash : Int64} {v_had : (Nat → Int32)} {v_plots : (Nat → Int32)} {v_worths : (Nat → Int32)} {N : Nat} {ρ : Int32 × Int32 × (Nat → Int32)} (X : CX p s m args c cX9_snow 1 RX9 D (TY cI cZ cG) A) (hrm : RM R 2 42 cells slots) (ret : ∀ (pc : Nat) (H : Heap) (locs : List Loc) (ls : Array Slot), decode cX9_snow pc = .ok (.ireturn, 1) → WD D A (kwX9_snow cI cZ cG q q_page q_worths q_kinds q_likes q_had q_plots q_row q_plotsThen q_rowThen q_traded q_points q_ringLong q_wishes q_order q_bestOrder q_sights q_ways q_keptKinds q_keptPlots q_keptRow q_keptHad q_keptWishes q_keptSights v_pageMany v_houses (ρ.2.1) v_squaresRead v_front v_down v_frontThen v_downThen v_ringsMany v_wishesMany v_ordersDone v_seenMany v_seedNow v_keptSquare v_keptFront v_keptDown v_keptNights v_keptWishesMany v_keptSeen v_hash (ρ.2.2) v_plots v_worths) s.heap H locs → W p l e R s m args below meth c H locs cells slots Q (F0 m pc ls [.int ρ.1])) (h : fX9_snow N v_houses v_plots v_worths v_nights v_had  = some ρ) (H : Heap) (locs : List Loc) (ls : Array Slot) (hw : WD D A (kwX9_snow cI cZ cG q q_page q_worths q_kinds q_likes q_had q_plots q_row q_plotsThen q_rowThen q_traded q_points q_ringLong q_wishes q_order q_bestOrder q_sights q_ways q_keptKinds q_keptPlots q_keptRow q_keptHad q_keptWishes q_keptSights v_pageMany v_houses v_nights v_squaresRead v_front v_down v_frontThen v_downThen v_ringsMany v_wishesMany v_ordersDone v_seenMany v_seedNow v_keptSquare v_keptFront v_keptDown v_keptNights v_keptWishesMany v_keptSeen v_hash v_had v_plots v_worths) s.heap H locs) (hl : lv_has ls 1 [(0, .ref q)]) : W p l e R s m args below meth c H locs cells slots Q (F0 m 0 ls []) := by
  have hx := X.1.1
  have hb := X.1.2.1
  unfold fX9_snow at h
  refine lv_aload_n hx hb dX9_snow_0 rfl (lv_at hl 0 rfl) ?_
  obtain ⟨x_1, hc_1, h⟩ := obd h
  refine ksV_i (ws2 := (kwX9_snow cI cZ cG q q_page q_worths q_kinds q_likes q_had q_plots q_row q_plotsThen q_rowThen q_traded q_points q_ringLong q_wishes q_order q_bestOrder q_sights q_ways q_keptKinds q_keptPlots q_keptRow q_keptHad q_keptWishes q_keptSights v_pageMany v_houses v_nights v_squaresRead v_front v_down v_frontThen v_downThen v_ringsMany v_wishesMany v_ordersDone v_seenMany v_seedNow v_keptSquare v_keptFront v_keptDown v_keptNights v_keptWishesMany v_keptSeen v_hash v_had v_plots v_worths)) (nW := 4) (ci := 9) (As := []) (rest := []) X hw rfl rfl rfl (cX9_lacks_ct l D cI cZ cG q q_page q_worths q_kinds q_likes q_had q_plots q_row q_plotsThen q_rowThen q_traded q_points q_ringLong q_wishes q_order q_bestOrder q_sights q_ways q_keptKinds q_keptPlots q_keptRow q_keptHad q_keptWishes q_keptSights v_pageMany v_houses v_nights v_squaresRead v_front v_down v_frontThen v_downThen v_ringsMany v_wishesMany v_ordersDone v_seenMany v_seedNow v_keptSquare v_keptFront v_keptDown v_keptNights v_keptWishesMany v_keptSeen v_hash N x_1 hc_1 H.size) mX9_lacks tw_683 (hrm.call (by decide) (by decide)) [0] rfl (by decide) rfl (by decide) rfl ⟨rfl, ⟨rfl, ⟨rfl, trivial⟩⟩⟩ rfl hl.1 rfl (Nat.le_of_ble_eq_true rfl) dX9_snow_1 ⟨hrm.2.2.1, hrm.2.2.2⟩ (fun H locs hw => ?_)
  refine lv_if_eq (tgt := 10) hx hb dX9_snow_4 (by decide) (fun c_4 => ?_) (fun c_4 => ?_)
  · have h := ift c_4 h
    refine lv_aload_n hx hb dX9_snow_10 rfl (lv_at hl 0 rfl) ?_
    refine kget (ci := 9) (v := .int v_nights) X hw iX9 0 rfl rfl 3 (by decide) tw_628 rfl dX9_snow_11 ?_
    refine lv_sipush (v := (999 : Int32)) hx hb dX9_snow_14 (by decide) ?_
    refine lv_icmp_ne (tgt := 23) hx hb dX9_snow_17 (by decide) (fun c_17 => ?_) (fun c_17 => ?_)
    · have h := iff_ c_17 h
      refine lv_aload_n hx hb dX9_snow_23 rfl (lv_at hl 0 rfl) ?_
      obtain ⟨x_24, hc_24, h⟩ := obd h
      refine ksV_v (ws2 := (kwX9_snow cI cZ cG q q_page q_worths q_kinds q_likes q_had q_plots q_row q_plotsThen q_rowThen q_traded q_points q_ringLong q_wishes q_order q_bestOrder q_sights q_ways q_keptKinds q_keptPlots q_keptRow q_keptHad q_keptWishes q_keptSights v_pageMany v_houses x_24.1 v_squaresRead v_front v_down v_frontThen v_downThen v_ringsMany v_wishesMany v_ordersDone v_seenMany v_seedNow v_keptSquare v_keptFront v_keptDown v_keptNights v_keptWishesMany v_keptSeen v_hash x_24.2 v_plots v_worths)) (nW := 4) (ci := 9) (As := []) (rest := []) X hw rfl rfl rfl (cX9_have_ct l D cI cZ cG q q_page q_worths q_kinds q_likes q_had q_plots q_row q_plotsThen q_rowThen q_traded q_points q_ringLong q_wishes q_order q_bestOrder q_sights q_ways q_keptKinds q_keptPlots q_keptRow q_keptHad q_keptWishes q_keptSights v_pageMany v_houses v_nights v_squaresRead v_front v_down v_frontThen v_downThen v_ringsMany v_wishesMany v_ordersDone v_seenMany v_seedNow v_keptSquare v_keptFront v_keptDown v_keptNights v_keptWishesMany v_keptSeen v_hash v_had v_plots v_worths N x_24 hc_24 H.size) mX9_have tw_687 (hrm.call (by decide) (by decide)) [0, 1, 2, 3] rfl (by decide) rfl (by decide) rfl trivial rfl hl.1 rfl (Nat.le_of_ble_eq_true rfl) dX9_snow_24 ⟨hrm.2.2.1, hrm.2.2.2⟩ (fun H locs hw => ?_)
      refine lv_aload_n hx hb dX9_snow_27 rfl (lv_at hl 0 rfl) ?_
      refine kget (ci := 9) (v := .int x_24.1) X hw iX9 0 rfl rfl 3 (by decide) tw_628 rfl dX9_snow_28 ?_
      obtain rfl := Option.some.inj h
      exact ret _ _ _ _ dX9_snow_31 hw
    · have h := ift c_17 h
      refine lv_bipush (v := (-104 : Int32)) hx hb dX9_snow_20 (by decide) ?_
      obtain rfl := Option.some.inj h
      exact ret _ _ _ _ dX9_snow_22 hw
  · have h := iff_ c_4 h
    refine lv_bipush (v := (-103 : Int32)) hx hb dX9_snow_7 (by decide) ?_
    obtain rfl := Option.some.inj h
    exact ret _ _ _ _ dX9_snow_9 hw
set_option maxHeartbeats 4000000 in
set_option maxRecDepth 100000 in
theorem cX9_snow_ct (l : Launch) (D : va_G) (cI cZ cG : ClassId) (q q_page q_worths q_kinds q_likes q_had q_plots q_row q_plotsThen q_rowThen q_traded q_points q_ringLong q_wishes q_order q_bestOrder q_sights q_ways q_keptKinds q_keptPlots q_keptRow q_keptHad q_keptWishes q_keptSights : Nat)  (v_pageMany : Int32) (v_houses : Int32) (v_nights : Int32) (v_squaresRead : Int32) (v_front : Int32) (v_down : Int32) (v_frontThen : Int32) (v_downThen : Int32) (v_ringsMany : Int32) (v_wishesMany : Int32) (v_ordersDone : Int32) (v_seenMany : Int32) (v_seedNow : Int32) (v_keptSquare : Int32) (v_keptFront : Int32) (v_keptDown : Int32) (v_keptNights : Int32) (v_keptWishesMany : Int32) (v_keptSeen : Int32) (v_hash : Int64) (v_had : (Nat → Int32)) (v_plots : (Nat → Int32)) (v_worths : (Nat → Int32))  (N : Nat) (ρ : Int32 × Int32 × (Nat → Int32)) (h : fX9_snow N v_houses v_plots v_worths v_nights v_had  = some ρ) (sz : Nat) : Met l yX9_snow (wz yX9_snow cX9_snow 1 (some .int)) (cRm 2 42) (cPre D (TY cI cZ cG) [.ref q] (kwX9_snow cI cZ cG q q_page q_worths q_kinds q_likes q_had q_plots q_row q_plotsThen q_rowThen q_traded q_points q_ringLong q_wishes q_order q_bestOrder q_sights q_ways q_keptKinds q_keptPlots q_keptRow q_keptHad q_keptWishes q_keptSights v_pageMany v_houses v_nights v_squaresRead v_front v_down v_frontThen v_downThen v_ringsMany v_wishesMany v_ordersDone v_seenMany v_seedNow v_keptSquare v_keptFront v_keptDown v_keptNights v_keptWishesMany v_keptSeen v_hash v_had v_plots v_worths) sz) (cQi D (ρ.1) (kwX9_snow cI cZ cG q q_page q_worths q_kinds q_likes q_had q_plots q_row q_plotsThen q_rowThen q_traded q_points q_ringLong q_wishes q_order q_bestOrder q_sights q_ways q_keptKinds q_keptPlots q_keptRow q_keptHad q_keptWishes q_keptSights v_pageMany v_houses v_nights v_squaresRead v_front v_down v_frontThen v_downThen v_ringsMany v_wishesMany v_ordersDone v_seenMany v_seedNow v_keptSquare v_keptFront v_keptDown v_keptNights v_keptWishesMany v_keptSeen v_hash v_had v_plots v_worths) (kwX9_snow cI cZ cG q q_page q_worths q_kinds q_likes q_had q_plots q_row q_plotsThen q_rowThen q_traded q_points q_ringLong q_wishes q_order q_bestOrder q_sights q_ways q_keptKinds q_keptPlots q_keptRow q_keptHad q_keptWishes q_keptSights v_pageMany v_houses (ρ.2.1) v_squaresRead v_front v_down v_frontThen v_downThen v_ringsMany v_wishesMany v_ordersDone v_seenMany v_seedNow v_keptSquare v_keptFront v_keptDown v_keptNights v_keptWishesMany v_keptSeen v_hash (ρ.2.2) v_plots v_worths) sz) 0 0 (va_A (kwX9_snow cI cZ cG q q_page q_worths q_kinds q_likes q_had q_plots q_row q_plotsThen q_rowThen q_traded q_points q_ringLong q_wishes q_order q_bestOrder q_sights q_ways q_keptKinds q_keptPlots q_keptRow q_keptHad q_keptWishes q_keptSights v_pageMany v_houses v_nights v_squaresRead v_front v_down v_frontThen v_downThen v_ringsMany v_wishesMany v_ordersDone v_seenMany v_seedNow v_keptSquare v_keptFront v_keptDown v_keptNights v_keptWishesMany v_keptSeen v_hash v_had v_plots v_worths) sz) :=
  mk_i (by decide) (Nat.le_of_ble_eq_true rfl) (fun X hrm ret hw hl => wX9_snow X hrm ret h _ _ _ hw hl)
theorem dX9_build_0 : decode cX9_build 0 = .ok (.aload_n 0, 1) := by decide +kernel
theorem dX9_build_1 : decode cX9_build 1 = .ok (.iload_n 1, 1) := by decide +kernel
theorem dX9_build_2 : decode cX9_build 2 = .ok (.invokevirtual 133, 3) := by decide +kernel
theorem dX9_build_5 : decode cX9_build 5 = .ok (.ifCond .ne 6, 3) := by decide +kernel
theorem dX9_build_8 : decode cX9_build 8 = .ok (.bipush (-101), 2) := by decide +kernel
theorem dX9_build_10 : decode cX9_build 10 = .ok (.ireturn, 1) := by decide +kernel
theorem dX9_build_11 : decode cX9_build 11 = .ok (.iload_n 2, 1) := by decide +kernel
theorem dX9_build_12 : decode cX9_build 12 = .ok (.i2l, 1) := by decide +kernel
theorem dX9_build_13 : decode cX9_build 13 = .ok (.lconst 0, 1) := by decide +kernel
theorem dX9_build_14 : decode cX9_build 14 = .ok (.ldc2_w 174, 3) := by decide +kernel
theorem dX9_build_17 : decode cX9_build 17 = .ok (.invokestatic 85, 3) := by decide +kernel
theorem dX9_build_20 : decode cX9_build 20 = .ok (.ifCond .ne 6, 3) := by decide +kernel
theorem dX9_build_23 : decode cX9_build 23 = .ok (.bipush (-102), 2) := by decide +kernel
theorem dX9_build_25 : decode cX9_build 25 = .ok (.ireturn, 1) := by decide +kernel
theorem dX9_build_26 : decode cX9_build 26 = .ok (.aload_n 0, 1) := by decide +kernel
theorem dX9_build_27 : decode cX9_build 27 = .ok (.getfield 25, 3) := by decide +kernel
theorem dX9_build_30 : decode cX9_build 30 = .ok (.iload_n 1, 1) := by decide +kernel
theorem dX9_build_31 : decode cX9_build 31 = .ok (.iaload, 1) := by decide +kernel
theorem dX9_build_32 : decode cX9_build 32 = .ok (.iconst (-1), 1) := by decide +kernel
theorem dX9_build_33 : decode cX9_build 33 = .ok (.if_icmp .ne 6, 3) := by decide +kernel
theorem dX9_build_36 : decode cX9_build 36 = .ok (.bipush (-103), 2) := by decide +kernel
theorem dX9_build_38 : decode cX9_build 38 = .ok (.ireturn, 1) := by decide +kernel
theorem dX9_build_39 : decode cX9_build 39 = .ok (.aload_n 0, 1) := by decide +kernel
theorem dX9_build_40 : decode cX9_build 40 = .ok (.getfield 16, 3) := by decide +kernel
theorem dX9_build_43 : decode cX9_build 43 = .ok (.iload_n 1, 1) := by decide +kernel
theorem dX9_build_44 : decode cX9_build 44 = .ok (.iaload, 1) := by decide +kernel
theorem dX9_build_45 : decode cX9_build 45 = .ok (.istore_n 3, 1) := by decide +kernel
theorem dX9_build_46 : decode cX9_build 46 = .ok (.aload_n 0, 1) := by decide +kernel
theorem dX9_build_47 : decode cX9_build 47 = .ok (.getfield 16, 3) := by decide +kernel
theorem dX9_build_50 : decode cX9_build 50 = .ok (.iload_n 1, 1) := by decide +kernel
theorem dX9_build_51 : decode cX9_build 51 = .ok (.iload_n 2, 1) := by decide +kernel
theorem dX9_build_52 : decode cX9_build 52 = .ok (.iastore, 1) := by decide +kernel
theorem dX9_build_53 : decode cX9_build 53 = .ok (.iload_n 3, 1) := by decide +kernel
theorem dX9_build_54 : decode cX9_build 54 = .ok (.ireturn, 1) := by decide +kernel
abbrev kwX9_build (cI cZ cG : ClassId) (q q_page q_worths q_kinds q_likes q_had q_plots q_row q_plotsThen q_rowThen q_traded q_points q_ringLong q_wishes q_order q_bestOrder q_sights q_ways q_keptKinds q_keptPlots q_keptRow q_keptHad q_keptWishes q_keptSights : Nat) (v_pageMany : Int32) (v_houses : Int32) (v_nights : Int32) (v_squaresRead : Int32) (v_front : Int32) (v_down : Int32) (v_frontThen : Int32) (v_downThen : Int32) (v_ringsMany : Int32) (v_wishesMany : Int32) (v_ordersDone : Int32) (v_seenMany : Int32) (v_seedNow : Int32) (v_keptSquare : Int32) (v_keptFront : Int32) (v_keptDown : Int32) (v_keptNights : Int32) (v_keptWishesMany : Int32) (v_keptSeen : Int32) (v_hash : Int64) (v_plots : (Nat → Int32)) (v_kinds : (Nat → Int32)) : va_W := [(q, .inr (9, [.ref q_page, .int v_pageMany, .int v_houses, .int v_nights, .int v_squaresRead, .ref q_worths, .ref q_kinds, .ref q_likes, .ref q_had, .ref q_plots, .ref q_row, .int v_front, .int v_down, .ref q_plotsThen, .ref q_rowThen, .int v_frontThen, .int v_downThen, .ref q_traded, .ref q_points, .int v_ringsMany, .ref q_ringLong, .int v_wishesMany, .ref q_wishes, .int v_ordersDone, .ref q_order, .ref q_bestOrder, .int v_seenMany, .ref q_sights, .ref q_ways, .int v_seedNow, .int v_keptSquare, .int v_keptFront, .int v_keptDown, .int v_keptNights, .int v_keptWishesMany, .int v_keptSeen, .ref q_keptKinds, .ref q_keptPlots, .ref q_keptRow, .ref q_keptHad, .ref q_keptWishes, .ref q_keptSights, .long v_hash])), (q_plots, .inl (cI, 6, .inl v_plots)), (q_kinds, .inl (cI, 6, .inl v_kinds))]
noncomputable def fX9_build (N : Nat) (v_houses : Int32) (v_plots : (Nat → Int32)) (a1 : Int32) (a2 : Int32) (v_kinds : (Nat → Int32))  : Option (Int32 × (Nat → Int32)) := (fX9_isHouse N v_houses a1).bind (fun x_2 => if x_2 = 0 then (some ((-101 : Int32), v_kinds)) else ((fX9_in N ((a2).toInt64) (0 : Int64) (4 : Int64)).bind (fun x_17 => if x_17 = 0 then (some ((-102 : Int32), v_kinds)) else (if a1 < 0 ∨ 6 ≤ (a1).toNatClampNeg then none else (if (v_plots (a1).toNatClampNeg) = (-1 : Int32) then (some ((-103 : Int32), v_kinds)) else (if a1 < 0 ∨ 6 ≤ (a1).toNatClampNeg then none else (if a1 < 0 ∨ 6 ≤ (a1).toNatClampNeg then none else (some ((v_kinds (a1).toNatClampNeg), (upd v_kinds (a1).toNatClampNeg a2))))))))))
set_option maxHeartbeats 4000000 in
set_option maxRecDepth 100000 in
theorem wX9_build {p : Program} {l : Launch} {e : Env} {R : Room} {s : State} {m : MethodId} {args : Array Value} {below : List Frame} {meth : Method} {c : Code} {cells slots : Nat} {Q : State → Prop} {D : va_G} {A : Nat → Prop} {cI cZ cG : ClassId} {q q_page q_worths q_kinds q_likes q_had q_plots q_row q_plotsThen q_rowThen q_traded q_points q_ringLong q_wishes q_order q_bestOrder q_sights q_ways q_keptKinds q_keptPlots q_keptRow q_keptHad q_keptWishes q_keptSights : Nat} {v_pageMany : Int32} {v_houses : Int32} {v_nights : Int32} {v_squaresRead : Int32} {v_front : Int32} {v_down : Int32} {v_frontThen : Int32} {v_downThen : Int32} {v_ringsMany : Int32} {v_wishesMany : Int32} {v_ordersDone : Int32} {v_seenMany : Int32} {v_seedNow : Int32} {v_keptSquare : Int32} {v_keptFront : Int32} {v_keptDown : Int32} {v_keptNights : Int32} {v_keptWishesMany : Int32} {v_keptSeen : Int32} {v_hash : Int64} {v_plots : (Nat → Int32)} {v_kinds : (Nat → Int32)} {a1 : Int32} {a2 : Int32} {N : Nat} {ρ : Int32 × (Nat → Int32)} (X : CX p s m args c cX9_build 4 RX9 D (TY cI cZ cG) A) (hrm : RM R 2 46 cells slots) (ret : ∀ (pc : Nat) (H : Heap) (locs : List Loc) (ls : Array Slot), decode cX9_build pc = .ok (.ireturn, 1) → WD D A (kwX9_build cI cZ cG q q_page q_worths q_kinds q_likes q_had q_plots q_row q_plotsThen q_rowThen q_traded q_points q_ringLong q_wishes q_order q_bestOrder q_sights q_ways q_keptKinds q_keptPlots q_keptRow q_keptHad q_keptWishes q_keptSights v_pageMany v_houses v_nights v_squaresRead v_front v_down v_frontThen v_downThen v_ringsMany v_wishesMany v_ordersDone v_seenMany v_seedNow v_keptSquare v_keptFront v_keptDown v_keptNights v_keptWishesMany v_keptSeen v_hash v_plots (ρ.2)) s.heap H locs → W p l e R s m args below meth c H locs cells slots Q (F0 m pc ls [.int ρ.1])) (h : fX9_build N v_houses v_plots a1 a2 v_kinds  = some ρ) (H : Heap) (locs : List Loc) (ls : Array Slot) (hw : WD D A (kwX9_build cI cZ cG q q_page q_worths q_kinds q_likes q_had q_plots q_row q_plotsThen q_rowThen q_traded q_points q_ringLong q_wishes q_order q_bestOrder q_sights q_ways q_keptKinds q_keptPlots q_keptRow q_keptHad q_keptWishes q_keptSights v_pageMany v_houses v_nights v_squaresRead v_front v_down v_frontThen v_downThen v_ringsMany v_wishesMany v_ordersDone v_seenMany v_seedNow v_keptSquare v_keptFront v_keptDown v_keptNights v_keptWishesMany v_keptSeen v_hash v_plots v_kinds) s.heap H locs) (hl : lv_has ls 4 [(0, .ref q), (1, .int a1), (2, .int a2)]) : W p l e R s m args below meth c H locs cells slots Q (F0 m 0 ls []) := by
  have hx := X.1.1
  have hb := X.1.2.1
  unfold fX9_build at h
  refine lv_aload_n hx hb dX9_build_0 rfl (lv_at hl 0 rfl) ?_
  refine lv_iload_n hx hb dX9_build_1 rfl (lv_at hl 1 rfl) ?_
  obtain ⟨x_2, hc_2, h⟩ := obd h
  refine ksV_i (ws2 := (kwX9_build cI cZ cG q q_page q_worths q_kinds q_likes q_had q_plots q_row q_plotsThen q_rowThen q_traded q_points q_ringLong q_wishes q_order q_bestOrder q_sights q_ways q_keptKinds q_keptPlots q_keptRow q_keptHad q_keptWishes q_keptSights v_pageMany v_houses v_nights v_squaresRead v_front v_down v_frontThen v_downThen v_ringsMany v_wishesMany v_ordersDone v_seenMany v_seedNow v_keptSquare v_keptFront v_keptDown v_keptNights v_keptWishesMany v_keptSeen v_hash v_plots v_kinds)) (nW := 3) (ci := 9) (As := [.int a1]) (rest := []) X hw rfl rfl rfl (cX9_isHouse_ct l D cI cZ cG q q_page q_worths q_kinds q_likes q_had q_plots q_row q_plotsThen q_rowThen q_traded q_points q_ringLong q_wishes q_order q_bestOrder q_sights q_ways q_keptKinds q_keptPlots q_keptRow q_keptHad q_keptWishes q_keptSights v_pageMany v_houses v_nights v_squaresRead v_front v_down v_frontThen v_downThen v_ringsMany v_wishesMany v_ordersDone v_seenMany v_seedNow v_keptSquare v_keptFront v_keptDown v_keptNights v_keptWishesMany v_keptSeen v_hash a1 N x_2 hc_2 H.size) mX9_isHouse tw_647 (hrm.call (by decide) (by decide)) [0] rfl (by decide) rfl (by decide) rfl ⟨rfl, ⟨rfl, trivial⟩⟩ rfl hl.1 rfl (Nat.le_of_ble_eq_true rfl) dX9_build_2 ⟨hrm.2.2.1, hrm.2.2.2⟩ (fun H locs hw => ?_)
  refine lv_if_ne (tgt := 11) hx hb dX9_build_5 (by decide) (fun c_5 => ?_) (fun c_5 => ?_)
  · have h := iff_ c_5 h
    refine lv_iload_n hx hb dX9_build_11 rfl (lv_at hl 2 rfl) ?_
    refine lv_i2l (v := ((a2).toInt64)) hx hb dX9_build_12 rfl ?_
    refine lv_lconst (v := 0) hx hb dX9_build_13 (by decide) ?_
    refine lv_ldc2 (v := (4 : Int64)) hx hb X.1.2.2.2.1 (X.1.2.2.2.2 _ tw_694) dX9_build_14 ?_
    obtain ⟨x_17, hc_17, h⟩ := obd h
    refine ksS_i (ws2 := (kwX9_build cI cZ cG q q_page q_worths q_kinds q_likes q_had q_plots q_row q_plotsThen q_rowThen q_traded q_points q_ringLong q_wishes q_order q_bestOrder q_sights q_ways q_keptKinds q_keptPlots q_keptRow q_keptHad q_keptWishes q_keptSights v_pageMany v_houses v_nights v_squaresRead v_front v_down v_frontThen v_downThen v_ringsMany v_wishesMany v_ordersDone v_seenMany v_seedNow v_keptSquare v_keptFront v_keptDown v_keptNights v_keptWishesMany v_keptSeen v_hash v_plots v_kinds)) (nW := 3) (As := [.long ((a2).toInt64), .long (0 : Int64), .long (4 : Int64)]) (rest := []) X hw (cX9_in_ct l D cI cZ cG ((a2).toInt64) (0 : Int64) (4 : Int64) N x_17 hc_17 H.size) mX9_in tw_599 (hrm.call (by decide) (by decide)) [] rfl (by decide) rfl (by decide) rfl ⟨rfl, ⟨rfl, ⟨rfl, trivial⟩⟩⟩ rfl hl.1 rfl (Nat.le_of_ble_eq_true rfl) dX9_build_17 ⟨hrm.2.2.1, hrm.2.2.2⟩ (fun H locs hw => ?_)
    refine lv_if_ne (tgt := 26) hx hb dX9_build_20 (by decide) (fun c_20 => ?_) (fun c_20 => ?_)
    · have h := iff_ c_20 h
      refine lv_aload_n hx hb dX9_build_26 rfl (lv_at hl 0 rfl) ?_
      refine kget (ci := 9) (v := .ref q_plots) X hw iX9 0 rfl rfl 9 (by decide) tw_635 rfl dX9_build_27 ?_
      refine lv_iload_n hx hb dX9_build_30 rfl (lv_at hl 1 rfl) ?_
      obtain ⟨g_31, h⟩ := gd h
      refine kiald X hw 1 rfl rfl g_31 dX9_build_31 ?_
      refine lv_iconst (v := (-1 : Int32)) hx hb dX9_build_32 (by decide) ?_
      refine lv_icmp_ne (tgt := 39) hx hb dX9_build_33 (by decide) (fun c_33 => ?_) (fun c_33 => ?_)
      · have h := iff_ c_33 h
        refine lv_aload_n hx hb dX9_build_39 rfl (lv_at hl 0 rfl) ?_
        refine kget (ci := 9) (v := .ref q_kinds) X hw iX9 0 rfl rfl 6 (by decide) tw_632 rfl dX9_build_40 ?_
        refine lv_iload_n hx hb dX9_build_43 rfl (lv_at hl 1 rfl) ?_
        obtain ⟨g_44, h⟩ := gd h
        refine kiald X hw 2 rfl rfl g_44 dX9_build_44 ?_
        refine lv_istore_n (lv' := [(3, .int (v_kinds (a1).toNatClampNeg)), (0, .ref q), (1, .int a1), (2, .int a2)]) hx hb dX9_build_45 rfl hl (by decide) rfl (fun ls hl => ?_)
        refine lv_aload_n hx hb dX9_build_46 rfl (lv_at hl 1 rfl) ?_
        refine kget (ci := 9) (v := .ref q_kinds) X hw iX9 0 rfl rfl 6 (by decide) tw_632 rfl dX9_build_47 ?_
        refine lv_iload_n hx hb dX9_build_50 rfl (lv_at hl 2 rfl) ?_
        refine lv_iload_n hx hb dX9_build_51 rfl (lv_at hl 3 rfl) ?_
        obtain ⟨g_52, h⟩ := gd h
        refine kiast X hw 2 rfl rfl g_52 dX9_build_52 (fun H locs hw => ?_)
        have hw : WD D A (kwX9_build cI cZ cG q q_page q_worths q_kinds q_likes q_had q_plots q_row q_plotsThen q_rowThen q_traded q_points q_ringLong q_wishes q_order q_bestOrder q_sights q_ways q_keptKinds q_keptPlots q_keptRow q_keptHad q_keptWishes q_keptSights v_pageMany v_houses v_nights v_squaresRead v_front v_down v_frontThen v_downThen v_ringsMany v_wishesMany v_ordersDone v_seenMany v_seedNow v_keptSquare v_keptFront v_keptDown v_keptNights v_keptWishesMany v_keptSeen v_hash v_plots (upd v_kinds (a1).toNatClampNeg a2)) s.heap H locs := hw
        refine lv_iload_n hx hb dX9_build_53 rfl (lv_at hl 0 rfl) ?_
        obtain rfl := Option.some.inj h
        exact ret _ _ _ _ dX9_build_54 hw
      · have h := ift c_33 h
        refine lv_bipush (v := (-103 : Int32)) hx hb dX9_build_36 (by decide) ?_
        obtain rfl := Option.some.inj h
        exact ret _ _ _ _ dX9_build_38 hw
    · have h := ift c_20 h
      refine lv_bipush (v := (-102 : Int32)) hx hb dX9_build_23 (by decide) ?_
      obtain rfl := Option.some.inj h
      exact ret _ _ _ _ dX9_build_25 hw
  · have h := ift c_5 h
    refine lv_bipush (v := (-101 : Int32)) hx hb dX9_build_8 (by decide) ?_
    obtain rfl := Option.some.inj h
    exact ret _ _ _ _ dX9_build_10 hw
set_option maxHeartbeats 4000000 in
set_option maxRecDepth 100000 in
theorem cX9_build_ct (l : Launch) (D : va_G) (cI cZ cG : ClassId) (q q_page q_worths q_kinds q_likes q_had q_plots q_row q_plotsThen q_rowThen q_traded q_points q_ringLong q_wishes q_order q_bestOrder q_sights q_ways q_keptKinds q_keptPlots q_keptRow q_keptHad q_keptWishes q_keptSights : Nat)  (v_pageMany : Int32) (v_houses : Int32) (v_nights : Int32) (v_squaresRead : Int32) (v_front : Int32) (v_down : Int32) (v_frontThen : Int32) (v_downThen : Int32) (v_ringsMany : Int32) (v_wishesMany : Int32) (v_ordersDone : Int32) (v_seenMany : Int32) (v_seedNow : Int32) (v_keptSquare : Int32) (v_keptFront : Int32) (v_keptDown : Int32) (v_keptNights : Int32) (v_keptWishesMany : Int32) (v_keptSeen : Int32) (v_hash : Int64) (v_plots : (Nat → Int32)) (v_kinds : (Nat → Int32)) (a1 : Int32) (a2 : Int32) (N : Nat) (ρ : Int32 × (Nat → Int32)) (h : fX9_build N v_houses v_plots a1 a2 v_kinds  = some ρ) (sz : Nat) : Met l yX9_build (wz yX9_build cX9_build 4 (some .int)) (cRm 2 46) (cPre D (TY cI cZ cG) [.ref q, .int a1, .int a2] (kwX9_build cI cZ cG q q_page q_worths q_kinds q_likes q_had q_plots q_row q_plotsThen q_rowThen q_traded q_points q_ringLong q_wishes q_order q_bestOrder q_sights q_ways q_keptKinds q_keptPlots q_keptRow q_keptHad q_keptWishes q_keptSights v_pageMany v_houses v_nights v_squaresRead v_front v_down v_frontThen v_downThen v_ringsMany v_wishesMany v_ordersDone v_seenMany v_seedNow v_keptSquare v_keptFront v_keptDown v_keptNights v_keptWishesMany v_keptSeen v_hash v_plots v_kinds) sz) (cQi D (ρ.1) (kwX9_build cI cZ cG q q_page q_worths q_kinds q_likes q_had q_plots q_row q_plotsThen q_rowThen q_traded q_points q_ringLong q_wishes q_order q_bestOrder q_sights q_ways q_keptKinds q_keptPlots q_keptRow q_keptHad q_keptWishes q_keptSights v_pageMany v_houses v_nights v_squaresRead v_front v_down v_frontThen v_downThen v_ringsMany v_wishesMany v_ordersDone v_seenMany v_seedNow v_keptSquare v_keptFront v_keptDown v_keptNights v_keptWishesMany v_keptSeen v_hash v_plots v_kinds) (kwX9_build cI cZ cG q q_page q_worths q_kinds q_likes q_had q_plots q_row q_plotsThen q_rowThen q_traded q_points q_ringLong q_wishes q_order q_bestOrder q_sights q_ways q_keptKinds q_keptPlots q_keptRow q_keptHad q_keptWishes q_keptSights v_pageMany v_houses v_nights v_squaresRead v_front v_down v_frontThen v_downThen v_ringsMany v_wishesMany v_ordersDone v_seenMany v_seedNow v_keptSquare v_keptFront v_keptDown v_keptNights v_keptWishesMany v_keptSeen v_hash v_plots (ρ.2)) sz) 0 0 (va_A (kwX9_build cI cZ cG q q_page q_worths q_kinds q_likes q_had q_plots q_row q_plotsThen q_rowThen q_traded q_points q_ringLong q_wishes q_order q_bestOrder q_sights q_ways q_keptKinds q_keptPlots q_keptRow q_keptHad q_keptWishes q_keptSights v_pageMany v_houses v_nights v_squaresRead v_front v_down v_frontThen v_downThen v_ringsMany v_wishesMany v_ordersDone v_seenMany v_seedNow v_keptSquare v_keptFront v_keptDown v_keptNights v_keptWishesMany v_keptSeen v_hash v_plots v_kinds) sz) :=
  mk_i (by decide) (Nat.le_of_ble_eq_true rfl) (fun X hrm ret hw hl => wX9_build X hrm ret h _ _ _ hw hl)
theorem dX9_swap_0 : decode cX9_swap 0 = .ok (.aload_n 0, 1) := by decide +kernel
theorem dX9_swap_1 : decode cX9_swap 1 = .ok (.iload_n 1, 1) := by decide +kernel
theorem dX9_swap_2 : decode cX9_swap 2 = .ok (.iload_n 2, 1) := by decide +kernel
theorem dX9_swap_3 : decode cX9_swap 3 = .ok (.invokevirtual 176, 3) := by decide +kernel
theorem dX9_swap_6 : decode cX9_swap 6 = .ok (.ifCond .ne 6, 3) := by decide +kernel
theorem dX9_swap_9 : decode cX9_swap 9 = .ok (.bipush (-101), 2) := by decide +kernel
theorem dX9_swap_11 : decode cX9_swap 11 = .ok (.ireturn, 1) := by decide +kernel
theorem dX9_swap_12 : decode cX9_swap 12 = .ok (.aload_n 0, 1) := by decide +kernel
theorem dX9_swap_13 : decode cX9_swap 13 = .ok (.getfield 25, 3) := by decide +kernel
theorem dX9_swap_16 : decode cX9_swap 16 = .ok (.iload_n 1, 1) := by decide +kernel
theorem dX9_swap_17 : decode cX9_swap 17 = .ok (.iaload, 1) := by decide +kernel
theorem dX9_swap_18 : decode cX9_swap 18 = .ok (.iconst (-1), 1) := by decide +kernel
theorem dX9_swap_19 : decode cX9_swap 19 = .ok (.if_icmp .eq 13, 3) := by decide +kernel
theorem dX9_swap_22 : decode cX9_swap 22 = .ok (.aload_n 0, 1) := by decide +kernel
theorem dX9_swap_23 : decode cX9_swap 23 = .ok (.getfield 25, 3) := by decide +kernel
theorem dX9_swap_26 : decode cX9_swap 26 = .ok (.iload_n 2, 1) := by decide +kernel
theorem dX9_swap_27 : decode cX9_swap 27 = .ok (.iaload, 1) := by decide +kernel
theorem dX9_swap_28 : decode cX9_swap 28 = .ok (.iconst (-1), 1) := by decide +kernel
theorem dX9_swap_29 : decode cX9_swap 29 = .ok (.if_icmp .ne 6, 3) := by decide +kernel
theorem dX9_swap_32 : decode cX9_swap 32 = .ok (.bipush (-103), 2) := by decide +kernel
theorem dX9_swap_34 : decode cX9_swap 34 = .ok (.ireturn, 1) := by decide +kernel
theorem dX9_swap_35 : decode cX9_swap 35 = .ok (.aload_n 0, 1) := by decide +kernel
theorem dX9_swap_36 : decode cX9_swap 36 = .ok (.getfield 25, 3) := by decide +kernel
theorem dX9_swap_39 : decode cX9_swap 39 = .ok (.iload_n 1, 1) := by decide +kernel
theorem dX9_swap_40 : decode cX9_swap 40 = .ok (.iaload, 1) := by decide +kernel
theorem dX9_swap_41 : decode cX9_swap 41 = .ok (.istore_n 3, 1) := by decide +kernel
theorem dX9_swap_42 : decode cX9_swap 42 = .ok (.aload_n 0, 1) := by decide +kernel
theorem dX9_swap_43 : decode cX9_swap 43 = .ok (.getfield 25, 3) := by decide +kernel
theorem dX9_swap_46 : decode cX9_swap 46 = .ok (.iload_n 1, 1) := by decide +kernel
theorem dX9_swap_47 : decode cX9_swap 47 = .ok (.aload_n 0, 1) := by decide +kernel
theorem dX9_swap_48 : decode cX9_swap 48 = .ok (.getfield 25, 3) := by decide +kernel
theorem dX9_swap_51 : decode cX9_swap 51 = .ok (.iload_n 2, 1) := by decide +kernel
theorem dX9_swap_52 : decode cX9_swap 52 = .ok (.iaload, 1) := by decide +kernel
theorem dX9_swap_53 : decode cX9_swap 53 = .ok (.iastore, 1) := by decide +kernel
theorem dX9_swap_54 : decode cX9_swap 54 = .ok (.aload_n 0, 1) := by decide +kernel
theorem dX9_swap_55 : decode cX9_swap 55 = .ok (.getfield 25, 3) := by decide +kernel
theorem dX9_swap_58 : decode cX9_swap 58 = .ok (.iload_n 2, 1) := by decide +kernel
theorem dX9_swap_59 : decode cX9_swap 59 = .ok (.iload_n 3, 1) := by decide +kernel
theorem dX9_swap_60 : decode cX9_swap 60 = .ok (.iastore, 1) := by decide +kernel
theorem dX9_swap_61 : decode cX9_swap 61 = .ok (.aload_n 0, 1) := by decide +kernel
theorem dX9_swap_62 : decode cX9_swap 62 = .ok (.getfield 25, 3) := by decide +kernel
theorem dX9_swap_65 : decode cX9_swap 65 = .ok (.iload_n 1, 1) := by decide +kernel
theorem dX9_swap_66 : decode cX9_swap 66 = .ok (.iaload, 1) := by decide +kernel
theorem dX9_swap_67 : decode cX9_swap 67 = .ok (.ireturn, 1) := by decide +kernel
abbrev kwX9_swap (cI cZ cG : ClassId) (q q_page q_worths q_kinds q_likes q_had q_plots q_row q_plotsThen q_rowThen q_traded q_points q_ringLong q_wishes q_order q_bestOrder q_sights q_ways q_keptKinds q_keptPlots q_keptRow q_keptHad q_keptWishes q_keptSights : Nat) (v_pageMany : Int32) (v_houses : Int32) (v_nights : Int32) (v_squaresRead : Int32) (v_front : Int32) (v_down : Int32) (v_frontThen : Int32) (v_downThen : Int32) (v_ringsMany : Int32) (v_wishesMany : Int32) (v_ordersDone : Int32) (v_seenMany : Int32) (v_seedNow : Int32) (v_keptSquare : Int32) (v_keptFront : Int32) (v_keptDown : Int32) (v_keptNights : Int32) (v_keptWishesMany : Int32) (v_keptSeen : Int32) (v_hash : Int64) (v_plots : (Nat → Int32)) : va_W := [(q, .inr (9, [.ref q_page, .int v_pageMany, .int v_houses, .int v_nights, .int v_squaresRead, .ref q_worths, .ref q_kinds, .ref q_likes, .ref q_had, .ref q_plots, .ref q_row, .int v_front, .int v_down, .ref q_plotsThen, .ref q_rowThen, .int v_frontThen, .int v_downThen, .ref q_traded, .ref q_points, .int v_ringsMany, .ref q_ringLong, .int v_wishesMany, .ref q_wishes, .int v_ordersDone, .ref q_order, .ref q_bestOrder, .int v_seenMany, .ref q_sights, .ref q_ways, .int v_seedNow, .int v_keptSquare, .int v_keptFront, .int v_keptDown, .int v_keptNights, .int v_keptWishesMany, .int v_keptSeen, .ref q_keptKinds, .ref q_keptPlots, .ref q_keptRow, .ref q_keptHad, .ref q_keptWishes, .ref q_keptSights, .long v_hash])), (q_plots, .inl (cI, 6, .inl v_plots))]
noncomputable def fX9_swap (N : Nat) (v_houses : Int32) (a1 : Int32) (a2 : Int32) (v_plots : (Nat → Int32))  : Option (Int32 × (Nat → Int32)) := (fX9_areTwo N v_houses a1 a2).bind (fun x_3 => if x_3 = 0 then (some ((-101 : Int32), v_plots)) else (if a1 < 0 ∨ 6 ≤ (a1).toNatClampNeg then none else (if (v_plots (a1).toNatClampNeg) = (-1 : Int32) then (some ((-103 : Int32), v_plots)) else (if a2 < 0 ∨ 6 ≤ (a2).toNatClampNeg then none else (if (v_plots (a2).toNatClampNeg) = (-1 : Int32) then (some ((-103 : Int32), v_plots)) else (if a1 < 0 ∨ 6 ≤ (a1).toNatClampNeg then none else (if a2 < 0 ∨ 6 ≤ (a2).toNatClampNeg then none else (if a1 < 0 ∨ 6 ≤ (a1).toNatClampNeg then none else (if a2 < 0 ∨ 6 ≤ (a2).toNatClampNeg then none else (if a1 < 0 ∨ 6 ≤ (a1).toNatClampNeg then none else (some (((upd (upd v_plots (a1).toNatClampNeg (v_plots (a2).toNatClampNeg)) (a2).toNatClampNeg (v_plots (a1).toNatClampNeg)) (a1).toNatClampNeg), (upd (upd v_plots (a1).toNatClampNeg (v_plots (a2).toNatClampNeg)) (a2).toNatClampNeg (v_plots (a1).toNatClampNeg))))))))))))))
set_option maxHeartbeats 4000000 in
set_option maxRecDepth 100000 in
theorem wX9_swap {p : Program} {l : Launch} {e : Env} {R : Room} {s : State} {m : MethodId} {args : Array Value} {below : List Frame} {meth : Method} {c : Code} {cells slots : Nat} {Q : State → Prop} {D : va_G} {A : Nat → Prop} {cI cZ cG : ClassId} {q q_page q_worths q_kinds q_likes q_had q_plots q_row q_plotsThen q_rowThen q_traded q_points q_ringLong q_wishes q_order q_bestOrder q_sights q_ways q_keptKinds q_keptPlots q_keptRow q_keptHad q_keptWishes q_keptSights : Nat} {v_pageMany : Int32} {v_houses : Int32} {v_nights : Int32} {v_squaresRead : Int32} {v_front : Int32} {v_down : Int32} {v_frontThen : Int32} {v_downThen : Int32} {v_ringsMany : Int32} {v_wishesMany : Int32} {v_ordersDone : Int32} {v_seenMany : Int32} {v_seedNow : Int32} {v_keptSquare : Int32} {v_keptFront : Int32} {v_keptDown : Int32} {v_keptNights : Int32} {v_keptWishesMany : Int32} {v_keptSeen : Int32} {v_hash : Int64} {v_plots : (Nat → Int32)} {a1 : Int32} {a2 : Int32} {N : Nat} {ρ : Int32 × (Nat → Int32)} (X : CX p s m args c cX9_swap 4 RX9 D (TY cI cZ cG) A) (hrm : RM R 3 68 cells slots) (ret : ∀ (pc : Nat) (H : Heap) (locs : List Loc) (ls : Array Slot), decode cX9_swap pc = .ok (.ireturn, 1) → WD D A (kwX9_swap cI cZ cG q q_page q_worths q_kinds q_likes q_had q_plots q_row q_plotsThen q_rowThen q_traded q_points q_ringLong q_wishes q_order q_bestOrder q_sights q_ways q_keptKinds q_keptPlots q_keptRow q_keptHad q_keptWishes q_keptSights v_pageMany v_houses v_nights v_squaresRead v_front v_down v_frontThen v_downThen v_ringsMany v_wishesMany v_ordersDone v_seenMany v_seedNow v_keptSquare v_keptFront v_keptDown v_keptNights v_keptWishesMany v_keptSeen v_hash (ρ.2)) s.heap H locs → W p l e R s m args below meth c H locs cells slots Q (F0 m pc ls [.int ρ.1])) (h : fX9_swap N v_houses a1 a2 v_plots  = some ρ) (H : Heap) (locs : List Loc) (ls : Array Slot) (hw : WD D A (kwX9_swap cI cZ cG q q_page q_worths q_kinds q_likes q_had q_plots q_row q_plotsThen q_rowThen q_traded q_points q_ringLong q_wishes q_order q_bestOrder q_sights q_ways q_keptKinds q_keptPlots q_keptRow q_keptHad q_keptWishes q_keptSights v_pageMany v_houses v_nights v_squaresRead v_front v_down v_frontThen v_downThen v_ringsMany v_wishesMany v_ordersDone v_seenMany v_seedNow v_keptSquare v_keptFront v_keptDown v_keptNights v_keptWishesMany v_keptSeen v_hash v_plots) s.heap H locs) (hl : lv_has ls 4 [(0, .ref q), (1, .int a1), (2, .int a2)]) : W p l e R s m args below meth c H locs cells slots Q (F0 m 0 ls []) := by
  have hx := X.1.1
  have hb := X.1.2.1
  unfold fX9_swap at h
  refine lv_aload_n hx hb dX9_swap_0 rfl (lv_at hl 0 rfl) ?_
  refine lv_iload_n hx hb dX9_swap_1 rfl (lv_at hl 1 rfl) ?_
  refine lv_iload_n hx hb dX9_swap_2 rfl (lv_at hl 2 rfl) ?_
  obtain ⟨x_3, hc_3, h⟩ := obd h
  refine ksV_i (ws2 := (kwX9_swap cI cZ cG q q_page q_worths q_kinds q_likes q_had q_plots q_row q_plotsThen q_rowThen q_traded q_points q_ringLong q_wishes q_order q_bestOrder q_sights q_ways q_keptKinds q_keptPlots q_keptRow q_keptHad q_keptWishes q_keptSights v_pageMany v_houses v_nights v_squaresRead v_front v_down v_frontThen v_downThen v_ringsMany v_wishesMany v_ordersDone v_seenMany v_seedNow v_keptSquare v_keptFront v_keptDown v_keptNights v_keptWishesMany v_keptSeen v_hash v_plots)) (nW := 2) (ci := 9) (As := [.int a1, .int a2]) (rest := []) X hw rfl rfl rfl (cX9_areTwo_ct l D cI cZ cG q q_page q_worths q_kinds q_likes q_had q_plots q_row q_plotsThen q_rowThen q_traded q_points q_ringLong q_wishes q_order q_bestOrder q_sights q_ways q_keptKinds q_keptPlots q_keptRow q_keptHad q_keptWishes q_keptSights v_pageMany v_houses v_nights v_squaresRead v_front v_down v_frontThen v_downThen v_ringsMany v_wishesMany v_ordersDone v_seenMany v_seedNow v_keptSquare v_keptFront v_keptDown v_keptNights v_keptWishesMany v_keptSeen v_hash a1 a2 N x_3 hc_3 H.size) mX9_areTwo tw_698 (hrm.call (by decide) (by decide)) [0] rfl (by decide) rfl (by decide) rfl ⟨rfl, trivial⟩ rfl hl.1 rfl (Nat.le_of_ble_eq_true rfl) dX9_swap_3 ⟨hrm.2.2.1, hrm.2.2.2⟩ (fun H locs hw => ?_)
  refine lv_if_ne (tgt := 12) hx hb dX9_swap_6 (by decide) (fun c_6 => ?_) (fun c_6 => ?_)
  · have h := iff_ c_6 h
    refine lv_aload_n hx hb dX9_swap_12 rfl (lv_at hl 0 rfl) ?_
    refine kget (ci := 9) (v := .ref q_plots) X hw iX9 0 rfl rfl 9 (by decide) tw_635 rfl dX9_swap_13 ?_
    refine lv_iload_n hx hb dX9_swap_16 rfl (lv_at hl 1 rfl) ?_
    obtain ⟨g_17, h⟩ := gd h
    refine kiald X hw 1 rfl rfl g_17 dX9_swap_17 ?_
    refine lv_iconst (v := (-1 : Int32)) hx hb dX9_swap_18 (by decide) ?_
    refine lv_icmp_eq (tgt := 32) hx hb dX9_swap_19 (by decide) (fun c_19 => ?_) (fun c_19 => ?_)
    · have h := ift c_19 h
      refine lv_bipush (v := (-103 : Int32)) hx hb dX9_swap_32 (by decide) ?_
      obtain rfl := Option.some.inj h
      exact ret _ _ _ _ dX9_swap_34 hw
    · have h := iff_ c_19 h
      refine lv_aload_n hx hb dX9_swap_22 rfl (lv_at hl 0 rfl) ?_
      refine kget (ci := 9) (v := .ref q_plots) X hw iX9 0 rfl rfl 9 (by decide) tw_635 rfl dX9_swap_23 ?_
      refine lv_iload_n hx hb dX9_swap_26 rfl (lv_at hl 2 rfl) ?_
      obtain ⟨g_27, h⟩ := gd h
      refine kiald X hw 1 rfl rfl g_27 dX9_swap_27 ?_
      refine lv_iconst (v := (-1 : Int32)) hx hb dX9_swap_28 (by decide) ?_
      refine lv_icmp_ne (tgt := 35) hx hb dX9_swap_29 (by decide) (fun c_29 => ?_) (fun c_29 => ?_)
      · have h := iff_ c_29 h
        refine lv_aload_n hx hb dX9_swap_35 rfl (lv_at hl 0 rfl) ?_
        refine kget (ci := 9) (v := .ref q_plots) X hw iX9 0 rfl rfl 9 (by decide) tw_635 rfl dX9_swap_36 ?_
        refine lv_iload_n hx hb dX9_swap_39 rfl (lv_at hl 1 rfl) ?_
        obtain ⟨g_40, h⟩ := gd h
        refine kiald X hw 1 rfl rfl g_40 dX9_swap_40 ?_
        refine lv_istore_n (lv' := [(3, .int (v_plots (a1).toNatClampNeg)), (0, .ref q), (1, .int a1), (2, .int a2)]) hx hb dX9_swap_41 rfl hl (by decide) rfl (fun ls hl => ?_)
        refine lv_aload_n hx hb dX9_swap_42 rfl (lv_at hl 1 rfl) ?_
        refine kget (ci := 9) (v := .ref q_plots) X hw iX9 0 rfl rfl 9 (by decide) tw_635 rfl dX9_swap_43 ?_
        refine lv_iload_n hx hb dX9_swap_46 rfl (lv_at hl 2 rfl) ?_
        refine lv_aload_n hx hb dX9_swap_47 rfl (lv_at hl 1 rfl) ?_
        refine kget (ci := 9) (v := .ref q_plots) X hw iX9 0 rfl rfl 9 (by decide) tw_635 rfl dX9_swap_48 ?_
        refine lv_iload_n hx hb dX9_swap_51 rfl (lv_at hl 3 rfl) ?_
        obtain ⟨g_52, h⟩ := gd h
        refine kiald X hw 1 rfl rfl g_52 dX9_swap_52 ?_
        obtain ⟨g_53, h⟩ := gd h
        refine kiast X hw 1 rfl rfl g_53 dX9_swap_53 (fun H locs hw => ?_)
        have hw : WD D A (kwX9_swap cI cZ cG q q_page q_worths q_kinds q_likes q_had q_plots q_row q_plotsThen q_rowThen q_traded q_points q_ringLong q_wishes q_order q_bestOrder q_sights q_ways q_keptKinds q_keptPlots q_keptRow q_keptHad q_keptWishes q_keptSights v_pageMany v_houses v_nights v_squaresRead v_front v_down v_frontThen v_downThen v_ringsMany v_wishesMany v_ordersDone v_seenMany v_seedNow v_keptSquare v_keptFront v_keptDown v_keptNights v_keptWishesMany v_keptSeen v_hash (upd v_plots (a1).toNatClampNeg (v_plots (a2).toNatClampNeg))) s.heap H locs := hw
        refine lv_aload_n hx hb dX9_swap_54 rfl (lv_at hl 1 rfl) ?_
        refine kget (ci := 9) (v := .ref q_plots) X hw iX9 0 rfl rfl 9 (by decide) tw_635 rfl dX9_swap_55 ?_
        refine lv_iload_n hx hb dX9_swap_58 rfl (lv_at hl 3 rfl) ?_
        refine lv_iload_n hx hb dX9_swap_59 rfl (lv_at hl 0 rfl) ?_
        obtain ⟨g_60, h⟩ := gd h
        refine kiast X hw 1 rfl rfl g_60 dX9_swap_60 (fun H locs hw => ?_)
        have hw : WD D A (kwX9_swap cI cZ cG q q_page q_worths q_kinds q_likes q_had q_plots q_row q_plotsThen q_rowThen q_traded q_points q_ringLong q_wishes q_order q_bestOrder q_sights q_ways q_keptKinds q_keptPlots q_keptRow q_keptHad q_keptWishes q_keptSights v_pageMany v_houses v_nights v_squaresRead v_front v_down v_frontThen v_downThen v_ringsMany v_wishesMany v_ordersDone v_seenMany v_seedNow v_keptSquare v_keptFront v_keptDown v_keptNights v_keptWishesMany v_keptSeen v_hash (upd (upd v_plots (a1).toNatClampNeg (v_plots (a2).toNatClampNeg)) (a2).toNatClampNeg (v_plots (a1).toNatClampNeg))) s.heap H locs := hw
        refine lv_aload_n hx hb dX9_swap_61 rfl (lv_at hl 1 rfl) ?_
        refine kget (ci := 9) (v := .ref q_plots) X hw iX9 0 rfl rfl 9 (by decide) tw_635 rfl dX9_swap_62 ?_
        refine lv_iload_n hx hb dX9_swap_65 rfl (lv_at hl 2 rfl) ?_
        obtain ⟨g_66, h⟩ := gd h
        refine kiald X hw 1 rfl rfl g_66 dX9_swap_66 ?_
        obtain rfl := Option.some.inj h
        exact ret _ _ _ _ dX9_swap_67 hw
      · have h := ift c_29 h
        refine lv_bipush (v := (-103 : Int32)) hx hb dX9_swap_32 (by decide) ?_
        obtain rfl := Option.some.inj h
        exact ret _ _ _ _ dX9_swap_34 hw
  · have h := ift c_6 h
    refine lv_bipush (v := (-101 : Int32)) hx hb dX9_swap_9 (by decide) ?_
    obtain rfl := Option.some.inj h
    exact ret _ _ _ _ dX9_swap_11 hw
set_option maxHeartbeats 4000000 in
set_option maxRecDepth 100000 in
theorem cX9_swap_ct (l : Launch) (D : va_G) (cI cZ cG : ClassId) (q q_page q_worths q_kinds q_likes q_had q_plots q_row q_plotsThen q_rowThen q_traded q_points q_ringLong q_wishes q_order q_bestOrder q_sights q_ways q_keptKinds q_keptPlots q_keptRow q_keptHad q_keptWishes q_keptSights : Nat)  (v_pageMany : Int32) (v_houses : Int32) (v_nights : Int32) (v_squaresRead : Int32) (v_front : Int32) (v_down : Int32) (v_frontThen : Int32) (v_downThen : Int32) (v_ringsMany : Int32) (v_wishesMany : Int32) (v_ordersDone : Int32) (v_seenMany : Int32) (v_seedNow : Int32) (v_keptSquare : Int32) (v_keptFront : Int32) (v_keptDown : Int32) (v_keptNights : Int32) (v_keptWishesMany : Int32) (v_keptSeen : Int32) (v_hash : Int64) (v_plots : (Nat → Int32)) (a1 : Int32) (a2 : Int32) (N : Nat) (ρ : Int32 × (Nat → Int32)) (h : fX9_swap N v_houses a1 a2 v_plots  = some ρ) (sz : Nat) : Met l yX9_swap (wz yX9_swap cX9_swap 4 (some .int)) (cRm 3 68) (cPre D (TY cI cZ cG) [.ref q, .int a1, .int a2] (kwX9_swap cI cZ cG q q_page q_worths q_kinds q_likes q_had q_plots q_row q_plotsThen q_rowThen q_traded q_points q_ringLong q_wishes q_order q_bestOrder q_sights q_ways q_keptKinds q_keptPlots q_keptRow q_keptHad q_keptWishes q_keptSights v_pageMany v_houses v_nights v_squaresRead v_front v_down v_frontThen v_downThen v_ringsMany v_wishesMany v_ordersDone v_seenMany v_seedNow v_keptSquare v_keptFront v_keptDown v_keptNights v_keptWishesMany v_keptSeen v_hash v_plots) sz) (cQi D (ρ.1) (kwX9_swap cI cZ cG q q_page q_worths q_kinds q_likes q_had q_plots q_row q_plotsThen q_rowThen q_traded q_points q_ringLong q_wishes q_order q_bestOrder q_sights q_ways q_keptKinds q_keptPlots q_keptRow q_keptHad q_keptWishes q_keptSights v_pageMany v_houses v_nights v_squaresRead v_front v_down v_frontThen v_downThen v_ringsMany v_wishesMany v_ordersDone v_seenMany v_seedNow v_keptSquare v_keptFront v_keptDown v_keptNights v_keptWishesMany v_keptSeen v_hash v_plots) (kwX9_swap cI cZ cG q q_page q_worths q_kinds q_likes q_had q_plots q_row q_plotsThen q_rowThen q_traded q_points q_ringLong q_wishes q_order q_bestOrder q_sights q_ways q_keptKinds q_keptPlots q_keptRow q_keptHad q_keptWishes q_keptSights v_pageMany v_houses v_nights v_squaresRead v_front v_down v_frontThen v_downThen v_ringsMany v_wishesMany v_ordersDone v_seenMany v_seedNow v_keptSquare v_keptFront v_keptDown v_keptNights v_keptWishesMany v_keptSeen v_hash (ρ.2)) sz) 0 0 (va_A (kwX9_swap cI cZ cG q q_page q_worths q_kinds q_likes q_had q_plots q_row q_plotsThen q_rowThen q_traded q_points q_ringLong q_wishes q_order q_bestOrder q_sights q_ways q_keptKinds q_keptPlots q_keptRow q_keptHad q_keptWishes q_keptSights v_pageMany v_houses v_nights v_squaresRead v_front v_down v_frontThen v_downThen v_ringsMany v_wishesMany v_ordersDone v_seenMany v_seedNow v_keptSquare v_keptFront v_keptDown v_keptNights v_keptWishesMany v_keptSeen v_hash v_plots) sz) :=
  mk_i (by decide) (Nat.le_of_ble_eq_true rfl) (fun X hrm ret hw hl => wX9_swap X hrm ret h _ _ _ hw hl)
theorem dX9_placeOf_0 : decode cX9_placeOf 0 = .ok (.iconst 0, 1) := by decide +kernel
theorem dX9_placeOf_1 : decode cX9_placeOf 1 = .ok (.istore_n 2, 1) := by decide +kernel
theorem dX9_placeOf_2 : decode cX9_placeOf 2 = .ok (.aload_n 0, 1) := by decide +kernel
theorem dX9_placeOf_3 : decode cX9_placeOf 3 = .ok (.getfield 28, 3) := by decide +kernel
theorem dX9_placeOf_6 : decode cX9_placeOf 6 = .ok (.iload_n 2, 1) := by decide +kernel
theorem dX9_placeOf_7 : decode cX9_placeOf 7 = .ok (.iaload, 1) := by decide +kernel
theorem dX9_placeOf_8 : decode cX9_placeOf 8 = .ok (.iload_n 1, 1) := by decide +kernel
theorem dX9_placeOf_9 : decode cX9_placeOf 9 = .ok (.if_icmp .eq 9, 3) := by decide +kernel
theorem dX9_placeOf_12 : decode cX9_placeOf 12 = .ok (.iinc 2 1, 3) := by decide +kernel
theorem dX9_placeOf_15 : decode cX9_placeOf 15 = .ok (.goto (-13), 3) := by decide +kernel
theorem dX9_placeOf_18 : decode cX9_placeOf 18 = .ok (.iload_n 2, 1) := by decide +kernel
theorem dX9_placeOf_19 : decode cX9_placeOf 19 = .ok (.ireturn, 1) := by decide +kernel
abbrev kwX9_placeOf (cI cZ cG : ClassId) (q q_page q_worths q_kinds q_likes q_had q_plots q_row q_plotsThen q_rowThen q_traded q_points q_ringLong q_wishes q_order q_bestOrder q_sights q_ways q_keptKinds q_keptPlots q_keptRow q_keptHad q_keptWishes q_keptSights : Nat) (v_pageMany : Int32) (v_houses : Int32) (v_nights : Int32) (v_squaresRead : Int32) (v_front : Int32) (v_down : Int32) (v_frontThen : Int32) (v_downThen : Int32) (v_ringsMany : Int32) (v_wishesMany : Int32) (v_ordersDone : Int32) (v_seenMany : Int32) (v_seedNow : Int32) (v_keptSquare : Int32) (v_keptFront : Int32) (v_keptDown : Int32) (v_keptNights : Int32) (v_keptWishesMany : Int32) (v_keptSeen : Int32) (v_hash : Int64) (v_row : (Nat → Int32)) : va_W := [(q, .inr (9, [.ref q_page, .int v_pageMany, .int v_houses, .int v_nights, .int v_squaresRead, .ref q_worths, .ref q_kinds, .ref q_likes, .ref q_had, .ref q_plots, .ref q_row, .int v_front, .int v_down, .ref q_plotsThen, .ref q_rowThen, .int v_frontThen, .int v_downThen, .ref q_traded, .ref q_points, .int v_ringsMany, .ref q_ringLong, .int v_wishesMany, .ref q_wishes, .int v_ordersDone, .ref q_order, .ref q_bestOrder, .int v_seenMany, .ref q_sights, .ref q_ways, .int v_seedNow, .int v_keptSquare, .int v_keptFront, .int v_keptDown, .int v_keptNights, .int v_keptWishesMany, .int v_keptSeen, .ref q_keptKinds, .ref q_keptPlots, .ref q_keptRow, .ref q_keptHad, .ref q_keptWishes, .ref q_keptSights, .long v_hash])), (q_row, .inl (cI, 6, .inl v_row))]
noncomputable def fX9_placeOf_2 (N : Nat) (v_row : (Nat → Int32)) (a1 : Int32)  (K_2 : Int32 → Option (Int32)) (l2 : Int32) : Option (Int32) := if l2 < 0 ∨ 6 ≤ (l2).toNatClampNeg then none else (if (v_row (l2).toNatClampNeg) = a1 then (some l2) else (K_2 (l2 + (1 : Int32))))
noncomputable def fX9_placeOf (N : Nat) (v_row : (Nat → Int32)) (a1 : Int32)   : Option (Int32) := lfix (fun (K : Int32 → Option (Int32)) (a : Int32) => fX9_placeOf_2 N v_row a1 (fun (l2 : Int32) => K l2) a) N (0 : Int32)
set_option maxHeartbeats 4000000 in
set_option maxRecDepth 100000 in
theorem wX9_placeOf_2 {p : Program} {l : Launch} {e : Env} {R : Room} {s : State} {m : MethodId} {args : Array Value} {below : List Frame} {meth : Method} {c : Code} {cells slots : Nat} {Q : State → Prop} {D : va_G} {A : Nat → Prop} {cI cZ cG : ClassId} {q q_page q_worths q_kinds q_likes q_had q_plots q_row q_plotsThen q_rowThen q_traded q_points q_ringLong q_wishes q_order q_bestOrder q_sights q_ways q_keptKinds q_keptPlots q_keptRow q_keptHad q_keptWishes q_keptSights : Nat} {v_pageMany : Int32} {v_houses : Int32} {v_nights : Int32} {v_squaresRead : Int32} {v_front : Int32} {v_down : Int32} {v_frontThen : Int32} {v_downThen : Int32} {v_ringsMany : Int32} {v_wishesMany : Int32} {v_ordersDone : Int32} {v_seenMany : Int32} {v_seedNow : Int32} {v_keptSquare : Int32} {v_keptFront : Int32} {v_keptDown : Int32} {v_keptNights : Int32} {v_keptWishesMany : Int32} {v_keptSeen : Int32} {v_hash : Int64} {v_row : (Nat → Int32)} {a1 : Int32} {N : Nat} {ρ : Int32} (X : CX p s m args c cX9_placeOf 3 RX9 D (TY cI cZ cG) A) (hrm : RM R 0 0 cells slots) (ret : ∀ (pc : Nat) (H : Heap) (locs : List Loc) (ls : Array Slot), decode cX9_placeOf pc = .ok (.ireturn, 1) → WD D A (kwX9_placeOf cI cZ cG q q_page q_worths q_kinds q_likes q_had q_plots q_row q_plotsThen q_rowThen q_traded q_points q_ringLong q_wishes q_order q_bestOrder q_sights q_ways q_keptKinds q_keptPlots q_keptRow q_keptHad q_keptWishes q_keptSights v_pageMany v_houses v_nights v_squaresRead v_front v_down v_frontThen v_downThen v_ringsMany v_wishesMany v_ordersDone v_seenMany v_seedNow v_keptSquare v_keptFront v_keptDown v_keptNights v_keptWishesMany v_keptSeen v_hash v_row) s.heap H locs → W p l e R s m args below meth c H locs cells slots Q (F0 m pc ls [.int ρ]))  : ∀ (n : Nat) (a : Int32), lfix (fun (K : Int32 → Option (Int32)) (a : Int32) => fX9_placeOf_2 N v_row a1 (fun (l2 : Int32) => K l2) a) n a = some ρ → (fun (l2 : Int32) => ∀ (H : Heap) (locs : List Loc) (ls : Array Slot), WD D A (kwX9_placeOf cI cZ cG q q_page q_worths q_kinds q_likes q_had q_plots q_row q_plotsThen q_rowThen q_traded q_points q_ringLong q_wishes q_order q_bestOrder q_sights q_ways q_keptKinds q_keptPlots q_keptRow q_keptHad q_keptWishes q_keptSights v_pageMany v_houses v_nights v_squaresRead v_front v_down v_frontThen v_downThen v_ringsMany v_wishesMany v_ordersDone v_seenMany v_seedNow v_keptSquare v_keptFront v_keptDown v_keptNights v_keptWishesMany v_keptSeen v_hash v_row) s.heap H locs → lv_has ls 3 [(0, .ref q), (1, .int a1), (2, .int l2)] → W p l e R s m args below meth c H locs cells slots Q (F0 m 2 ls [])) (a) := by
  have hx := X.1.1
  have hb := X.1.2.1
  refine lfix_W (fun K hK a h => ?_)
  obtain ⟨l2, rfl⟩ : ∃ z, z = a := ⟨_, rfl⟩
  intro H locs ls hw hl
  have h : fX9_placeOf_2 N v_row a1 (fun (l2 : Int32) => K l2) l2 = some ρ := h
  have hK_2 : ∀ (l2 : Int32), (fun (l2 : Int32) => K l2) l2 = some ρ → ∀ (H : Heap) (locs : List Loc) (ls : Array Slot), WD D A (kwX9_placeOf cI cZ cG q q_page q_worths q_kinds q_likes q_had q_plots q_row q_plotsThen q_rowThen q_traded q_points q_ringLong q_wishes q_order q_bestOrder q_sights q_ways q_keptKinds q_keptPlots q_keptRow q_keptHad q_keptWishes q_keptSights v_pageMany v_houses v_nights v_squaresRead v_front v_down v_frontThen v_downThen v_ringsMany v_wishesMany v_ordersDone v_seenMany v_seedNow v_keptSquare v_keptFront v_keptDown v_keptNights v_keptWishesMany v_keptSeen v_hash v_row) s.heap H locs → lv_has ls 3 [(0, .ref q), (1, .int a1), (2, .int l2)] → W p l e R s m args below meth c H locs cells slots Q (F0 m 2 ls []) := fun l2 h => hK l2 h
  generalize (fun (l2 : Int32) => K l2) = K_2 at h hK_2
  have hw : WD D A (kwX9_placeOf cI cZ cG q q_page q_worths q_kinds q_likes q_had q_plots q_row q_plotsThen q_rowThen q_traded q_points q_ringLong q_wishes q_order q_bestOrder q_sights q_ways q_keptKinds q_keptPlots q_keptRow q_keptHad q_keptWishes q_keptSights v_pageMany v_houses v_nights v_squaresRead v_front v_down v_frontThen v_downThen v_ringsMany v_wishesMany v_ordersDone v_seenMany v_seedNow v_keptSquare v_keptFront v_keptDown v_keptNights v_keptWishesMany v_keptSeen v_hash v_row) s.heap H locs := hw
  have hl : lv_has ls 3 [(0, .ref q), (1, .int a1), (2, .int l2)] := hl
  unfold fX9_placeOf_2 at h
  refine lv_aload_n hx hb dX9_placeOf_2 rfl (lv_at hl 0 rfl) ?_
  refine kget (ci := 9) (v := .ref q_row) X hw iX9 0 rfl rfl 10 (by decide) tw_636 rfl dX9_placeOf_3 ?_
  refine lv_iload_n hx hb dX9_placeOf_6 rfl (lv_at hl 2 rfl) ?_
  obtain ⟨g_7, h⟩ := gd h
  refine kiald X hw 1 rfl rfl g_7 dX9_placeOf_7 ?_
  refine lv_iload_n hx hb dX9_placeOf_8 rfl (lv_at hl 1 rfl) ?_
  refine lv_icmp_eq (tgt := 18) hx hb dX9_placeOf_9 (by decide) (fun c_9 => ?_) (fun c_9 => ?_)
  · have h := ift c_9 h
    refine lv_iload_n hx hb dX9_placeOf_18 rfl (lv_at hl 2 rfl) ?_
    obtain rfl := Option.some.inj h
    exact ret _ _ _ _ dX9_placeOf_19 hw
  · have h := iff_ c_9 h
    refine lv_iinc (v := (l2 + (1 : Int32))) (lv' := [(2, .int (l2 + (1 : Int32))), (0, .ref q), (1, .int a1)]) hx hb dX9_placeOf_12 hl (k := 2) rfl (congrArg (l2 + ·) (by decide)) (by decide) rfl (fun ls hl => ?_)
    refine lv_goto (tgt := 2) hx hb dX9_placeOf_15 (by decide) ?_
    exact hK_2 _ h _ _ _ hw (lv_sub hl [1, 2, 0] rfl)
set_option maxHeartbeats 4000000 in
set_option maxRecDepth 100000 in
theorem wX9_placeOf {p : Program} {l : Launch} {e : Env} {R : Room} {s : State} {m : MethodId} {args : Array Value} {below : List Frame} {meth : Method} {c : Code} {cells slots : Nat} {Q : State → Prop} {D : va_G} {A : Nat → Prop} {cI cZ cG : ClassId} {q q_page q_worths q_kinds q_likes q_had q_plots q_row q_plotsThen q_rowThen q_traded q_points q_ringLong q_wishes q_order q_bestOrder q_sights q_ways q_keptKinds q_keptPlots q_keptRow q_keptHad q_keptWishes q_keptSights : Nat} {v_pageMany : Int32} {v_houses : Int32} {v_nights : Int32} {v_squaresRead : Int32} {v_front : Int32} {v_down : Int32} {v_frontThen : Int32} {v_downThen : Int32} {v_ringsMany : Int32} {v_wishesMany : Int32} {v_ordersDone : Int32} {v_seenMany : Int32} {v_seedNow : Int32} {v_keptSquare : Int32} {v_keptFront : Int32} {v_keptDown : Int32} {v_keptNights : Int32} {v_keptWishesMany : Int32} {v_keptSeen : Int32} {v_hash : Int64} {v_row : (Nat → Int32)} {a1 : Int32} {N : Nat} {ρ : Int32} (X : CX p s m args c cX9_placeOf 3 RX9 D (TY cI cZ cG) A) (hrm : RM R 0 0 cells slots) (ret : ∀ (pc : Nat) (H : Heap) (locs : List Loc) (ls : Array Slot), decode cX9_placeOf pc = .ok (.ireturn, 1) → WD D A (kwX9_placeOf cI cZ cG q q_page q_worths q_kinds q_likes q_had q_plots q_row q_plotsThen q_rowThen q_traded q_points q_ringLong q_wishes q_order q_bestOrder q_sights q_ways q_keptKinds q_keptPlots q_keptRow q_keptHad q_keptWishes q_keptSights v_pageMany v_houses v_nights v_squaresRead v_front v_down v_frontThen v_downThen v_ringsMany v_wishesMany v_ordersDone v_seenMany v_seedNow v_keptSquare v_keptFront v_keptDown v_keptNights v_keptWishesMany v_keptSeen v_hash v_row) s.heap H locs → W p l e R s m args below meth c H locs cells slots Q (F0 m pc ls [.int ρ])) (h : fX9_placeOf N v_row a1   = some ρ) (H : Heap) (locs : List Loc) (ls : Array Slot) (hw : WD D A (kwX9_placeOf cI cZ cG q q_page q_worths q_kinds q_likes q_had q_plots q_row q_plotsThen q_rowThen q_traded q_points q_ringLong q_wishes q_order q_bestOrder q_sights q_ways q_keptKinds q_keptPlots q_keptRow q_keptHad q_keptWishes q_keptSights v_pageMany v_houses v_nights v_squaresRead v_front v_down v_frontThen v_downThen v_ringsMany v_wishesMany v_ordersDone v_seenMany v_seedNow v_keptSquare v_keptFront v_keptDown v_keptNights v_keptWishesMany v_keptSeen v_hash v_row) s.heap H locs) (hl : lv_has ls 3 [(0, .ref q), (1, .int a1)]) : W p l e R s m args below meth c H locs cells slots Q (F0 m 0 ls []) := by
  have hx := X.1.1
  have hb := X.1.2.1
  unfold fX9_placeOf at h
  refine lv_iconst (v := (0 : Int32)) hx hb dX9_placeOf_0 (by decide) ?_
  refine lv_istore_n (lv' := [(2, .int (0 : Int32)), (0, .ref q), (1, .int a1)]) hx hb dX9_placeOf_1 rfl hl (by decide) rfl (fun ls hl => ?_)
  exact wX9_placeOf_2 X hrm ret  _ _ h _ _ _ hw (lv_sub hl [1, 2, 0] rfl)
set_option maxHeartbeats 4000000 in
set_option maxRecDepth 100000 in
theorem cX9_placeOf_ct (l : Launch) (D : va_G) (cI cZ cG : ClassId) (q q_page q_worths q_kinds q_likes q_had q_plots q_row q_plotsThen q_rowThen q_traded q_points q_ringLong q_wishes q_order q_bestOrder q_sights q_ways q_keptKinds q_keptPlots q_keptRow q_keptHad q_keptWishes q_keptSights : Nat)  (v_pageMany : Int32) (v_houses : Int32) (v_nights : Int32) (v_squaresRead : Int32) (v_front : Int32) (v_down : Int32) (v_frontThen : Int32) (v_downThen : Int32) (v_ringsMany : Int32) (v_wishesMany : Int32) (v_ordersDone : Int32) (v_seenMany : Int32) (v_seedNow : Int32) (v_keptSquare : Int32) (v_keptFront : Int32) (v_keptDown : Int32) (v_keptNights : Int32) (v_keptWishesMany : Int32) (v_keptSeen : Int32) (v_hash : Int64) (v_row : (Nat → Int32)) (a1 : Int32) (N : Nat) (ρ : Int32) (h : fX9_placeOf N v_row a1   = some ρ) (sz : Nat) : Met l yX9_placeOf (wz yX9_placeOf cX9_placeOf 3 (some .int)) (cRm 0 0) (cPre D (TY cI cZ cG) [.ref q, .int a1] (kwX9_placeOf cI cZ cG q q_page q_worths q_kinds q_likes q_had q_plots q_row q_plotsThen q_rowThen q_traded q_points q_ringLong q_wishes q_order q_bestOrder q_sights q_ways q_keptKinds q_keptPlots q_keptRow q_keptHad q_keptWishes q_keptSights v_pageMany v_houses v_nights v_squaresRead v_front v_down v_frontThen v_downThen v_ringsMany v_wishesMany v_ordersDone v_seenMany v_seedNow v_keptSquare v_keptFront v_keptDown v_keptNights v_keptWishesMany v_keptSeen v_hash v_row) sz) (cQi D (ρ) (kwX9_placeOf cI cZ cG q q_page q_worths q_kinds q_likes q_had q_plots q_row q_plotsThen q_rowThen q_traded q_points q_ringLong q_wishes q_order q_bestOrder q_sights q_ways q_keptKinds q_keptPlots q_keptRow q_keptHad q_keptWishes q_keptSights v_pageMany v_houses v_nights v_squaresRead v_front v_down v_frontThen v_downThen v_ringsMany v_wishesMany v_ordersDone v_seenMany v_seedNow v_keptSquare v_keptFront v_keptDown v_keptNights v_keptWishesMany v_keptSeen v_hash v_row) (kwX9_placeOf cI cZ cG q q_page q_worths q_kinds q_likes q_had q_plots q_row q_plotsThen q_rowThen q_traded q_points q_ringLong q_wishes q_order q_bestOrder q_sights q_ways q_keptKinds q_keptPlots q_keptRow q_keptHad q_keptWishes q_keptSights v_pageMany v_houses v_nights v_squaresRead v_front v_down v_frontThen v_downThen v_ringsMany v_wishesMany v_ordersDone v_seenMany v_seedNow v_keptSquare v_keptFront v_keptDown v_keptNights v_keptWishesMany v_keptSeen v_hash v_row) sz) 0 0 (va_A (kwX9_placeOf cI cZ cG q q_page q_worths q_kinds q_likes q_had q_plots q_row q_plotsThen q_rowThen q_traded q_points q_ringLong q_wishes q_order q_bestOrder q_sights q_ways q_keptKinds q_keptPlots q_keptRow q_keptHad q_keptWishes q_keptSights v_pageMany v_houses v_nights v_squaresRead v_front v_down v_frontThen v_downThen v_ringsMany v_wishesMany v_ordersDone v_seenMany v_seedNow v_keptSquare v_keptFront v_keptDown v_keptNights v_keptWishesMany v_keptSeen v_hash v_row) sz) :=
  mk_i (by decide) (Nat.le_of_ble_eq_true rfl) (fun X hrm ret hw hl => wX9_placeOf X hrm ret h _ _ _ hw hl)
theorem dX9_isLeft_0 : decode cX9_isLeft 0 = .ok (.aload_n 0, 1) := by decide +kernel
theorem dX9_isLeft_1 : decode cX9_isLeft 1 = .ok (.getfield 25, 3) := by decide +kernel
theorem dX9_isLeft_4 : decode cX9_isLeft 4 = .ok (.iload_n 1, 1) := by decide +kernel
theorem dX9_isLeft_5 : decode cX9_isLeft 5 = .ok (.iaload, 1) := by decide +kernel
theorem dX9_isLeft_6 : decode cX9_isLeft 6 = .ok (.iconst (-1), 1) := by decide +kernel
theorem dX9_isLeft_7 : decode cX9_isLeft 7 = .ok (.if_icmp .eq 17, 3) := by decide +kernel
theorem dX9_isLeft_10 : decode cX9_isLeft 10 = .ok (.aload_n 0, 1) := by decide +kernel
theorem dX9_isLeft_11 : decode cX9_isLeft 11 = .ok (.getfield 37, 3) := by decide +kernel
theorem dX9_isLeft_14 : decode cX9_isLeft 14 = .ok (.iload_n 1, 1) := by decide +kernel
theorem dX9_isLeft_15 : decode cX9_isLeft 15 = .ok (.iaload, 1) := by decide +kernel
theorem dX9_isLeft_16 : decode cX9_isLeft 16 = .ok (.iconst (-1), 1) := by decide +kernel
theorem dX9_isLeft_17 : decode cX9_isLeft 17 = .ok (.if_icmp .ne 7, 3) := by decide +kernel
theorem dX9_isLeft_20 : decode cX9_isLeft 20 = .ok (.iconst 1, 1) := by decide +kernel
theorem dX9_isLeft_21 : decode cX9_isLeft 21 = .ok (.goto 4, 3) := by decide +kernel
theorem dX9_isLeft_24 : decode cX9_isLeft 24 = .ok (.iconst 0, 1) := by decide +kernel
theorem dX9_isLeft_25 : decode cX9_isLeft 25 = .ok (.ireturn, 1) := by decide +kernel
abbrev kwX9_isLeft (cI cZ cG : ClassId) (q q_page q_worths q_kinds q_likes q_had q_plots q_row q_plotsThen q_rowThen q_traded q_points q_ringLong q_wishes q_order q_bestOrder q_sights q_ways q_keptKinds q_keptPlots q_keptRow q_keptHad q_keptWishes q_keptSights : Nat) (v_pageMany : Int32) (v_houses : Int32) (v_nights : Int32) (v_squaresRead : Int32) (v_front : Int32) (v_down : Int32) (v_frontThen : Int32) (v_downThen : Int32) (v_ringsMany : Int32) (v_wishesMany : Int32) (v_ordersDone : Int32) (v_seenMany : Int32) (v_seedNow : Int32) (v_keptSquare : Int32) (v_keptFront : Int32) (v_keptDown : Int32) (v_keptNights : Int32) (v_keptWishesMany : Int32) (v_keptSeen : Int32) (v_hash : Int64) (v_plots : (Nat → Int32)) (v_traded : (Nat → Int32)) : va_W := [(q, .inr (9, [.ref q_page, .int v_pageMany, .int v_houses, .int v_nights, .int v_squaresRead, .ref q_worths, .ref q_kinds, .ref q_likes, .ref q_had, .ref q_plots, .ref q_row, .int v_front, .int v_down, .ref q_plotsThen, .ref q_rowThen, .int v_frontThen, .int v_downThen, .ref q_traded, .ref q_points, .int v_ringsMany, .ref q_ringLong, .int v_wishesMany, .ref q_wishes, .int v_ordersDone, .ref q_order, .ref q_bestOrder, .int v_seenMany, .ref q_sights, .ref q_ways, .int v_seedNow, .int v_keptSquare, .int v_keptFront, .int v_keptDown, .int v_keptNights, .int v_keptWishesMany, .int v_keptSeen, .ref q_keptKinds, .ref q_keptPlots, .ref q_keptRow, .ref q_keptHad, .ref q_keptWishes, .ref q_keptSights, .long v_hash])), (q_plots, .inl (cI, 6, .inl v_plots)), (q_traded, .inl (cI, 6, .inl v_traded))]
noncomputable def fX9_isLeft (N : Nat) (v_plots : (Nat → Int32)) (v_traded : (Nat → Int32)) (a1 : Int32)   : Option (Int32) := if a1 < 0 ∨ 6 ≤ (a1).toNatClampNeg then none else (if (v_plots (a1).toNatClampNeg) = (-1 : Int32) then (some (0 : Int32)) else (if a1 < 0 ∨ 6 ≤ (a1).toNatClampNeg then none else (if (v_traded (a1).toNatClampNeg) = (-1 : Int32) then (some (1 : Int32)) else (some (0 : Int32)))))
set_option maxHeartbeats 4000000 in
set_option maxRecDepth 100000 in
theorem wX9_isLeft {p : Program} {l : Launch} {e : Env} {R : Room} {s : State} {m : MethodId} {args : Array Value} {below : List Frame} {meth : Method} {c : Code} {cells slots : Nat} {Q : State → Prop} {D : va_G} {A : Nat → Prop} {cI cZ cG : ClassId} {q q_page q_worths q_kinds q_likes q_had q_plots q_row q_plotsThen q_rowThen q_traded q_points q_ringLong q_wishes q_order q_bestOrder q_sights q_ways q_keptKinds q_keptPlots q_keptRow q_keptHad q_keptWishes q_keptSights : Nat} {v_pageMany : Int32} {v_houses : Int32} {v_nights : Int32} {v_squaresRead : Int32} {v_front : Int32} {v_down : Int32} {v_frontThen : Int32} {v_downThen : Int32} {v_ringsMany : Int32} {v_wishesMany : Int32} {v_ordersDone : Int32} {v_seenMany : Int32} {v_seedNow : Int32} {v_keptSquare : Int32} {v_keptFront : Int32} {v_keptDown : Int32} {v_keptNights : Int32} {v_keptWishesMany : Int32} {v_keptSeen : Int32} {v_hash : Int64} {v_plots : (Nat → Int32)} {v_traded : (Nat → Int32)} {a1 : Int32} {N : Nat} {ρ : Int32} (X : CX p s m args c cX9_isLeft 2 RX9 D (TY cI cZ cG) A) (hrm : RM R 0 0 cells slots) (ret : ∀ (pc : Nat) (H : Heap) (locs : List Loc) (ls : Array Slot), narrow .boolean (.int ρ) = .int ρ → decode cX9_isLeft pc = .ok (.ireturn, 1) → WD D A (kwX9_isLeft cI cZ cG q q_page q_worths q_kinds q_likes q_had q_plots q_row q_plotsThen q_rowThen q_traded q_points q_ringLong q_wishes q_order q_bestOrder q_sights q_ways q_keptKinds q_keptPlots q_keptRow q_keptHad q_keptWishes q_keptSights v_pageMany v_houses v_nights v_squaresRead v_front v_down v_frontThen v_downThen v_ringsMany v_wishesMany v_ordersDone v_seenMany v_seedNow v_keptSquare v_keptFront v_keptDown v_keptNights v_keptWishesMany v_keptSeen v_hash v_plots v_traded) s.heap H locs → W p l e R s m args below meth c H locs cells slots Q (F0 m pc ls [.int ρ])) (h : fX9_isLeft N v_plots v_traded a1   = some ρ) (H : Heap) (locs : List Loc) (ls : Array Slot) (hw : WD D A (kwX9_isLeft cI cZ cG q q_page q_worths q_kinds q_likes q_had q_plots q_row q_plotsThen q_rowThen q_traded q_points q_ringLong q_wishes q_order q_bestOrder q_sights q_ways q_keptKinds q_keptPlots q_keptRow q_keptHad q_keptWishes q_keptSights v_pageMany v_houses v_nights v_squaresRead v_front v_down v_frontThen v_downThen v_ringsMany v_wishesMany v_ordersDone v_seenMany v_seedNow v_keptSquare v_keptFront v_keptDown v_keptNights v_keptWishesMany v_keptSeen v_hash v_plots v_traded) s.heap H locs) (hl : lv_has ls 2 [(0, .ref q), (1, .int a1)]) : W p l e R s m args below meth c H locs cells slots Q (F0 m 0 ls []) := by
  have hx := X.1.1
  have hb := X.1.2.1
  unfold fX9_isLeft at h
  refine lv_aload_n hx hb dX9_isLeft_0 rfl (lv_at hl 0 rfl) ?_
  refine kget (ci := 9) (v := .ref q_plots) X hw iX9 0 rfl rfl 9 (by decide) tw_635 rfl dX9_isLeft_1 ?_
  refine lv_iload_n hx hb dX9_isLeft_4 rfl (lv_at hl 1 rfl) ?_
  obtain ⟨g_5, h⟩ := gd h
  refine kiald X hw 1 rfl rfl g_5 dX9_isLeft_5 ?_
  refine lv_iconst (v := (-1 : Int32)) hx hb dX9_isLeft_6 (by decide) ?_
  refine lv_icmp_eq (tgt := 24) hx hb dX9_isLeft_7 (by decide) (fun c_7 => ?_) (fun c_7 => ?_)
  · have h := ift c_7 h
    refine lv_iconst (v := (0 : Int32)) hx hb dX9_isLeft_24 (by decide) ?_
    obtain rfl := Option.some.inj h
    exact ret _ _ _ _ (show narrow .boolean (.int (0 : Int32)) = .int (0 : Int32) from rfl) dX9_isLeft_25 hw
  · have h := iff_ c_7 h
    refine lv_aload_n hx hb dX9_isLeft_10 rfl (lv_at hl 0 rfl) ?_
    refine kget (ci := 9) (v := .ref q_traded) X hw iX9 0 rfl rfl 17 (by decide) tw_705 rfl dX9_isLeft_11 ?_
    refine lv_iload_n hx hb dX9_isLeft_14 rfl (lv_at hl 1 rfl) ?_
    obtain ⟨g_15, h⟩ := gd h
    refine kiald X hw 2 rfl rfl g_15 dX9_isLeft_15 ?_
    refine lv_iconst (v := (-1 : Int32)) hx hb dX9_isLeft_16 (by decide) ?_
    refine lv_icmp_ne (tgt := 24) hx hb dX9_isLeft_17 (by decide) (fun c_17 => ?_) (fun c_17 => ?_)
    · have h := iff_ c_17 h
      refine lv_iconst (v := (0 : Int32)) hx hb dX9_isLeft_24 (by decide) ?_
      obtain rfl := Option.some.inj h
      exact ret _ _ _ _ (show narrow .boolean (.int (0 : Int32)) = .int (0 : Int32) from rfl) dX9_isLeft_25 hw
    · have h := ift c_17 h
      refine lv_iconst (v := (1 : Int32)) hx hb dX9_isLeft_20 (by decide) ?_
      refine lv_goto (tgt := 25) hx hb dX9_isLeft_21 (by decide) ?_
      obtain rfl := Option.some.inj h
      exact ret _ _ _ _ (show narrow .boolean (.int (1 : Int32)) = .int (1 : Int32) from rfl) dX9_isLeft_25 hw
set_option maxHeartbeats 4000000 in
set_option maxRecDepth 100000 in
theorem cX9_isLeft_ct (l : Launch) (D : va_G) (cI cZ cG : ClassId) (q q_page q_worths q_kinds q_likes q_had q_plots q_row q_plotsThen q_rowThen q_traded q_points q_ringLong q_wishes q_order q_bestOrder q_sights q_ways q_keptKinds q_keptPlots q_keptRow q_keptHad q_keptWishes q_keptSights : Nat)  (v_pageMany : Int32) (v_houses : Int32) (v_nights : Int32) (v_squaresRead : Int32) (v_front : Int32) (v_down : Int32) (v_frontThen : Int32) (v_downThen : Int32) (v_ringsMany : Int32) (v_wishesMany : Int32) (v_ordersDone : Int32) (v_seenMany : Int32) (v_seedNow : Int32) (v_keptSquare : Int32) (v_keptFront : Int32) (v_keptDown : Int32) (v_keptNights : Int32) (v_keptWishesMany : Int32) (v_keptSeen : Int32) (v_hash : Int64) (v_plots : (Nat → Int32)) (v_traded : (Nat → Int32)) (a1 : Int32) (N : Nat) (ρ : Int32) (h : fX9_isLeft N v_plots v_traded a1   = some ρ) (sz : Nat) : Met l yX9_isLeft (wz yX9_isLeft cX9_isLeft 2 (some .boolean)) (cRm 0 0) (cPre D (TY cI cZ cG) [.ref q, .int a1] (kwX9_isLeft cI cZ cG q q_page q_worths q_kinds q_likes q_had q_plots q_row q_plotsThen q_rowThen q_traded q_points q_ringLong q_wishes q_order q_bestOrder q_sights q_ways q_keptKinds q_keptPlots q_keptRow q_keptHad q_keptWishes q_keptSights v_pageMany v_houses v_nights v_squaresRead v_front v_down v_frontThen v_downThen v_ringsMany v_wishesMany v_ordersDone v_seenMany v_seedNow v_keptSquare v_keptFront v_keptDown v_keptNights v_keptWishesMany v_keptSeen v_hash v_plots v_traded) sz) (cQi D (ρ) (kwX9_isLeft cI cZ cG q q_page q_worths q_kinds q_likes q_had q_plots q_row q_plotsThen q_rowThen q_traded q_points q_ringLong q_wishes q_order q_bestOrder q_sights q_ways q_keptKinds q_keptPlots q_keptRow q_keptHad q_keptWishes q_keptSights v_pageMany v_houses v_nights v_squaresRead v_front v_down v_frontThen v_downThen v_ringsMany v_wishesMany v_ordersDone v_seenMany v_seedNow v_keptSquare v_keptFront v_keptDown v_keptNights v_keptWishesMany v_keptSeen v_hash v_plots v_traded) (kwX9_isLeft cI cZ cG q q_page q_worths q_kinds q_likes q_had q_plots q_row q_plotsThen q_rowThen q_traded q_points q_ringLong q_wishes q_order q_bestOrder q_sights q_ways q_keptKinds q_keptPlots q_keptRow q_keptHad q_keptWishes q_keptSights v_pageMany v_houses v_nights v_squaresRead v_front v_down v_frontThen v_downThen v_ringsMany v_wishesMany v_ordersDone v_seenMany v_seedNow v_keptSquare v_keptFront v_keptDown v_keptNights v_keptWishesMany v_keptSeen v_hash v_plots v_traded) sz) 0 0 (va_A (kwX9_isLeft cI cZ cG q q_page q_worths q_kinds q_likes q_had q_plots q_row q_plotsThen q_rowThen q_traded q_points q_ringLong q_wishes q_order q_bestOrder q_sights q_ways q_keptKinds q_keptPlots q_keptRow q_keptHad q_keptWishes q_keptSights v_pageMany v_houses v_nights v_squaresRead v_front v_down v_frontThen v_downThen v_ringsMany v_wishesMany v_ordersDone v_seenMany v_seedNow v_keptSquare v_keptFront v_keptDown v_keptNights v_keptWishesMany v_keptSeen v_hash v_plots v_traded) sz) :=
  mk_z (by decide) (Nat.le_of_ble_eq_true rfl) (fun X hrm ret hw hl => wX9_isLeft X hrm ret h _ _ _ hw hl)
theorem dX9_leftMany_0 : decode cX9_leftMany 0 = .ok (.iconst 0, 1) := by decide +kernel
theorem dX9_leftMany_1 : decode cX9_leftMany 1 = .ok (.istore_n 1, 1) := by decide +kernel
theorem dX9_leftMany_2 : decode cX9_leftMany 2 = .ok (.iconst 0, 1) := by decide +kernel
theorem dX9_leftMany_3 : decode cX9_leftMany 3 = .ok (.istore_n 2, 1) := by decide +kernel
theorem dX9_leftMany_4 : decode cX9_leftMany 4 = .ok (.iload_n 2, 1) := by decide +kernel
theorem dX9_leftMany_5 : decode cX9_leftMany 5 = .ok (.aload_n 0, 1) := by decide +kernel
theorem dX9_leftMany_6 : decode cX9_leftMany 6 = .ok (.getfield 112, 3) := by decide +kernel
theorem dX9_leftMany_9 : decode cX9_leftMany 9 = .ok (.if_icmp .ge 25, 3) := by decide +kernel
theorem dX9_leftMany_12 : decode cX9_leftMany 12 = .ok (.iload_n 1, 1) := by decide +kernel
theorem dX9_leftMany_13 : decode cX9_leftMany 13 = .ok (.aload_n 0, 1) := by decide +kernel
theorem dX9_leftMany_14 : decode cX9_leftMany 14 = .ok (.iload_n 2, 1) := by decide +kernel
theorem dX9_leftMany_15 : decode cX9_leftMany 15 = .ok (.invokevirtual 230, 3) := by decide +kernel
theorem dX9_leftMany_18 : decode cX9_leftMany 18 = .ok (.ifCond .eq 7, 3) := by decide +kernel
theorem dX9_leftMany_21 : decode cX9_leftMany 21 = .ok (.iconst 1, 1) := by decide +kernel
theorem dX9_leftMany_22 : decode cX9_leftMany 22 = .ok (.goto 4, 3) := by decide +kernel
theorem dX9_leftMany_25 : decode cX9_leftMany 25 = .ok (.iconst 0, 1) := by decide +kernel
theorem dX9_leftMany_26 : decode cX9_leftMany 26 = .ok (.iadd, 1) := by decide +kernel
theorem dX9_leftMany_27 : decode cX9_leftMany 27 = .ok (.istore_n 1, 1) := by decide +kernel
theorem dX9_leftMany_28 : decode cX9_leftMany 28 = .ok (.iinc 2 1, 3) := by decide +kernel
theorem dX9_leftMany_31 : decode cX9_leftMany 31 = .ok (.goto (-27), 3) := by decide +kernel
theorem dX9_leftMany_34 : decode cX9_leftMany 34 = .ok (.iload_n 1, 1) := by decide +kernel
theorem dX9_leftMany_35 : decode cX9_leftMany 35 = .ok (.ireturn, 1) := by decide +kernel
abbrev kwX9_leftMany (cI cZ cG : ClassId) (q q_page q_worths q_kinds q_likes q_had q_plots q_row q_plotsThen q_rowThen q_traded q_points q_ringLong q_wishes q_order q_bestOrder q_sights q_ways q_keptKinds q_keptPlots q_keptRow q_keptHad q_keptWishes q_keptSights : Nat) (v_pageMany : Int32) (v_houses : Int32) (v_nights : Int32) (v_squaresRead : Int32) (v_front : Int32) (v_down : Int32) (v_frontThen : Int32) (v_downThen : Int32) (v_ringsMany : Int32) (v_wishesMany : Int32) (v_ordersDone : Int32) (v_seenMany : Int32) (v_seedNow : Int32) (v_keptSquare : Int32) (v_keptFront : Int32) (v_keptDown : Int32) (v_keptNights : Int32) (v_keptWishesMany : Int32) (v_keptSeen : Int32) (v_hash : Int64) (v_plots : (Nat → Int32)) (v_traded : (Nat → Int32)) : va_W := [(q, .inr (9, [.ref q_page, .int v_pageMany, .int v_houses, .int v_nights, .int v_squaresRead, .ref q_worths, .ref q_kinds, .ref q_likes, .ref q_had, .ref q_plots, .ref q_row, .int v_front, .int v_down, .ref q_plotsThen, .ref q_rowThen, .int v_frontThen, .int v_downThen, .ref q_traded, .ref q_points, .int v_ringsMany, .ref q_ringLong, .int v_wishesMany, .ref q_wishes, .int v_ordersDone, .ref q_order, .ref q_bestOrder, .int v_seenMany, .ref q_sights, .ref q_ways, .int v_seedNow, .int v_keptSquare, .int v_keptFront, .int v_keptDown, .int v_keptNights, .int v_keptWishesMany, .int v_keptSeen, .ref q_keptKinds, .ref q_keptPlots, .ref q_keptRow, .ref q_keptHad, .ref q_keptWishes, .ref q_keptSights, .long v_hash])), (q_plots, .inl (cI, 6, .inl v_plots)), (q_traded, .inl (cI, 6, .inl v_traded))]
noncomputable def fX9_leftMany_4 (N : Nat) (v_houses : Int32) (v_plots : (Nat → Int32)) (v_traded : (Nat → Int32))  (K_4 : Int32 → Int32 → Option (Int32)) (l1 : Int32) (l2 : Int32) : Option (Int32) := if v_houses ≤ l2 then (some l1) else ((fX9_isLeft N v_plots v_traded l2).bind (fun x_15 => if x_15 = 0 then (K_4 (l1 + (0 : Int32)) (l2 + (1 : Int32))) else (K_4 (l1 + (1 : Int32)) (l2 + (1 : Int32)))))
noncomputable def fX9_leftMany (N : Nat) (v_houses : Int32) (v_plots : (Nat → Int32)) (v_traded : (Nat → Int32))   : Option (Int32) := lfix (fun (K : Int32 × Int32 → Option (Int32)) (a : Int32 × Int32) => fX9_leftMany_4 N v_houses v_plots v_traded (fun (l1 : Int32) (l2 : Int32) => K (l1, l2)) a.1 a.2) N ((0 : Int32), (0 : Int32))
set_option maxHeartbeats 4000000 in
set_option maxRecDepth 100000 in
theorem wX9_leftMany_4 {p : Program} {l : Launch} {e : Env} {R : Room} {s : State} {m : MethodId} {args : Array Value} {below : List Frame} {meth : Method} {c : Code} {cells slots : Nat} {Q : State → Prop} {D : va_G} {A : Nat → Prop} {cI cZ cG : ClassId} {q q_page q_worths q_kinds q_likes q_had q_plots q_row q_plotsThen q_rowThen q_traded q_points q_ringLong q_wishes q_order q_bestOrder q_sights q_ways q_keptKinds q_keptPlots q_keptRow q_keptHad q_keptWishes q_keptSights : Nat} {v_pageMany : Int32} {v_houses : Int32} {v_nights : Int32} {v_squaresRead : Int32} {v_front : Int32} {v_down : Int32} {v_frontThen : Int32} {v_downThen : Int32} {v_ringsMany : Int32} {v_wishesMany : Int32} {v_ordersDone : Int32} {v_seenMany : Int32} {v_seedNow : Int32} {v_keptSquare : Int32} {v_keptFront : Int32} {v_keptDown : Int32} {v_keptNights : Int32} {v_keptWishesMany : Int32} {v_keptSeen : Int32} {v_hash : Int64} {v_plots : (Nat → Int32)} {v_traded : (Nat → Int32)} {N : Nat} {ρ : Int32} (X : CX p s m args c cX9_leftMany 3 RX9 D (TY cI cZ cG) A) (hrm : RM R 1 21 cells slots) (ret : ∀ (pc : Nat) (H : Heap) (locs : List Loc) (ls : Array Slot), decode cX9_leftMany pc = .ok (.ireturn, 1) → WD D A (kwX9_leftMany cI cZ cG q q_page q_worths q_kinds q_likes q_had q_plots q_row q_plotsThen q_rowThen q_traded q_points q_ringLong q_wishes q_order q_bestOrder q_sights q_ways q_keptKinds q_keptPlots q_keptRow q_keptHad q_keptWishes q_keptSights v_pageMany v_houses v_nights v_squaresRead v_front v_down v_frontThen v_downThen v_ringsMany v_wishesMany v_ordersDone v_seenMany v_seedNow v_keptSquare v_keptFront v_keptDown v_keptNights v_keptWishesMany v_keptSeen v_hash v_plots v_traded) s.heap H locs → W p l e R s m args below meth c H locs cells slots Q (F0 m pc ls [.int ρ]))  : ∀ (n : Nat) (a : Int32 × Int32), lfix (fun (K : Int32 × Int32 → Option (Int32)) (a : Int32 × Int32) => fX9_leftMany_4 N v_houses v_plots v_traded (fun (l1 : Int32) (l2 : Int32) => K (l1, l2)) a.1 a.2) n a = some ρ → (fun (l1 : Int32) (l2 : Int32) => ∀ (H : Heap) (locs : List Loc) (ls : Array Slot), WD D A (kwX9_leftMany cI cZ cG q q_page q_worths q_kinds q_likes q_had q_plots q_row q_plotsThen q_rowThen q_traded q_points q_ringLong q_wishes q_order q_bestOrder q_sights q_ways q_keptKinds q_keptPlots q_keptRow q_keptHad q_keptWishes q_keptSights v_pageMany v_houses v_nights v_squaresRead v_front v_down v_frontThen v_downThen v_ringsMany v_wishesMany v_ordersDone v_seenMany v_seedNow v_keptSquare v_keptFront v_keptDown v_keptNights v_keptWishesMany v_keptSeen v_hash v_plots v_traded) s.heap H locs → lv_has ls 3 [(0, .ref q), (1, .int l1), (2, .int l2)] → W p l e R s m args below meth c H locs cells slots Q (F0 m 4 ls [])) (a.1) (a.2) := by
  have hx := X.1.1
  have hb := X.1.2.1
  refine lfix_W (fun K hK a h => ?_)
  obtain ⟨l1, l2⟩ := a
  intro H locs ls hw hl
  have h : fX9_leftMany_4 N v_houses v_plots v_traded (fun (l1 : Int32) (l2 : Int32) => K (l1, l2)) l1 l2 = some ρ := h
  have hK_4 : ∀ (l1 : Int32) (l2 : Int32), (fun (l1 : Int32) (l2 : Int32) => K (l1, l2)) l1 l2 = some ρ → ∀ (H : Heap) (locs : List Loc) (ls : Array Slot), WD D A (kwX9_leftMany cI cZ cG q q_page q_worths q_kinds q_likes q_had q_plots q_row q_plotsThen q_rowThen q_traded q_points q_ringLong q_wishes q_order q_bestOrder q_sights q_ways q_keptKinds q_keptPlots q_keptRow q_keptHad q_keptWishes q_keptSights v_pageMany v_houses v_nights v_squaresRead v_front v_down v_frontThen v_downThen v_ringsMany v_wishesMany v_ordersDone v_seenMany v_seedNow v_keptSquare v_keptFront v_keptDown v_keptNights v_keptWishesMany v_keptSeen v_hash v_plots v_traded) s.heap H locs → lv_has ls 3 [(0, .ref q), (1, .int l1), (2, .int l2)] → W p l e R s m args below meth c H locs cells slots Q (F0 m 4 ls []) := fun l1 l2 h => hK (l1, l2) h
  generalize (fun (l1 : Int32) (l2 : Int32) => K (l1, l2)) = K_4 at h hK_4
  have hw : WD D A (kwX9_leftMany cI cZ cG q q_page q_worths q_kinds q_likes q_had q_plots q_row q_plotsThen q_rowThen q_traded q_points q_ringLong q_wishes q_order q_bestOrder q_sights q_ways q_keptKinds q_keptPlots q_keptRow q_keptHad q_keptWishes q_keptSights v_pageMany v_houses v_nights v_squaresRead v_front v_down v_frontThen v_downThen v_ringsMany v_wishesMany v_ordersDone v_seenMany v_seedNow v_keptSquare v_keptFront v_keptDown v_keptNights v_keptWishesMany v_keptSeen v_hash v_plots v_traded) s.heap H locs := hw
  have hl : lv_has ls 3 [(0, .ref q), (1, .int l1), (2, .int l2)] := hl
  unfold fX9_leftMany_4 at h
  refine lv_iload_n hx hb dX9_leftMany_4 rfl (lv_at hl 2 rfl) ?_
  refine lv_aload_n hx hb dX9_leftMany_5 rfl (lv_at hl 0 rfl) ?_
  refine kget (ci := 9) (v := .int v_houses) X hw iX9 0 rfl rfl 2 (by decide) tw_625 rfl dX9_leftMany_6 ?_
  refine lv_icmp_ge (tgt := 34) hx hb dX9_leftMany_9 (by decide) (fun c_9 => ?_) (fun c_9 => ?_)
  · have h := ift c_9 h
    refine lv_iload_n hx hb dX9_leftMany_34 rfl (lv_at hl 1 rfl) ?_
    obtain rfl := Option.some.inj h
    exact ret _ _ _ _ dX9_leftMany_35 hw
  · have h := iff_ c_9 h
    refine lv_iload_n hx hb dX9_leftMany_12 rfl (lv_at hl 1 rfl) ?_
    refine lv_aload_n hx hb dX9_leftMany_13 rfl (lv_at hl 0 rfl) ?_
    refine lv_iload_n hx hb dX9_leftMany_14 rfl (lv_at hl 2 rfl) ?_
    obtain ⟨x_15, hc_15, h⟩ := obd h
    refine ksV_i (ws2 := (kwX9_leftMany cI cZ cG q q_page q_worths q_kinds q_likes q_had q_plots q_row q_plotsThen q_rowThen q_traded q_points q_ringLong q_wishes q_order q_bestOrder q_sights q_ways q_keptKinds q_keptPlots q_keptRow q_keptHad q_keptWishes q_keptSights v_pageMany v_houses v_nights v_squaresRead v_front v_down v_frontThen v_downThen v_ringsMany v_wishesMany v_ordersDone v_seenMany v_seedNow v_keptSquare v_keptFront v_keptDown v_keptNights v_keptWishesMany v_keptSeen v_hash v_plots v_traded)) (nW := 3) (ci := 9) (As := [.int l2]) (rest := [.int l1]) X hw rfl rfl rfl (cX9_isLeft_ct l D cI cZ cG q q_page q_worths q_kinds q_likes q_had q_plots q_row q_plotsThen q_rowThen q_traded q_points q_ringLong q_wishes q_order q_bestOrder q_sights q_ways q_keptKinds q_keptPlots q_keptRow q_keptHad q_keptWishes q_keptSights v_pageMany v_houses v_nights v_squaresRead v_front v_down v_frontThen v_downThen v_ringsMany v_wishesMany v_ordersDone v_seenMany v_seedNow v_keptSquare v_keptFront v_keptDown v_keptNights v_keptWishesMany v_keptSeen v_hash v_plots v_traded l2 N x_15 hc_15 H.size) mX9_isLeft tw_709 (hrm.call (by decide) (by decide)) [0, 1, 2] rfl (by decide) rfl (by decide) rfl trivial rfl hl.1 rfl (Nat.le_of_ble_eq_true rfl) dX9_leftMany_15 ⟨hrm.2.2.1, hrm.2.2.2⟩ (fun H locs hw => ?_)
    refine lv_if_eq (tgt := 25) hx hb dX9_leftMany_18 (by decide) (fun c_18 => ?_) (fun c_18 => ?_)
    · have h := ift c_18 h
      refine lv_iconst (v := (0 : Int32)) hx hb dX9_leftMany_25 (by decide) ?_
      refine lv_iadd hx hb dX9_leftMany_26 ?_
      refine lv_istore_n (lv' := [(1, .int (l1 + (0 : Int32))), (0, .ref q), (2, .int l2)]) hx hb dX9_leftMany_27 rfl hl (by decide) rfl (fun ls hl => ?_)
      refine lv_iinc (v := (l2 + (1 : Int32))) (lv' := [(2, .int (l2 + (1 : Int32))), (1, .int (l1 + (0 : Int32))), (0, .ref q)]) hx hb dX9_leftMany_28 hl (k := 2) rfl (congrArg (l2 + ·) (by decide)) (by decide) rfl (fun ls hl => ?_)
      refine lv_goto (tgt := 4) hx hb dX9_leftMany_31 (by decide) ?_
      exact hK_4 _ _ h _ _ _ hw (lv_sub hl [2, 1, 0] rfl)
    · have h := iff_ c_18 h
      refine lv_iconst (v := (1 : Int32)) hx hb dX9_leftMany_21 (by decide) ?_
      refine lv_goto (tgt := 26) hx hb dX9_leftMany_22 (by decide) ?_
      refine lv_iadd hx hb dX9_leftMany_26 ?_
      refine lv_istore_n (lv' := [(1, .int (l1 + (1 : Int32))), (0, .ref q), (2, .int l2)]) hx hb dX9_leftMany_27 rfl hl (by decide) rfl (fun ls hl => ?_)
      refine lv_iinc (v := (l2 + (1 : Int32))) (lv' := [(2, .int (l2 + (1 : Int32))), (1, .int (l1 + (1 : Int32))), (0, .ref q)]) hx hb dX9_leftMany_28 hl (k := 2) rfl (congrArg (l2 + ·) (by decide)) (by decide) rfl (fun ls hl => ?_)
      refine lv_goto (tgt := 4) hx hb dX9_leftMany_31 (by decide) ?_
      exact hK_4 _ _ h _ _ _ hw (lv_sub hl [2, 1, 0] rfl)
set_option maxHeartbeats 4000000 in
set_option maxRecDepth 100000 in
theorem wX9_leftMany {p : Program} {l : Launch} {e : Env} {R : Room} {s : State} {m : MethodId} {args : Array Value} {below : List Frame} {meth : Method} {c : Code} {cells slots : Nat} {Q : State → Prop} {D : va_G} {A : Nat → Prop} {cI cZ cG : ClassId} {q q_page q_worths q_kinds q_likes q_had q_plots q_row q_plotsThen q_rowThen q_traded q_points q_ringLong q_wishes q_order q_bestOrder q_sights q_ways q_keptKinds q_keptPlots q_keptRow q_keptHad q_keptWishes q_keptSights : Nat} {v_pageMany : Int32} {v_houses : Int32} {v_nights : Int32} {v_squaresRead : Int32} {v_front : Int32} {v_down : Int32} {v_frontThen : Int32} {v_downThen : Int32} {v_ringsMany : Int32} {v_wishesMany : Int32} {v_ordersDone : Int32} {v_seenMany : Int32} {v_seedNow : Int32} {v_keptSquare : Int32} {v_keptFront : Int32} {v_keptDown : Int32} {v_keptNights : Int32} {v_keptWishesMany : Int32} {v_keptSeen : Int32} {v_hash : Int64} {v_plots : (Nat → Int32)} {v_traded : (Nat → Int32)} {N : Nat} {ρ : Int32} (X : CX p s m args c cX9_leftMany 3 RX9 D (TY cI cZ cG) A) (hrm : RM R 1 21 cells slots) (ret : ∀ (pc : Nat) (H : Heap) (locs : List Loc) (ls : Array Slot), decode cX9_leftMany pc = .ok (.ireturn, 1) → WD D A (kwX9_leftMany cI cZ cG q q_page q_worths q_kinds q_likes q_had q_plots q_row q_plotsThen q_rowThen q_traded q_points q_ringLong q_wishes q_order q_bestOrder q_sights q_ways q_keptKinds q_keptPlots q_keptRow q_keptHad q_keptWishes q_keptSights v_pageMany v_houses v_nights v_squaresRead v_front v_down v_frontThen v_downThen v_ringsMany v_wishesMany v_ordersDone v_seenMany v_seedNow v_keptSquare v_keptFront v_keptDown v_keptNights v_keptWishesMany v_keptSeen v_hash v_plots v_traded) s.heap H locs → W p l e R s m args below meth c H locs cells slots Q (F0 m pc ls [.int ρ])) (h : fX9_leftMany N v_houses v_plots v_traded   = some ρ) (H : Heap) (locs : List Loc) (ls : Array Slot) (hw : WD D A (kwX9_leftMany cI cZ cG q q_page q_worths q_kinds q_likes q_had q_plots q_row q_plotsThen q_rowThen q_traded q_points q_ringLong q_wishes q_order q_bestOrder q_sights q_ways q_keptKinds q_keptPlots q_keptRow q_keptHad q_keptWishes q_keptSights v_pageMany v_houses v_nights v_squaresRead v_front v_down v_frontThen v_downThen v_ringsMany v_wishesMany v_ordersDone v_seenMany v_seedNow v_keptSquare v_keptFront v_keptDown v_keptNights v_keptWishesMany v_keptSeen v_hash v_plots v_traded) s.heap H locs) (hl : lv_has ls 3 [(0, .ref q)]) : W p l e R s m args below meth c H locs cells slots Q (F0 m 0 ls []) := by
  have hx := X.1.1
  have hb := X.1.2.1
  unfold fX9_leftMany at h
  refine lv_iconst (v := (0 : Int32)) hx hb dX9_leftMany_0 (by decide) ?_
  refine lv_istore_n (lv' := [(1, .int (0 : Int32)), (0, .ref q)]) hx hb dX9_leftMany_1 rfl hl (by decide) rfl (fun ls hl => ?_)
  refine lv_iconst (v := (0 : Int32)) hx hb dX9_leftMany_2 (by decide) ?_
  refine lv_istore_n (lv' := [(2, .int (0 : Int32)), (1, .int (0 : Int32)), (0, .ref q)]) hx hb dX9_leftMany_3 rfl hl (by decide) rfl (fun ls hl => ?_)
  exact wX9_leftMany_4 X hrm ret  _ _ h _ _ _ hw (lv_sub hl [2, 1, 0] rfl)
set_option maxHeartbeats 4000000 in
set_option maxRecDepth 100000 in
theorem cX9_leftMany_ct (l : Launch) (D : va_G) (cI cZ cG : ClassId) (q q_page q_worths q_kinds q_likes q_had q_plots q_row q_plotsThen q_rowThen q_traded q_points q_ringLong q_wishes q_order q_bestOrder q_sights q_ways q_keptKinds q_keptPlots q_keptRow q_keptHad q_keptWishes q_keptSights : Nat)  (v_pageMany : Int32) (v_houses : Int32) (v_nights : Int32) (v_squaresRead : Int32) (v_front : Int32) (v_down : Int32) (v_frontThen : Int32) (v_downThen : Int32) (v_ringsMany : Int32) (v_wishesMany : Int32) (v_ordersDone : Int32) (v_seenMany : Int32) (v_seedNow : Int32) (v_keptSquare : Int32) (v_keptFront : Int32) (v_keptDown : Int32) (v_keptNights : Int32) (v_keptWishesMany : Int32) (v_keptSeen : Int32) (v_hash : Int64) (v_plots : (Nat → Int32)) (v_traded : (Nat → Int32))  (N : Nat) (ρ : Int32) (h : fX9_leftMany N v_houses v_plots v_traded   = some ρ) (sz : Nat) : Met l yX9_leftMany (wz yX9_leftMany cX9_leftMany 3 (some .int)) (cRm 1 21) (cPre D (TY cI cZ cG) [.ref q] (kwX9_leftMany cI cZ cG q q_page q_worths q_kinds q_likes q_had q_plots q_row q_plotsThen q_rowThen q_traded q_points q_ringLong q_wishes q_order q_bestOrder q_sights q_ways q_keptKinds q_keptPlots q_keptRow q_keptHad q_keptWishes q_keptSights v_pageMany v_houses v_nights v_squaresRead v_front v_down v_frontThen v_downThen v_ringsMany v_wishesMany v_ordersDone v_seenMany v_seedNow v_keptSquare v_keptFront v_keptDown v_keptNights v_keptWishesMany v_keptSeen v_hash v_plots v_traded) sz) (cQi D (ρ) (kwX9_leftMany cI cZ cG q q_page q_worths q_kinds q_likes q_had q_plots q_row q_plotsThen q_rowThen q_traded q_points q_ringLong q_wishes q_order q_bestOrder q_sights q_ways q_keptKinds q_keptPlots q_keptRow q_keptHad q_keptWishes q_keptSights v_pageMany v_houses v_nights v_squaresRead v_front v_down v_frontThen v_downThen v_ringsMany v_wishesMany v_ordersDone v_seenMany v_seedNow v_keptSquare v_keptFront v_keptDown v_keptNights v_keptWishesMany v_keptSeen v_hash v_plots v_traded) (kwX9_leftMany cI cZ cG q q_page q_worths q_kinds q_likes q_had q_plots q_row q_plotsThen q_rowThen q_traded q_points q_ringLong q_wishes q_order q_bestOrder q_sights q_ways q_keptKinds q_keptPlots q_keptRow q_keptHad q_keptWishes q_keptSights v_pageMany v_houses v_nights v_squaresRead v_front v_down v_frontThen v_downThen v_ringsMany v_wishesMany v_ordersDone v_seenMany v_seedNow v_keptSquare v_keptFront v_keptDown v_keptNights v_keptWishesMany v_keptSeen v_hash v_plots v_traded) sz) 0 0 (va_A (kwX9_leftMany cI cZ cG q q_page q_worths q_kinds q_likes q_had q_plots q_row q_plotsThen q_rowThen q_traded q_points q_ringLong q_wishes q_order q_bestOrder q_sights q_ways q_keptKinds q_keptPlots q_keptRow q_keptHad q_keptWishes q_keptSights v_pageMany v_houses v_nights v_squaresRead v_front v_down v_frontThen v_downThen v_ringsMany v_wishesMany v_ordersDone v_seenMany v_seedNow v_keptSquare v_keptFront v_keptDown v_keptNights v_keptWishesMany v_keptSeen v_hash v_plots v_traded) sz) :=
  mk_i (by decide) (Nat.le_of_ble_eq_true rfl) (fun X hrm ret hw hl => wX9_leftMany X hrm ret h _ _ _ hw hl)
theorem dX9_pointsTo_0 : decode cX9_pointsTo 0 = .ok (.iconst (-1), 1) := by decide +kernel
theorem dX9_pointsTo_1 : decode cX9_pointsTo 1 = .ok (.istore_n 2, 1) := by decide +kernel
theorem dX9_pointsTo_2 : decode cX9_pointsTo 2 = .ok (.iconst 0, 1) := by decide +kernel
theorem dX9_pointsTo_3 : decode cX9_pointsTo 3 = .ok (.istore_n 3, 1) := by decide +kernel
theorem dX9_pointsTo_4 : decode cX9_pointsTo 4 = .ok (.iload_n 3, 1) := by decide +kernel
theorem dX9_pointsTo_5 : decode cX9_pointsTo 5 = .ok (.aload_n 0, 1) := by decide +kernel
theorem dX9_pointsTo_6 : decode cX9_pointsTo 6 = .ok (.getfield 112, 3) := by decide +kernel
theorem dX9_pointsTo_9 : decode cX9_pointsTo 9 = .ok (.if_icmp .ge 85, 3) := by decide +kernel
theorem dX9_pointsTo_12 : decode cX9_pointsTo 12 = .ok (.aload_n 0, 1) := by decide +kernel
theorem dX9_pointsTo_13 : decode cX9_pointsTo 13 = .ok (.iload_n 3, 1) := by decide +kernel
theorem dX9_pointsTo_14 : decode cX9_pointsTo 14 = .ok (.invokevirtual 230, 3) := by decide +kernel
theorem dX9_pointsTo_17 : decode cX9_pointsTo 17 = .ok (.ifCond .eq 71, 3) := by decide +kernel
theorem dX9_pointsTo_20 : decode cX9_pointsTo 20 = .ok (.bipush 12, 2) := by decide +kernel
theorem dX9_pointsTo_22 : decode cX9_pointsTo 22 = .ok (.aload_n 0, 1) := by decide +kernel
theorem dX9_pointsTo_23 : decode cX9_pointsTo 23 = .ok (.getfield 25, 3) := by decide +kernel
theorem dX9_pointsTo_26 : decode cX9_pointsTo 26 = .ok (.iload_n 3, 1) := by decide +kernel
theorem dX9_pointsTo_27 : decode cX9_pointsTo 27 = .ok (.iaload, 1) := by decide +kernel
theorem dX9_pointsTo_28 : decode cX9_pointsTo 28 = .ok (.aload_n 0, 1) := by decide +kernel
theorem dX9_pointsTo_29 : decode cX9_pointsTo 29 = .ok (.getfield 19, 3) := by decide +kernel
theorem dX9_pointsTo_32 : decode cX9_pointsTo 32 = .ok (.iload_n 1, 1) := by decide +kernel
theorem dX9_pointsTo_33 : decode cX9_pointsTo 33 = .ok (.iaload, 1) := by decide +kernel
theorem dX9_pointsTo_34 : decode cX9_pointsTo 34 = .ok (.invokestatic 216, 3) := by decide +kernel
theorem dX9_pointsTo_37 : decode cX9_pointsTo 37 = .ok (.imul, 1) := by decide +kernel
theorem dX9_pointsTo_38 : decode cX9_pointsTo 38 = .ok (.aload_n 0, 1) := by decide +kernel
theorem dX9_pointsTo_39 : decode cX9_pointsTo 39 = .ok (.getfield 25, 3) := by decide +kernel
theorem dX9_pointsTo_42 : decode cX9_pointsTo 42 = .ok (.iload_n 3, 1) := by decide +kernel
theorem dX9_pointsTo_43 : decode cX9_pointsTo 43 = .ok (.iaload, 1) := by decide +kernel
theorem dX9_pointsTo_44 : decode cX9_pointsTo 44 = .ok (.iadd, 1) := by decide +kernel
theorem dX9_pointsTo_45 : decode cX9_pointsTo 45 = .ok (.istore 4, 2) := by decide +kernel
theorem dX9_pointsTo_47 : decode cX9_pointsTo 47 = .ok (.iload_n 2, 1) := by decide +kernel
theorem dX9_pointsTo_48 : decode cX9_pointsTo 48 = .ok (.iconst (-1), 1) := by decide +kernel
theorem dX9_pointsTo_49 : decode cX9_pointsTo 49 = .ok (.if_icmp .eq 33, 3) := by decide +kernel
theorem dX9_pointsTo_52 : decode cX9_pointsTo 52 = .ok (.iload 4, 2) := by decide +kernel
theorem dX9_pointsTo_54 : decode cX9_pointsTo 54 = .ok (.bipush 12, 2) := by decide +kernel
theorem dX9_pointsTo_56 : decode cX9_pointsTo 56 = .ok (.aload_n 0, 1) := by decide +kernel
theorem dX9_pointsTo_57 : decode cX9_pointsTo 57 = .ok (.getfield 25, 3) := by decide +kernel
theorem dX9_pointsTo_60 : decode cX9_pointsTo 60 = .ok (.iload_n 2, 1) := by decide +kernel
theorem dX9_pointsTo_61 : decode cX9_pointsTo 61 = .ok (.iaload, 1) := by decide +kernel
theorem dX9_pointsTo_62 : decode cX9_pointsTo 62 = .ok (.aload_n 0, 1) := by decide +kernel
theorem dX9_pointsTo_63 : decode cX9_pointsTo 63 = .ok (.getfield 19, 3) := by decide +kernel
theorem dX9_pointsTo_66 : decode cX9_pointsTo 66 = .ok (.iload_n 1, 1) := by decide +kernel
theorem dX9_pointsTo_67 : decode cX9_pointsTo 67 = .ok (.iaload, 1) := by decide +kernel
theorem dX9_pointsTo_68 : decode cX9_pointsTo 68 = .ok (.invokestatic 216, 3) := by decide +kernel
theorem dX9_pointsTo_71 : decode cX9_pointsTo 71 = .ok (.imul, 1) := by decide +kernel
theorem dX9_pointsTo_72 : decode cX9_pointsTo 72 = .ok (.aload_n 0, 1) := by decide +kernel
theorem dX9_pointsTo_73 : decode cX9_pointsTo 73 = .ok (.getfield 25, 3) := by decide +kernel
theorem dX9_pointsTo_76 : decode cX9_pointsTo 76 = .ok (.iload_n 2, 1) := by decide +kernel
theorem dX9_pointsTo_77 : decode cX9_pointsTo 77 = .ok (.iaload, 1) := by decide +kernel
theorem dX9_pointsTo_78 : decode cX9_pointsTo 78 = .ok (.iadd, 1) := by decide +kernel
theorem dX9_pointsTo_79 : decode cX9_pointsTo 79 = .ok (.if_icmp .ge 7, 3) := by decide +kernel
theorem dX9_pointsTo_82 : decode cX9_pointsTo 82 = .ok (.iload_n 3, 1) := by decide +kernel
theorem dX9_pointsTo_83 : decode cX9_pointsTo 83 = .ok (.goto 4, 3) := by decide +kernel
theorem dX9_pointsTo_86 : decode cX9_pointsTo 86 = .ok (.iload_n 2, 1) := by decide +kernel
theorem dX9_pointsTo_87 : decode cX9_pointsTo 87 = .ok (.istore_n 2, 1) := by decide +kernel
theorem dX9_pointsTo_88 : decode cX9_pointsTo 88 = .ok (.iinc 3 1, 3) := by decide +kernel
theorem dX9_pointsTo_91 : decode cX9_pointsTo 91 = .ok (.goto (-87), 3) := by decide +kernel
theorem dX9_pointsTo_94 : decode cX9_pointsTo 94 = .ok (.iload_n 2, 1) := by decide +kernel
theorem dX9_pointsTo_95 : decode cX9_pointsTo 95 = .ok (.ireturn, 1) := by decide +kernel
abbrev kwX9_pointsTo (cI cZ cG : ClassId) (q q_page q_worths q_kinds q_likes q_had q_plots q_row q_plotsThen q_rowThen q_traded q_points q_ringLong q_wishes q_order q_bestOrder q_sights q_ways q_keptKinds q_keptPlots q_keptRow q_keptHad q_keptWishes q_keptSights : Nat) (v_pageMany : Int32) (v_houses : Int32) (v_nights : Int32) (v_squaresRead : Int32) (v_front : Int32) (v_down : Int32) (v_frontThen : Int32) (v_downThen : Int32) (v_ringsMany : Int32) (v_wishesMany : Int32) (v_ordersDone : Int32) (v_seenMany : Int32) (v_seedNow : Int32) (v_keptSquare : Int32) (v_keptFront : Int32) (v_keptDown : Int32) (v_keptNights : Int32) (v_keptWishesMany : Int32) (v_keptSeen : Int32) (v_hash : Int64) (v_plots : (Nat → Int32)) (v_traded : (Nat → Int32)) (v_likes : (Nat → Int32)) : va_W := [(q, .inr (9, [.ref q_page, .int v_pageMany, .int v_houses, .int v_nights, .int v_squaresRead, .ref q_worths, .ref q_kinds, .ref q_likes, .ref q_had, .ref q_plots, .ref q_row, .int v_front, .int v_down, .ref q_plotsThen, .ref q_rowThen, .int v_frontThen, .int v_downThen, .ref q_traded, .ref q_points, .int v_ringsMany, .ref q_ringLong, .int v_wishesMany, .ref q_wishes, .int v_ordersDone, .ref q_order, .ref q_bestOrder, .int v_seenMany, .ref q_sights, .ref q_ways, .int v_seedNow, .int v_keptSquare, .int v_keptFront, .int v_keptDown, .int v_keptNights, .int v_keptWishesMany, .int v_keptSeen, .ref q_keptKinds, .ref q_keptPlots, .ref q_keptRow, .ref q_keptHad, .ref q_keptWishes, .ref q_keptSights, .long v_hash])), (q_plots, .inl (cI, 6, .inl v_plots)), (q_traded, .inl (cI, 6, .inl v_traded)), (q_likes, .inl (cI, 6, .inl v_likes))]
noncomputable def fX9_pointsTo_4 (N : Nat) (v_houses : Int32) (v_plots : (Nat → Int32)) (v_traded : (Nat → Int32)) (v_likes : (Nat → Int32)) (a1 : Int32)  (K_4 : Int32 → Int32 → Option (Int32)) (l2 : Int32) (l3 : Int32) : Option (Int32) := if v_houses ≤ l3 then (some l2) else ((fX9_isLeft N v_plots v_traded l3).bind (fun x_14 => if x_14 = 0 then (K_4 l2 (l3 + (1 : Int32))) else (if l3 < 0 ∨ 6 ≤ (l3).toNatClampNeg then none else (if a1 < 0 ∨ 6 ≤ (a1).toNatClampNeg then none else ((fX9_round N (v_plots (l3).toNatClampNeg) (v_likes (a1).toNatClampNeg)).bind (fun x_34 => if l3 < 0 ∨ 6 ≤ (l3).toNatClampNeg then none else (if l2 = (-1 : Int32) then (K_4 l3 (l3 + (1 : Int32))) else (if l2 < 0 ∨ 6 ≤ (l2).toNatClampNeg then none else (if a1 < 0 ∨ 6 ≤ (a1).toNatClampNeg then none else ((fX9_round N (v_plots (l2).toNatClampNeg) (v_likes (a1).toNatClampNeg)).bind (fun x_68 => if l2 < 0 ∨ 6 ≤ (l2).toNatClampNeg then none else (if (((12 : Int32) * x_68) + (v_plots (l2).toNatClampNeg)) ≤ (((12 : Int32) * x_34) + (v_plots (l3).toNatClampNeg)) then (K_4 l2 (l3 + (1 : Int32))) else (K_4 l3 (l3 + (1 : Int32)))))))))))))))
noncomputable def fX9_pointsTo (N : Nat) (v_houses : Int32) (v_plots : (Nat → Int32)) (v_traded : (Nat → Int32)) (v_likes : (Nat → Int32)) (a1 : Int32)   : Option (Int32) := lfix (fun (K : Int32 × Int32 → Option (Int32)) (a : Int32 × Int32) => fX9_pointsTo_4 N v_houses v_plots v_traded v_likes a1 (fun (l2 : Int32) (l3 : Int32) => K (l2, l3)) a.1 a.2) N ((-1 : Int32), (0 : Int32))
set_option maxHeartbeats 4000000 in
set_option maxRecDepth 100000 in
theorem wX9_pointsTo_4 {p : Program} {l : Launch} {e : Env} {R : Room} {s : State} {m : MethodId} {args : Array Value} {below : List Frame} {meth : Method} {c : Code} {cells slots : Nat} {Q : State → Prop} {D : va_G} {A : Nat → Prop} {cI cZ cG : ClassId} {q q_page q_worths q_kinds q_likes q_had q_plots q_row q_plotsThen q_rowThen q_traded q_points q_ringLong q_wishes q_order q_bestOrder q_sights q_ways q_keptKinds q_keptPlots q_keptRow q_keptHad q_keptWishes q_keptSights : Nat} {v_pageMany : Int32} {v_houses : Int32} {v_nights : Int32} {v_squaresRead : Int32} {v_front : Int32} {v_down : Int32} {v_frontThen : Int32} {v_downThen : Int32} {v_ringsMany : Int32} {v_wishesMany : Int32} {v_ordersDone : Int32} {v_seenMany : Int32} {v_seedNow : Int32} {v_keptSquare : Int32} {v_keptFront : Int32} {v_keptDown : Int32} {v_keptNights : Int32} {v_keptWishesMany : Int32} {v_keptSeen : Int32} {v_hash : Int64} {v_plots : (Nat → Int32)} {v_traded : (Nat → Int32)} {v_likes : (Nat → Int32)} {a1 : Int32} {N : Nat} {ρ : Int32} (X : CX p s m args c cX9_pointsTo 5 RX9 D (TY cI cZ cG) A) (hrm : RM R 1 22 cells slots) (ret : ∀ (pc : Nat) (H : Heap) (locs : List Loc) (ls : Array Slot), decode cX9_pointsTo pc = .ok (.ireturn, 1) → WD D A (kwX9_pointsTo cI cZ cG q q_page q_worths q_kinds q_likes q_had q_plots q_row q_plotsThen q_rowThen q_traded q_points q_ringLong q_wishes q_order q_bestOrder q_sights q_ways q_keptKinds q_keptPlots q_keptRow q_keptHad q_keptWishes q_keptSights v_pageMany v_houses v_nights v_squaresRead v_front v_down v_frontThen v_downThen v_ringsMany v_wishesMany v_ordersDone v_seenMany v_seedNow v_keptSquare v_keptFront v_keptDown v_keptNights v_keptWishesMany v_keptSeen v_hash v_plots v_traded v_likes) s.heap H locs → W p l e R s m args below meth c H locs cells slots Q (F0 m pc ls [.int ρ]))  : ∀ (n : Nat) (a : Int32 × Int32), lfix (fun (K : Int32 × Int32 → Option (Int32)) (a : Int32 × Int32) => fX9_pointsTo_4 N v_houses v_plots v_traded v_likes a1 (fun (l2 : Int32) (l3 : Int32) => K (l2, l3)) a.1 a.2) n a = some ρ → (fun (l2 : Int32) (l3 : Int32) => ∀ (H : Heap) (locs : List Loc) (ls : Array Slot), WD D A (kwX9_pointsTo cI cZ cG q q_page q_worths q_kinds q_likes q_had q_plots q_row q_plotsThen q_rowThen q_traded q_points q_ringLong q_wishes q_order q_bestOrder q_sights q_ways q_keptKinds q_keptPlots q_keptRow q_keptHad q_keptWishes q_keptSights v_pageMany v_houses v_nights v_squaresRead v_front v_down v_frontThen v_downThen v_ringsMany v_wishesMany v_ordersDone v_seenMany v_seedNow v_keptSquare v_keptFront v_keptDown v_keptNights v_keptWishesMany v_keptSeen v_hash v_plots v_traded v_likes) s.heap H locs → lv_has ls 5 [(0, .ref q), (1, .int a1), (2, .int l2), (3, .int l3)] → W p l e R s m args below meth c H locs cells slots Q (F0 m 4 ls [])) (a.1) (a.2) := by
  have hx := X.1.1
  have hb := X.1.2.1
  refine lfix_W (fun K hK a h => ?_)
  obtain ⟨l2, l3⟩ := a
  intro H locs ls hw hl
  have h : fX9_pointsTo_4 N v_houses v_plots v_traded v_likes a1 (fun (l2 : Int32) (l3 : Int32) => K (l2, l3)) l2 l3 = some ρ := h
  have hK_4 : ∀ (l2 : Int32) (l3 : Int32), (fun (l2 : Int32) (l3 : Int32) => K (l2, l3)) l2 l3 = some ρ → ∀ (H : Heap) (locs : List Loc) (ls : Array Slot), WD D A (kwX9_pointsTo cI cZ cG q q_page q_worths q_kinds q_likes q_had q_plots q_row q_plotsThen q_rowThen q_traded q_points q_ringLong q_wishes q_order q_bestOrder q_sights q_ways q_keptKinds q_keptPlots q_keptRow q_keptHad q_keptWishes q_keptSights v_pageMany v_houses v_nights v_squaresRead v_front v_down v_frontThen v_downThen v_ringsMany v_wishesMany v_ordersDone v_seenMany v_seedNow v_keptSquare v_keptFront v_keptDown v_keptNights v_keptWishesMany v_keptSeen v_hash v_plots v_traded v_likes) s.heap H locs → lv_has ls 5 [(0, .ref q), (1, .int a1), (2, .int l2), (3, .int l3)] → W p l e R s m args below meth c H locs cells slots Q (F0 m 4 ls []) := fun l2 l3 h => hK (l2, l3) h
  generalize (fun (l2 : Int32) (l3 : Int32) => K (l2, l3)) = K_4 at h hK_4
  have hw : WD D A (kwX9_pointsTo cI cZ cG q q_page q_worths q_kinds q_likes q_had q_plots q_row q_plotsThen q_rowThen q_traded q_points q_ringLong q_wishes q_order q_bestOrder q_sights q_ways q_keptKinds q_keptPlots q_keptRow q_keptHad q_keptWishes q_keptSights v_pageMany v_houses v_nights v_squaresRead v_front v_down v_frontThen v_downThen v_ringsMany v_wishesMany v_ordersDone v_seenMany v_seedNow v_keptSquare v_keptFront v_keptDown v_keptNights v_keptWishesMany v_keptSeen v_hash v_plots v_traded v_likes) s.heap H locs := hw
  have hl : lv_has ls 5 [(0, .ref q), (1, .int a1), (2, .int l2), (3, .int l3)] := hl
  unfold fX9_pointsTo_4 at h
  refine lv_iload_n hx hb dX9_pointsTo_4 rfl (lv_at hl 3 rfl) ?_
  refine lv_aload_n hx hb dX9_pointsTo_5 rfl (lv_at hl 0 rfl) ?_
  refine kget (ci := 9) (v := .int v_houses) X hw iX9 0 rfl rfl 2 (by decide) tw_625 rfl dX9_pointsTo_6 ?_
  refine lv_icmp_ge (tgt := 94) hx hb dX9_pointsTo_9 (by decide) (fun c_9 => ?_) (fun c_9 => ?_)
  · have h := ift c_9 h
    refine lv_iload_n hx hb dX9_pointsTo_94 rfl (lv_at hl 2 rfl) ?_
    obtain rfl := Option.some.inj h
    exact ret _ _ _ _ dX9_pointsTo_95 hw
  · have h := iff_ c_9 h
    refine lv_aload_n hx hb dX9_pointsTo_12 rfl (lv_at hl 0 rfl) ?_
    refine lv_iload_n hx hb dX9_pointsTo_13 rfl (lv_at hl 3 rfl) ?_
    obtain ⟨x_14, hc_14, h⟩ := obd h
    refine ksV_i (ws2 := (kwX9_pointsTo cI cZ cG q q_page q_worths q_kinds q_likes q_had q_plots q_row q_plotsThen q_rowThen q_traded q_points q_ringLong q_wishes q_order q_bestOrder q_sights q_ways q_keptKinds q_keptPlots q_keptRow q_keptHad q_keptWishes q_keptSights v_pageMany v_houses v_nights v_squaresRead v_front v_down v_frontThen v_downThen v_ringsMany v_wishesMany v_ordersDone v_seenMany v_seedNow v_keptSquare v_keptFront v_keptDown v_keptNights v_keptWishesMany v_keptSeen v_hash v_plots v_traded v_likes)) (nW := 4) (ci := 9) (As := [.int l3]) (rest := []) X hw rfl rfl rfl (cX9_isLeft_ct l D cI cZ cG q q_page q_worths q_kinds q_likes q_had q_plots q_row q_plotsThen q_rowThen q_traded q_points q_ringLong q_wishes q_order q_bestOrder q_sights q_ways q_keptKinds q_keptPlots q_keptRow q_keptHad q_keptWishes q_keptSights v_pageMany v_houses v_nights v_squaresRead v_front v_down v_frontThen v_downThen v_ringsMany v_wishesMany v_ordersDone v_seenMany v_seedNow v_keptSquare v_keptFront v_keptDown v_keptNights v_keptWishesMany v_keptSeen v_hash v_plots v_traded l3 N x_14 hc_14 H.size) mX9_isLeft tw_709 (hrm.call (by decide) (by decide)) [0, 1, 2] rfl (by decide) rfl (by decide) rfl ⟨rfl, trivial⟩ rfl hl.1 rfl (Nat.le_of_ble_eq_true rfl) dX9_pointsTo_14 ⟨hrm.2.2.1, hrm.2.2.2⟩ (fun H locs hw => ?_)
    refine lv_if_eq (tgt := 88) hx hb dX9_pointsTo_17 (by decide) (fun c_17 => ?_) (fun c_17 => ?_)
    · have h := ift c_17 h
      refine lv_iinc (v := (l3 + (1 : Int32))) (lv' := [(3, .int (l3 + (1 : Int32))), (0, .ref q), (1, .int a1), (2, .int l2)]) hx hb dX9_pointsTo_88 hl (k := 3) rfl (congrArg (l3 + ·) (by decide)) (by decide) rfl (fun ls hl => ?_)
      refine lv_goto (tgt := 4) hx hb dX9_pointsTo_91 (by decide) ?_
      exact hK_4 _ _ h _ _ _ hw (lv_sub hl [1, 2, 3, 0] rfl)
    · have h := iff_ c_17 h
      refine lv_bipush (v := (12 : Int32)) hx hb dX9_pointsTo_20 (by decide) ?_
      refine lv_aload_n hx hb dX9_pointsTo_22 rfl (lv_at hl 0 rfl) ?_
      refine kget (ci := 9) (v := .ref q_plots) X hw iX9 0 rfl rfl 9 (by decide) tw_635 rfl dX9_pointsTo_23 ?_
      refine lv_iload_n hx hb dX9_pointsTo_26 rfl (lv_at hl 3 rfl) ?_
      obtain ⟨g_27, h⟩ := gd h
      refine kiald X hw 1 rfl rfl g_27 dX9_pointsTo_27 ?_
      refine lv_aload_n hx hb dX9_pointsTo_28 rfl (lv_at hl 0 rfl) ?_
      refine kget (ci := 9) (v := .ref q_likes) X hw iX9 0 rfl rfl 7 (by decide) tw_633 rfl dX9_pointsTo_29 ?_
      refine lv_iload_n hx hb dX9_pointsTo_32 rfl (lv_at hl 1 rfl) ?_
      obtain ⟨g_33, h⟩ := gd h
      refine kiald X hw 3 rfl rfl g_33 dX9_pointsTo_33 ?_
      obtain ⟨x_34, hc_34, h⟩ := obd h
      refine ksS_i (ws2 := (kwX9_pointsTo cI cZ cG q q_page q_worths q_kinds q_likes q_had q_plots q_row q_plotsThen q_rowThen q_traded q_points q_ringLong q_wishes q_order q_bestOrder q_sights q_ways q_keptKinds q_keptPlots q_keptRow q_keptHad q_keptWishes q_keptSights v_pageMany v_houses v_nights v_squaresRead v_front v_down v_frontThen v_downThen v_ringsMany v_wishesMany v_ordersDone v_seenMany v_seedNow v_keptSquare v_keptFront v_keptDown v_keptNights v_keptWishesMany v_keptSeen v_hash v_plots v_traded v_likes)) (nW := 4) (As := [.int (v_plots (l3).toNatClampNeg), .int (v_likes (a1).toNatClampNeg)]) (rest := [.int (12 : Int32)]) X hw (cX9_round_ct l D cI cZ cG (v_plots (l3).toNatClampNeg) (v_likes (a1).toNatClampNeg) N x_34 hc_34 H.size) mX9_round tw_713 (hrm.call (by decide) (by decide)) [] rfl (by decide) rfl (by decide) rfl ⟨rfl, ⟨rfl, ⟨rfl, ⟨rfl, trivial⟩⟩⟩⟩ rfl hl.1 rfl (Nat.le_of_ble_eq_true rfl) dX9_pointsTo_34 ⟨hrm.2.2.1, hrm.2.2.2⟩ (fun H locs hw => ?_)
      refine lv_imul hx hb dX9_pointsTo_37 ?_
      refine lv_aload_n hx hb dX9_pointsTo_38 rfl (lv_at hl 0 rfl) ?_
      refine kget (ci := 9) (v := .ref q_plots) X hw iX9 0 rfl rfl 9 (by decide) tw_635 rfl dX9_pointsTo_39 ?_
      refine lv_iload_n hx hb dX9_pointsTo_42 rfl (lv_at hl 3 rfl) ?_
      obtain ⟨g_43, h⟩ := gd h
      refine kiald X hw 1 rfl rfl g_43 dX9_pointsTo_43 ?_
      refine lv_iadd hx hb dX9_pointsTo_44 ?_
      refine lv_istore (lv' := [(4, .int (((12 : Int32) * x_34) + (v_plots (l3).toNatClampNeg))), (0, .ref q), (1, .int a1), (2, .int l2), (3, .int l3)]) hx hb dX9_pointsTo_45 hl (by decide) rfl (fun ls hl => ?_)
      refine lv_iload_n hx hb dX9_pointsTo_47 rfl (lv_at hl 3 rfl) ?_
      refine lv_iconst (v := (-1 : Int32)) hx hb dX9_pointsTo_48 (by decide) ?_
      refine lv_icmp_eq (tgt := 82) hx hb dX9_pointsTo_49 (by decide) (fun c_49 => ?_) (fun c_49 => ?_)
      · have h := ift c_49 h
        refine lv_iload_n hx hb dX9_pointsTo_82 rfl (lv_at hl 4 rfl) ?_
        refine lv_goto (tgt := 87) hx hb dX9_pointsTo_83 (by decide) ?_
        refine lv_istore_n (lv' := [(2, .int l3), (4, .int (((12 : Int32) * x_34) + (v_plots (l3).toNatClampNeg))), (0, .ref q), (1, .int a1), (3, .int l3)]) hx hb dX9_pointsTo_87 rfl hl (by decide) rfl (fun ls hl => ?_)
        refine lv_iinc (v := (l3 + (1 : Int32))) (lv' := [(3, .int (l3 + (1 : Int32))), (2, .int l3), (4, .int (((12 : Int32) * x_34) + (v_plots (l3).toNatClampNeg))), (0, .ref q), (1, .int a1)]) hx hb dX9_pointsTo_88 hl (k := 4) rfl (congrArg (l3 + ·) (by decide)) (by decide) rfl (fun ls hl => ?_)
        refine lv_goto (tgt := 4) hx hb dX9_pointsTo_91 (by decide) ?_
        exact hK_4 _ _ h _ _ _ hw (lv_sub hl [3, 4, 1, 0] rfl)
      · have h := iff_ c_49 h
        refine lv_iload hx hb dX9_pointsTo_52 (lv_at hl 0 rfl) ?_
        refine lv_bipush (v := (12 : Int32)) hx hb dX9_pointsTo_54 (by decide) ?_
        refine lv_aload_n hx hb dX9_pointsTo_56 rfl (lv_at hl 1 rfl) ?_
        refine kget (ci := 9) (v := .ref q_plots) X hw iX9 0 rfl rfl 9 (by decide) tw_635 rfl dX9_pointsTo_57 ?_
        refine lv_iload_n hx hb dX9_pointsTo_60 rfl (lv_at hl 3 rfl) ?_
        obtain ⟨g_61, h⟩ := gd h
        refine kiald X hw 1 rfl rfl g_61 dX9_pointsTo_61 ?_
        refine lv_aload_n hx hb dX9_pointsTo_62 rfl (lv_at hl 1 rfl) ?_
        refine kget (ci := 9) (v := .ref q_likes) X hw iX9 0 rfl rfl 7 (by decide) tw_633 rfl dX9_pointsTo_63 ?_
        refine lv_iload_n hx hb dX9_pointsTo_66 rfl (lv_at hl 2 rfl) ?_
        obtain ⟨g_67, h⟩ := gd h
        refine kiald X hw 3 rfl rfl g_67 dX9_pointsTo_67 ?_
        obtain ⟨x_68, hc_68, h⟩ := obd h
        refine ksS_i (ws2 := (kwX9_pointsTo cI cZ cG q q_page q_worths q_kinds q_likes q_had q_plots q_row q_plotsThen q_rowThen q_traded q_points q_ringLong q_wishes q_order q_bestOrder q_sights q_ways q_keptKinds q_keptPlots q_keptRow q_keptHad q_keptWishes q_keptSights v_pageMany v_houses v_nights v_squaresRead v_front v_down v_frontThen v_downThen v_ringsMany v_wishesMany v_ordersDone v_seenMany v_seedNow v_keptSquare v_keptFront v_keptDown v_keptNights v_keptWishesMany v_keptSeen v_hash v_plots v_traded v_likes)) (nW := 4) (As := [.int (v_plots (l2).toNatClampNeg), .int (v_likes (a1).toNatClampNeg)]) (rest := [.int (12 : Int32), .int (((12 : Int32) * x_34) + (v_plots (l3).toNatClampNeg))]) X hw (cX9_round_ct l D cI cZ cG (v_plots (l2).toNatClampNeg) (v_likes (a1).toNatClampNeg) N x_68 hc_68 H.size) mX9_round tw_713 (hrm.call (by decide) (by decide)) [] rfl (by decide) rfl (by decide) rfl ⟨rfl, ⟨rfl, ⟨rfl, ⟨rfl, trivial⟩⟩⟩⟩ rfl hl.1 rfl (Nat.le_of_ble_eq_true rfl) dX9_pointsTo_68 ⟨hrm.2.2.1, hrm.2.2.2⟩ (fun H locs hw => ?_)
        refine lv_imul hx hb dX9_pointsTo_71 ?_
        refine lv_aload_n hx hb dX9_pointsTo_72 rfl (lv_at hl 1 rfl) ?_
        refine kget (ci := 9) (v := .ref q_plots) X hw iX9 0 rfl rfl 9 (by decide) tw_635 rfl dX9_pointsTo_73 ?_
        refine lv_iload_n hx hb dX9_pointsTo_76 rfl (lv_at hl 3 rfl) ?_
        obtain ⟨g_77, h⟩ := gd h
        refine kiald X hw 1 rfl rfl g_77 dX9_pointsTo_77 ?_
        refine lv_iadd hx hb dX9_pointsTo_78 ?_
        refine lv_icmp_ge (tgt := 86) hx hb dX9_pointsTo_79 (by decide) (fun c_79 => ?_) (fun c_79 => ?_)
        · have h := ift c_79 h
          refine lv_iload_n hx hb dX9_pointsTo_86 rfl (lv_at hl 3 rfl) ?_
          refine lv_istore_n (lv' := [(2, .int l2), (4, .int (((12 : Int32) * x_34) + (v_plots (l3).toNatClampNeg))), (0, .ref q), (1, .int a1), (3, .int l3)]) hx hb dX9_pointsTo_87 rfl hl (by decide) rfl (fun ls hl => ?_)
          refine lv_iinc (v := (l3 + (1 : Int32))) (lv' := [(3, .int (l3 + (1 : Int32))), (2, .int l2), (4, .int (((12 : Int32) * x_34) + (v_plots (l3).toNatClampNeg))), (0, .ref q), (1, .int a1)]) hx hb dX9_pointsTo_88 hl (k := 4) rfl (congrArg (l3 + ·) (by decide)) (by decide) rfl (fun ls hl => ?_)
          refine lv_goto (tgt := 4) hx hb dX9_pointsTo_91 (by decide) ?_
          exact hK_4 _ _ h _ _ _ hw (lv_sub hl [3, 4, 1, 0] rfl)
        · have h := iff_ c_79 h
          refine lv_iload_n hx hb dX9_pointsTo_82 rfl (lv_at hl 4 rfl) ?_
          refine lv_goto (tgt := 87) hx hb dX9_pointsTo_83 (by decide) ?_
          refine lv_istore_n (lv' := [(2, .int l3), (4, .int (((12 : Int32) * x_34) + (v_plots (l3).toNatClampNeg))), (0, .ref q), (1, .int a1), (3, .int l3)]) hx hb dX9_pointsTo_87 rfl hl (by decide) rfl (fun ls hl => ?_)
          refine lv_iinc (v := (l3 + (1 : Int32))) (lv' := [(3, .int (l3 + (1 : Int32))), (2, .int l3), (4, .int (((12 : Int32) * x_34) + (v_plots (l3).toNatClampNeg))), (0, .ref q), (1, .int a1)]) hx hb dX9_pointsTo_88 hl (k := 4) rfl (congrArg (l3 + ·) (by decide)) (by decide) rfl (fun ls hl => ?_)
          refine lv_goto (tgt := 4) hx hb dX9_pointsTo_91 (by decide) ?_
          exact hK_4 _ _ h _ _ _ hw (lv_sub hl [3, 4, 1, 0] rfl)
set_option maxHeartbeats 4000000 in
set_option maxRecDepth 100000 in
theorem wX9_pointsTo {p : Program} {l : Launch} {e : Env} {R : Room} {s : State} {m : MethodId} {args : Array Value} {below : List Frame} {meth : Method} {c : Code} {cells slots : Nat} {Q : State → Prop} {D : va_G} {A : Nat → Prop} {cI cZ cG : ClassId} {q q_page q_worths q_kinds q_likes q_had q_plots q_row q_plotsThen q_rowThen q_traded q_points q_ringLong q_wishes q_order q_bestOrder q_sights q_ways q_keptKinds q_keptPlots q_keptRow q_keptHad q_keptWishes q_keptSights : Nat} {v_pageMany : Int32} {v_houses : Int32} {v_nights : Int32} {v_squaresRead : Int32} {v_front : Int32} {v_down : Int32} {v_frontThen : Int32} {v_downThen : Int32} {v_ringsMany : Int32} {v_wishesMany : Int32} {v_ordersDone : Int32} {v_seenMany : Int32} {v_seedNow : Int32} {v_keptSquare : Int32} {v_keptFront : Int32} {v_keptDown : Int32} {v_keptNights : Int32} {v_keptWishesMany : Int32} {v_keptSeen : Int32} {v_hash : Int64} {v_plots : (Nat → Int32)} {v_traded : (Nat → Int32)} {v_likes : (Nat → Int32)} {a1 : Int32} {N : Nat} {ρ : Int32} (X : CX p s m args c cX9_pointsTo 5 RX9 D (TY cI cZ cG) A) (hrm : RM R 1 22 cells slots) (ret : ∀ (pc : Nat) (H : Heap) (locs : List Loc) (ls : Array Slot), decode cX9_pointsTo pc = .ok (.ireturn, 1) → WD D A (kwX9_pointsTo cI cZ cG q q_page q_worths q_kinds q_likes q_had q_plots q_row q_plotsThen q_rowThen q_traded q_points q_ringLong q_wishes q_order q_bestOrder q_sights q_ways q_keptKinds q_keptPlots q_keptRow q_keptHad q_keptWishes q_keptSights v_pageMany v_houses v_nights v_squaresRead v_front v_down v_frontThen v_downThen v_ringsMany v_wishesMany v_ordersDone v_seenMany v_seedNow v_keptSquare v_keptFront v_keptDown v_keptNights v_keptWishesMany v_keptSeen v_hash v_plots v_traded v_likes) s.heap H locs → W p l e R s m args below meth c H locs cells slots Q (F0 m pc ls [.int ρ])) (h : fX9_pointsTo N v_houses v_plots v_traded v_likes a1   = some ρ) (H : Heap) (locs : List Loc) (ls : Array Slot) (hw : WD D A (kwX9_pointsTo cI cZ cG q q_page q_worths q_kinds q_likes q_had q_plots q_row q_plotsThen q_rowThen q_traded q_points q_ringLong q_wishes q_order q_bestOrder q_sights q_ways q_keptKinds q_keptPlots q_keptRow q_keptHad q_keptWishes q_keptSights v_pageMany v_houses v_nights v_squaresRead v_front v_down v_frontThen v_downThen v_ringsMany v_wishesMany v_ordersDone v_seenMany v_seedNow v_keptSquare v_keptFront v_keptDown v_keptNights v_keptWishesMany v_keptSeen v_hash v_plots v_traded v_likes) s.heap H locs) (hl : lv_has ls 5 [(0, .ref q), (1, .int a1)]) : W p l e R s m args below meth c H locs cells slots Q (F0 m 0 ls []) := by
  have hx := X.1.1
  have hb := X.1.2.1
  unfold fX9_pointsTo at h
  refine lv_iconst (v := (-1 : Int32)) hx hb dX9_pointsTo_0 (by decide) ?_
  refine lv_istore_n (lv' := [(2, .int (-1 : Int32)), (0, .ref q), (1, .int a1)]) hx hb dX9_pointsTo_1 rfl hl (by decide) rfl (fun ls hl => ?_)
  refine lv_iconst (v := (0 : Int32)) hx hb dX9_pointsTo_2 (by decide) ?_
  refine lv_istore_n (lv' := [(3, .int (0 : Int32)), (2, .int (-1 : Int32)), (0, .ref q), (1, .int a1)]) hx hb dX9_pointsTo_3 rfl hl (by decide) rfl (fun ls hl => ?_)
  exact wX9_pointsTo_4 X hrm ret  _ _ h _ _ _ hw (lv_sub hl [2, 3, 1, 0] rfl)
set_option maxHeartbeats 4000000 in
set_option maxRecDepth 100000 in
theorem cX9_pointsTo_ct (l : Launch) (D : va_G) (cI cZ cG : ClassId) (q q_page q_worths q_kinds q_likes q_had q_plots q_row q_plotsThen q_rowThen q_traded q_points q_ringLong q_wishes q_order q_bestOrder q_sights q_ways q_keptKinds q_keptPlots q_keptRow q_keptHad q_keptWishes q_keptSights : Nat)  (v_pageMany : Int32) (v_houses : Int32) (v_nights : Int32) (v_squaresRead : Int32) (v_front : Int32) (v_down : Int32) (v_frontThen : Int32) (v_downThen : Int32) (v_ringsMany : Int32) (v_wishesMany : Int32) (v_ordersDone : Int32) (v_seenMany : Int32) (v_seedNow : Int32) (v_keptSquare : Int32) (v_keptFront : Int32) (v_keptDown : Int32) (v_keptNights : Int32) (v_keptWishesMany : Int32) (v_keptSeen : Int32) (v_hash : Int64) (v_plots : (Nat → Int32)) (v_traded : (Nat → Int32)) (v_likes : (Nat → Int32)) (a1 : Int32) (N : Nat) (ρ : Int32) (h : fX9_pointsTo N v_houses v_plots v_traded v_likes a1   = some ρ) (sz : Nat) : Met l yX9_pointsTo (wz yX9_pointsTo cX9_pointsTo 5 (some .int)) (cRm 1 22) (cPre D (TY cI cZ cG) [.ref q, .int a1] (kwX9_pointsTo cI cZ cG q q_page q_worths q_kinds q_likes q_had q_plots q_row q_plotsThen q_rowThen q_traded q_points q_ringLong q_wishes q_order q_bestOrder q_sights q_ways q_keptKinds q_keptPlots q_keptRow q_keptHad q_keptWishes q_keptSights v_pageMany v_houses v_nights v_squaresRead v_front v_down v_frontThen v_downThen v_ringsMany v_wishesMany v_ordersDone v_seenMany v_seedNow v_keptSquare v_keptFront v_keptDown v_keptNights v_keptWishesMany v_keptSeen v_hash v_plots v_traded v_likes) sz) (cQi D (ρ) (kwX9_pointsTo cI cZ cG q q_page q_worths q_kinds q_likes q_had q_plots q_row q_plotsThen q_rowThen q_traded q_points q_ringLong q_wishes q_order q_bestOrder q_sights q_ways q_keptKinds q_keptPlots q_keptRow q_keptHad q_keptWishes q_keptSights v_pageMany v_houses v_nights v_squaresRead v_front v_down v_frontThen v_downThen v_ringsMany v_wishesMany v_ordersDone v_seenMany v_seedNow v_keptSquare v_keptFront v_keptDown v_keptNights v_keptWishesMany v_keptSeen v_hash v_plots v_traded v_likes) (kwX9_pointsTo cI cZ cG q q_page q_worths q_kinds q_likes q_had q_plots q_row q_plotsThen q_rowThen q_traded q_points q_ringLong q_wishes q_order q_bestOrder q_sights q_ways q_keptKinds q_keptPlots q_keptRow q_keptHad q_keptWishes q_keptSights v_pageMany v_houses v_nights v_squaresRead v_front v_down v_frontThen v_downThen v_ringsMany v_wishesMany v_ordersDone v_seenMany v_seedNow v_keptSquare v_keptFront v_keptDown v_keptNights v_keptWishesMany v_keptSeen v_hash v_plots v_traded v_likes) sz) 0 0 (va_A (kwX9_pointsTo cI cZ cG q q_page q_worths q_kinds q_likes q_had q_plots q_row q_plotsThen q_rowThen q_traded q_points q_ringLong q_wishes q_order q_bestOrder q_sights q_ways q_keptKinds q_keptPlots q_keptRow q_keptHad q_keptWishes q_keptSights v_pageMany v_houses v_nights v_squaresRead v_front v_down v_frontThen v_downThen v_ringsMany v_wishesMany v_ordersDone v_seenMany v_seedNow v_keptSquare v_keptFront v_keptDown v_keptNights v_keptWishesMany v_keptSeen v_hash v_plots v_traded v_likes) sz) :=
  mk_i (by decide) (Nat.le_of_ble_eq_true rfl) (fun X hrm ret hw hl => wX9_pointsTo X hrm ret h _ _ _ hw hl)
theorem dX9_ringOf_0 : decode cX9_ringOf 0 = .ok (.aload_n 0, 1) := by decide +kernel
theorem dX9_ringOf_1 : decode cX9_ringOf 1 = .ok (.getfield 40, 3) := by decide +kernel
theorem dX9_ringOf_4 : decode cX9_ringOf 4 = .ok (.iload_n 1, 1) := by decide +kernel
theorem dX9_ringOf_5 : decode cX9_ringOf 5 = .ok (.iaload, 1) := by decide +kernel
theorem dX9_ringOf_6 : decode cX9_ringOf 6 = .ok (.istore_n 2, 1) := by decide +kernel
theorem dX9_ringOf_7 : decode cX9_ringOf 7 = .ok (.iconst 1, 1) := by decide +kernel
theorem dX9_ringOf_8 : decode cX9_ringOf 8 = .ok (.istore_n 3, 1) := by decide +kernel
theorem dX9_ringOf_9 : decode cX9_ringOf 9 = .ok (.iload_n 2, 1) := by decide +kernel
theorem dX9_ringOf_10 : decode cX9_ringOf 10 = .ok (.iload_n 1, 1) := by decide +kernel
theorem dX9_ringOf_11 : decode cX9_ringOf 11 = .ok (.if_icmp .eq 22, 3) := by decide +kernel
theorem dX9_ringOf_14 : decode cX9_ringOf 14 = .ok (.iload_n 3, 1) := by decide +kernel
theorem dX9_ringOf_15 : decode cX9_ringOf 15 = .ok (.bipush 7, 2) := by decide +kernel
theorem dX9_ringOf_17 : decode cX9_ringOf 17 = .ok (.if_icmp .ge 16, 3) := by decide +kernel
theorem dX9_ringOf_20 : decode cX9_ringOf 20 = .ok (.aload_n 0, 1) := by decide +kernel
theorem dX9_ringOf_21 : decode cX9_ringOf 21 = .ok (.getfield 40, 3) := by decide +kernel
theorem dX9_ringOf_24 : decode cX9_ringOf 24 = .ok (.iload_n 2, 1) := by decide +kernel
theorem dX9_ringOf_25 : decode cX9_ringOf 25 = .ok (.iaload, 1) := by decide +kernel
theorem dX9_ringOf_26 : decode cX9_ringOf 26 = .ok (.istore_n 2, 1) := by decide +kernel
theorem dX9_ringOf_27 : decode cX9_ringOf 27 = .ok (.iinc 3 1, 3) := by decide +kernel
theorem dX9_ringOf_30 : decode cX9_ringOf 30 = .ok (.goto (-21), 3) := by decide +kernel
theorem dX9_ringOf_33 : decode cX9_ringOf 33 = .ok (.iload_n 2, 1) := by decide +kernel
theorem dX9_ringOf_34 : decode cX9_ringOf 34 = .ok (.iload_n 1, 1) := by decide +kernel
theorem dX9_ringOf_35 : decode cX9_ringOf 35 = .ok (.if_icmp .ne 7, 3) := by decide +kernel
theorem dX9_ringOf_38 : decode cX9_ringOf 38 = .ok (.iload_n 3, 1) := by decide +kernel
theorem dX9_ringOf_39 : decode cX9_ringOf 39 = .ok (.goto 4, 3) := by decide +kernel
theorem dX9_ringOf_42 : decode cX9_ringOf 42 = .ok (.iconst 0, 1) := by decide +kernel
theorem dX9_ringOf_43 : decode cX9_ringOf 43 = .ok (.ireturn, 1) := by decide +kernel
abbrev kwX9_ringOf (cI cZ cG : ClassId) (q q_page q_worths q_kinds q_likes q_had q_plots q_row q_plotsThen q_rowThen q_traded q_points q_ringLong q_wishes q_order q_bestOrder q_sights q_ways q_keptKinds q_keptPlots q_keptRow q_keptHad q_keptWishes q_keptSights : Nat) (v_pageMany : Int32) (v_houses : Int32) (v_nights : Int32) (v_squaresRead : Int32) (v_front : Int32) (v_down : Int32) (v_frontThen : Int32) (v_downThen : Int32) (v_ringsMany : Int32) (v_wishesMany : Int32) (v_ordersDone : Int32) (v_seenMany : Int32) (v_seedNow : Int32) (v_keptSquare : Int32) (v_keptFront : Int32) (v_keptDown : Int32) (v_keptNights : Int32) (v_keptWishesMany : Int32) (v_keptSeen : Int32) (v_hash : Int64) (v_points : (Nat → Int32)) : va_W := [(q, .inr (9, [.ref q_page, .int v_pageMany, .int v_houses, .int v_nights, .int v_squaresRead, .ref q_worths, .ref q_kinds, .ref q_likes, .ref q_had, .ref q_plots, .ref q_row, .int v_front, .int v_down, .ref q_plotsThen, .ref q_rowThen, .int v_frontThen, .int v_downThen, .ref q_traded, .ref q_points, .int v_ringsMany, .ref q_ringLong, .int v_wishesMany, .ref q_wishes, .int v_ordersDone, .ref q_order, .ref q_bestOrder, .int v_seenMany, .ref q_sights, .ref q_ways, .int v_seedNow, .int v_keptSquare, .int v_keptFront, .int v_keptDown, .int v_keptNights, .int v_keptWishesMany, .int v_keptSeen, .ref q_keptKinds, .ref q_keptPlots, .ref q_keptRow, .ref q_keptHad, .ref q_keptWishes, .ref q_keptSights, .long v_hash])), (q_points, .inl (cI, 6, .inl v_points))]
noncomputable def fX9_ringOf_9 (N : Nat) (v_points : (Nat → Int32)) (a1 : Int32)  (K_9 : Int32 → Int32 → Option (Int32)) (l2 : Int32) (l3 : Int32) : Option (Int32) := if l2 = a1 then (if l2 = a1 then (some l3) else (some (0 : Int32))) else (if (7 : Int32) ≤ l3 then (if l2 = a1 then (some l3) else (some (0 : Int32))) else (if l2 < 0 ∨ 6 ≤ (l2).toNatClampNeg then none else (K_9 (v_points (l2).toNatClampNeg) (l3 + (1 : Int32)))))
noncomputable def fX9_ringOf (N : Nat) (v_points : (Nat → Int32)) (a1 : Int32)   : Option (Int32) := if a1 < 0 ∨ 6 ≤ (a1).toNatClampNeg then none else (lfix (fun (K : Int32 × Int32 → Option (Int32)) (a : Int32 × Int32) => fX9_ringOf_9 N v_points a1 (fun (l2 : Int32) (l3 : Int32) => K (l2, l3)) a.1 a.2) N ((v_points (a1).toNatClampNeg), (1 : Int32)))
set_option maxHeartbeats 4000000 in
set_option maxRecDepth 100000 in
theorem wX9_ringOf_9 {p : Program} {l : Launch} {e : Env} {R : Room} {s : State} {m : MethodId} {args : Array Value} {below : List Frame} {meth : Method} {c : Code} {cells slots : Nat} {Q : State → Prop} {D : va_G} {A : Nat → Prop} {cI cZ cG : ClassId} {q q_page q_worths q_kinds q_likes q_had q_plots q_row q_plotsThen q_rowThen q_traded q_points q_ringLong q_wishes q_order q_bestOrder q_sights q_ways q_keptKinds q_keptPlots q_keptRow q_keptHad q_keptWishes q_keptSights : Nat} {v_pageMany : Int32} {v_houses : Int32} {v_nights : Int32} {v_squaresRead : Int32} {v_front : Int32} {v_down : Int32} {v_frontThen : Int32} {v_downThen : Int32} {v_ringsMany : Int32} {v_wishesMany : Int32} {v_ordersDone : Int32} {v_seenMany : Int32} {v_seedNow : Int32} {v_keptSquare : Int32} {v_keptFront : Int32} {v_keptDown : Int32} {v_keptNights : Int32} {v_keptWishesMany : Int32} {v_keptSeen : Int32} {v_hash : Int64} {v_points : (Nat → Int32)} {a1 : Int32} {N : Nat} {ρ : Int32} (X : CX p s m args c cX9_ringOf 4 RX9 D (TY cI cZ cG) A) (hrm : RM R 0 0 cells slots) (ret : ∀ (pc : Nat) (H : Heap) (locs : List Loc) (ls : Array Slot), decode cX9_ringOf pc = .ok (.ireturn, 1) → WD D A (kwX9_ringOf cI cZ cG q q_page q_worths q_kinds q_likes q_had q_plots q_row q_plotsThen q_rowThen q_traded q_points q_ringLong q_wishes q_order q_bestOrder q_sights q_ways q_keptKinds q_keptPlots q_keptRow q_keptHad q_keptWishes q_keptSights v_pageMany v_houses v_nights v_squaresRead v_front v_down v_frontThen v_downThen v_ringsMany v_wishesMany v_ordersDone v_seenMany v_seedNow v_keptSquare v_keptFront v_keptDown v_keptNights v_keptWishesMany v_keptSeen v_hash v_points) s.heap H locs → W p l e R s m args below meth c H locs cells slots Q (F0 m pc ls [.int ρ]))  : ∀ (n : Nat) (a : Int32 × Int32), lfix (fun (K : Int32 × Int32 → Option (Int32)) (a : Int32 × Int32) => fX9_ringOf_9 N v_points a1 (fun (l2 : Int32) (l3 : Int32) => K (l2, l3)) a.1 a.2) n a = some ρ → (fun (l2 : Int32) (l3 : Int32) => ∀ (H : Heap) (locs : List Loc) (ls : Array Slot), WD D A (kwX9_ringOf cI cZ cG q q_page q_worths q_kinds q_likes q_had q_plots q_row q_plotsThen q_rowThen q_traded q_points q_ringLong q_wishes q_order q_bestOrder q_sights q_ways q_keptKinds q_keptPlots q_keptRow q_keptHad q_keptWishes q_keptSights v_pageMany v_houses v_nights v_squaresRead v_front v_down v_frontThen v_downThen v_ringsMany v_wishesMany v_ordersDone v_seenMany v_seedNow v_keptSquare v_keptFront v_keptDown v_keptNights v_keptWishesMany v_keptSeen v_hash v_points) s.heap H locs → lv_has ls 4 [(0, .ref q), (1, .int a1), (2, .int l2), (3, .int l3)] → W p l e R s m args below meth c H locs cells slots Q (F0 m 9 ls [])) (a.1) (a.2) := by
  have hx := X.1.1
  have hb := X.1.2.1
  refine lfix_W (fun K hK a h => ?_)
  obtain ⟨l2, l3⟩ := a
  intro H locs ls hw hl
  have h : fX9_ringOf_9 N v_points a1 (fun (l2 : Int32) (l3 : Int32) => K (l2, l3)) l2 l3 = some ρ := h
  have hK_9 : ∀ (l2 : Int32) (l3 : Int32), (fun (l2 : Int32) (l3 : Int32) => K (l2, l3)) l2 l3 = some ρ → ∀ (H : Heap) (locs : List Loc) (ls : Array Slot), WD D A (kwX9_ringOf cI cZ cG q q_page q_worths q_kinds q_likes q_had q_plots q_row q_plotsThen q_rowThen q_traded q_points q_ringLong q_wishes q_order q_bestOrder q_sights q_ways q_keptKinds q_keptPlots q_keptRow q_keptHad q_keptWishes q_keptSights v_pageMany v_houses v_nights v_squaresRead v_front v_down v_frontThen v_downThen v_ringsMany v_wishesMany v_ordersDone v_seenMany v_seedNow v_keptSquare v_keptFront v_keptDown v_keptNights v_keptWishesMany v_keptSeen v_hash v_points) s.heap H locs → lv_has ls 4 [(0, .ref q), (1, .int a1), (2, .int l2), (3, .int l3)] → W p l e R s m args below meth c H locs cells slots Q (F0 m 9 ls []) := fun l2 l3 h => hK (l2, l3) h
  generalize (fun (l2 : Int32) (l3 : Int32) => K (l2, l3)) = K_9 at h hK_9
  have hw : WD D A (kwX9_ringOf cI cZ cG q q_page q_worths q_kinds q_likes q_had q_plots q_row q_plotsThen q_rowThen q_traded q_points q_ringLong q_wishes q_order q_bestOrder q_sights q_ways q_keptKinds q_keptPlots q_keptRow q_keptHad q_keptWishes q_keptSights v_pageMany v_houses v_nights v_squaresRead v_front v_down v_frontThen v_downThen v_ringsMany v_wishesMany v_ordersDone v_seenMany v_seedNow v_keptSquare v_keptFront v_keptDown v_keptNights v_keptWishesMany v_keptSeen v_hash v_points) s.heap H locs := hw
  have hl : lv_has ls 4 [(0, .ref q), (1, .int a1), (2, .int l2), (3, .int l3)] := hl
  unfold fX9_ringOf_9 at h
  refine lv_iload_n hx hb dX9_ringOf_9 rfl (lv_at hl 2 rfl) ?_
  refine lv_iload_n hx hb dX9_ringOf_10 rfl (lv_at hl 1 rfl) ?_
  refine lv_icmp_eq (tgt := 33) hx hb dX9_ringOf_11 (by decide) (fun c_11 => ?_) (fun c_11 => ?_)
  · have h := ift c_11 h
    refine lv_iload_n hx hb dX9_ringOf_33 rfl (lv_at hl 2 rfl) ?_
    refine lv_iload_n hx hb dX9_ringOf_34 rfl (lv_at hl 1 rfl) ?_
    refine lv_icmp_ne (tgt := 42) hx hb dX9_ringOf_35 (by decide) (fun c_35 => ?_) (fun c_35 => ?_)
    · have h := iff_ c_35 h
      refine lv_iconst (v := (0 : Int32)) hx hb dX9_ringOf_42 (by decide) ?_
      obtain rfl := Option.some.inj h
      exact ret _ _ _ _ dX9_ringOf_43 hw
    · have h := ift c_35 h
      refine lv_iload_n hx hb dX9_ringOf_38 rfl (lv_at hl 3 rfl) ?_
      refine lv_goto (tgt := 43) hx hb dX9_ringOf_39 (by decide) ?_
      obtain rfl := Option.some.inj h
      exact ret _ _ _ _ dX9_ringOf_43 hw
  · have h := iff_ c_11 h
    refine lv_iload_n hx hb dX9_ringOf_14 rfl (lv_at hl 3 rfl) ?_
    refine lv_bipush (v := (7 : Int32)) hx hb dX9_ringOf_15 (by decide) ?_
    refine lv_icmp_ge (tgt := 33) hx hb dX9_ringOf_17 (by decide) (fun c_17 => ?_) (fun c_17 => ?_)
    · have h := ift c_17 h
      refine lv_iload_n hx hb dX9_ringOf_33 rfl (lv_at hl 2 rfl) ?_
      refine lv_iload_n hx hb dX9_ringOf_34 rfl (lv_at hl 1 rfl) ?_
      refine lv_icmp_ne (tgt := 42) hx hb dX9_ringOf_35 (by decide) (fun c_35 => ?_) (fun c_35 => ?_)
      · have h := iff_ c_35 h
        refine lv_iconst (v := (0 : Int32)) hx hb dX9_ringOf_42 (by decide) ?_
        obtain rfl := Option.some.inj h
        exact ret _ _ _ _ dX9_ringOf_43 hw
      · have h := ift c_35 h
        refine lv_iload_n hx hb dX9_ringOf_38 rfl (lv_at hl 3 rfl) ?_
        refine lv_goto (tgt := 43) hx hb dX9_ringOf_39 (by decide) ?_
        obtain rfl := Option.some.inj h
        exact ret _ _ _ _ dX9_ringOf_43 hw
    · have h := iff_ c_17 h
      refine lv_aload_n hx hb dX9_ringOf_20 rfl (lv_at hl 0 rfl) ?_
      refine kget (ci := 9) (v := .ref q_points) X hw iX9 0 rfl rfl 18 (by decide) tw_717 rfl dX9_ringOf_21 ?_
      refine lv_iload_n hx hb dX9_ringOf_24 rfl (lv_at hl 2 rfl) ?_
      obtain ⟨g_25, h⟩ := gd h
      refine kiald X hw 1 rfl rfl g_25 dX9_ringOf_25 ?_
      refine lv_istore_n (lv' := [(2, .int (v_points (l2).toNatClampNeg)), (0, .ref q), (1, .int a1), (3, .int l3)]) hx hb dX9_ringOf_26 rfl hl (by decide) rfl (fun ls hl => ?_)
      refine lv_iinc (v := (l3 + (1 : Int32))) (lv' := [(3, .int (l3 + (1 : Int32))), (2, .int (v_points (l2).toNatClampNeg)), (0, .ref q), (1, .int a1)]) hx hb dX9_ringOf_27 hl (k := 3) rfl (congrArg (l3 + ·) (by decide)) (by decide) rfl (fun ls hl => ?_)
      refine lv_goto (tgt := 9) hx hb dX9_ringOf_30 (by decide) ?_
      exact hK_9 _ _ h _ _ _ hw (lv_sub hl [2, 3, 1, 0] rfl)
set_option maxHeartbeats 4000000 in
set_option maxRecDepth 100000 in
theorem wX9_ringOf {p : Program} {l : Launch} {e : Env} {R : Room} {s : State} {m : MethodId} {args : Array Value} {below : List Frame} {meth : Method} {c : Code} {cells slots : Nat} {Q : State → Prop} {D : va_G} {A : Nat → Prop} {cI cZ cG : ClassId} {q q_page q_worths q_kinds q_likes q_had q_plots q_row q_plotsThen q_rowThen q_traded q_points q_ringLong q_wishes q_order q_bestOrder q_sights q_ways q_keptKinds q_keptPlots q_keptRow q_keptHad q_keptWishes q_keptSights : Nat} {v_pageMany : Int32} {v_houses : Int32} {v_nights : Int32} {v_squaresRead : Int32} {v_front : Int32} {v_down : Int32} {v_frontThen : Int32} {v_downThen : Int32} {v_ringsMany : Int32} {v_wishesMany : Int32} {v_ordersDone : Int32} {v_seenMany : Int32} {v_seedNow : Int32} {v_keptSquare : Int32} {v_keptFront : Int32} {v_keptDown : Int32} {v_keptNights : Int32} {v_keptWishesMany : Int32} {v_keptSeen : Int32} {v_hash : Int64} {v_points : (Nat → Int32)} {a1 : Int32} {N : Nat} {ρ : Int32} (X : CX p s m args c cX9_ringOf 4 RX9 D (TY cI cZ cG) A) (hrm : RM R 0 0 cells slots) (ret : ∀ (pc : Nat) (H : Heap) (locs : List Loc) (ls : Array Slot), decode cX9_ringOf pc = .ok (.ireturn, 1) → WD D A (kwX9_ringOf cI cZ cG q q_page q_worths q_kinds q_likes q_had q_plots q_row q_plotsThen q_rowThen q_traded q_points q_ringLong q_wishes q_order q_bestOrder q_sights q_ways q_keptKinds q_keptPlots q_keptRow q_keptHad q_keptWishes q_keptSights v_pageMany v_houses v_nights v_squaresRead v_front v_down v_frontThen v_downThen v_ringsMany v_wishesMany v_ordersDone v_seenMany v_seedNow v_keptSquare v_keptFront v_keptDown v_keptNights v_keptWishesMany v_keptSeen v_hash v_points) s.heap H locs → W p l e R s m args below meth c H locs cells slots Q (F0 m pc ls [.int ρ])) (h : fX9_ringOf N v_points a1   = some ρ) (H : Heap) (locs : List Loc) (ls : Array Slot) (hw : WD D A (kwX9_ringOf cI cZ cG q q_page q_worths q_kinds q_likes q_had q_plots q_row q_plotsThen q_rowThen q_traded q_points q_ringLong q_wishes q_order q_bestOrder q_sights q_ways q_keptKinds q_keptPlots q_keptRow q_keptHad q_keptWishes q_keptSights v_pageMany v_houses v_nights v_squaresRead v_front v_down v_frontThen v_downThen v_ringsMany v_wishesMany v_ordersDone v_seenMany v_seedNow v_keptSquare v_keptFront v_keptDown v_keptNights v_keptWishesMany v_keptSeen v_hash v_points) s.heap H locs) (hl : lv_has ls 4 [(0, .ref q), (1, .int a1)]) : W p l e R s m args below meth c H locs cells slots Q (F0 m 0 ls []) := by
  have hx := X.1.1
  have hb := X.1.2.1
  unfold fX9_ringOf at h
  refine lv_aload_n hx hb dX9_ringOf_0 rfl (lv_at hl 0 rfl) ?_
  refine kget (ci := 9) (v := .ref q_points) X hw iX9 0 rfl rfl 18 (by decide) tw_717 rfl dX9_ringOf_1 ?_
  refine lv_iload_n hx hb dX9_ringOf_4 rfl (lv_at hl 1 rfl) ?_
  obtain ⟨g_5, h⟩ := gd h
  refine kiald X hw 1 rfl rfl g_5 dX9_ringOf_5 ?_
  refine lv_istore_n (lv' := [(2, .int (v_points (a1).toNatClampNeg)), (0, .ref q), (1, .int a1)]) hx hb dX9_ringOf_6 rfl hl (by decide) rfl (fun ls hl => ?_)
  refine lv_iconst (v := (1 : Int32)) hx hb dX9_ringOf_7 (by decide) ?_
  refine lv_istore_n (lv' := [(3, .int (1 : Int32)), (2, .int (v_points (a1).toNatClampNeg)), (0, .ref q), (1, .int a1)]) hx hb dX9_ringOf_8 rfl hl (by decide) rfl (fun ls hl => ?_)
  exact wX9_ringOf_9 X hrm ret  _ _ h _ _ _ hw (lv_sub hl [2, 3, 1, 0] rfl)
set_option maxHeartbeats 4000000 in
set_option maxRecDepth 100000 in
theorem cX9_ringOf_ct (l : Launch) (D : va_G) (cI cZ cG : ClassId) (q q_page q_worths q_kinds q_likes q_had q_plots q_row q_plotsThen q_rowThen q_traded q_points q_ringLong q_wishes q_order q_bestOrder q_sights q_ways q_keptKinds q_keptPlots q_keptRow q_keptHad q_keptWishes q_keptSights : Nat)  (v_pageMany : Int32) (v_houses : Int32) (v_nights : Int32) (v_squaresRead : Int32) (v_front : Int32) (v_down : Int32) (v_frontThen : Int32) (v_downThen : Int32) (v_ringsMany : Int32) (v_wishesMany : Int32) (v_ordersDone : Int32) (v_seenMany : Int32) (v_seedNow : Int32) (v_keptSquare : Int32) (v_keptFront : Int32) (v_keptDown : Int32) (v_keptNights : Int32) (v_keptWishesMany : Int32) (v_keptSeen : Int32) (v_hash : Int64) (v_points : (Nat → Int32)) (a1 : Int32) (N : Nat) (ρ : Int32) (h : fX9_ringOf N v_points a1   = some ρ) (sz : Nat) : Met l yX9_ringOf (wz yX9_ringOf cX9_ringOf 4 (some .int)) (cRm 0 0) (cPre D (TY cI cZ cG) [.ref q, .int a1] (kwX9_ringOf cI cZ cG q q_page q_worths q_kinds q_likes q_had q_plots q_row q_plotsThen q_rowThen q_traded q_points q_ringLong q_wishes q_order q_bestOrder q_sights q_ways q_keptKinds q_keptPlots q_keptRow q_keptHad q_keptWishes q_keptSights v_pageMany v_houses v_nights v_squaresRead v_front v_down v_frontThen v_downThen v_ringsMany v_wishesMany v_ordersDone v_seenMany v_seedNow v_keptSquare v_keptFront v_keptDown v_keptNights v_keptWishesMany v_keptSeen v_hash v_points) sz) (cQi D (ρ) (kwX9_ringOf cI cZ cG q q_page q_worths q_kinds q_likes q_had q_plots q_row q_plotsThen q_rowThen q_traded q_points q_ringLong q_wishes q_order q_bestOrder q_sights q_ways q_keptKinds q_keptPlots q_keptRow q_keptHad q_keptWishes q_keptSights v_pageMany v_houses v_nights v_squaresRead v_front v_down v_frontThen v_downThen v_ringsMany v_wishesMany v_ordersDone v_seenMany v_seedNow v_keptSquare v_keptFront v_keptDown v_keptNights v_keptWishesMany v_keptSeen v_hash v_points) (kwX9_ringOf cI cZ cG q q_page q_worths q_kinds q_likes q_had q_plots q_row q_plotsThen q_rowThen q_traded q_points q_ringLong q_wishes q_order q_bestOrder q_sights q_ways q_keptKinds q_keptPlots q_keptRow q_keptHad q_keptWishes q_keptSights v_pageMany v_houses v_nights v_squaresRead v_front v_down v_frontThen v_downThen v_ringsMany v_wishesMany v_ordersDone v_seenMany v_seedNow v_keptSquare v_keptFront v_keptDown v_keptNights v_keptWishesMany v_keptSeen v_hash v_points) sz) 0 0 (va_A (kwX9_ringOf cI cZ cG q q_page q_worths q_kinds q_likes q_had q_plots q_row q_plotsThen q_rowThen q_traded q_points q_ringLong q_wishes q_order q_bestOrder q_sights q_ways q_keptKinds q_keptPlots q_keptRow q_keptHad q_keptWishes q_keptSights v_pageMany v_houses v_nights v_squaresRead v_front v_down v_frontThen v_downThen v_ringsMany v_wishesMany v_ordersDone v_seenMany v_seedNow v_keptSquare v_keptFront v_keptDown v_keptNights v_keptWishesMany v_keptSeen v_hash v_points) sz) :=
  mk_i (by decide) (Nat.le_of_ble_eq_true rfl) (fun X hrm ret hw hl => wX9_ringOf X hrm ret h _ _ _ hw hl)
