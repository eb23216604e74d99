theorem dX8_square_0 : decode cX8_square 0 = .ok (.aload_n 0, 1) := by decide +kernel
theorem dX8_square_1 : decode cX8_square 1 = .ok (.getfield 10, 3) := by decide +kernel
theorem dX8_square_4 : decode cX8_square 4 = .ok (.invokevirtual 73, 3) := by decide +kernel
theorem dX8_square_7 : decode cX8_square 7 = .ok (.ifCond .ne 6, 3) := by decide +kernel
theorem dX8_square_10 : decode cX8_square 10 = .ok (.bipush (-103), 2) := by decide +kernel
theorem dX8_square_12 : decode cX8_square 12 = .ok (.ireturn, 1) := by decide +kernel
theorem dX8_square_13 : decode cX8_square 13 = .ok (.aload_n 0, 1) := by decide +kernel
theorem dX8_square_14 : decode cX8_square 14 = .ok (.getfield 19, 3) := by decide +kernel
theorem dX8_square_17 : decode cX8_square 17 = .ok (.aload_n 0, 1) := by decide +kernel
theorem dX8_square_18 : decode cX8_square 18 = .ok (.getfield 10, 3) := by decide +kernel
theorem dX8_square_21 : decode cX8_square 21 = .ok (.invokevirtual 77, 3) := by decide +kernel
theorem dX8_square_24 : decode cX8_square 24 = .ok (.aload_n 0, 1) := by decide +kernel
theorem dX8_square_25 : decode cX8_square 25 = .ok (.getfield 26, 3) := by decide +kernel
theorem dX8_square_28 : decode cX8_square 28 = .ok (.aload_n 0, 1) := by decide +kernel
theorem dX8_square_29 : decode cX8_square 29 = .ok (.getfield 10, 3) := by decide +kernel
theorem dX8_square_32 : decode cX8_square 32 = .ok (.invokevirtual 81, 3) := by decide +kernel
theorem dX8_square_35 : decode cX8_square 35 = .ok (.aload_n 0, 1) := by decide +kernel
theorem dX8_square_36 : decode cX8_square 36 = .ok (.getfield 10, 3) := by decide +kernel
theorem dX8_square_39 : decode cX8_square 39 = .ok (.iconst 0, 1) := by decide +kernel
theorem dX8_square_40 : decode cX8_square 40 = .ok (.putfield 61, 3) := by decide +kernel
theorem dX8_square_43 : decode cX8_square 43 = .ok (.aload_n 0, 1) := by decide +kernel
theorem dX8_square_44 : decode cX8_square 44 = .ok (.iconst 0, 1) := by decide +kernel
theorem dX8_square_45 : decode cX8_square 45 = .ok (.putfield 84, 3) := by decide +kernel
theorem dX8_square_48 : decode cX8_square 48 = .ok (.aload_n 0, 1) := by decide +kernel
theorem dX8_square_49 : decode cX8_square 49 = .ok (.dup, 1) := by decide +kernel
theorem dX8_square_50 : decode cX8_square 50 = .ok (.getfield 88, 3) := by decide +kernel
theorem dX8_square_53 : decode cX8_square 53 = .ok (.iconst 1, 1) := by decide +kernel
theorem dX8_square_54 : decode cX8_square 54 = .ok (.iadd, 1) := by decide +kernel
theorem dX8_square_55 : decode cX8_square 55 = .ok (.putfield 88, 3) := by decide +kernel
theorem dX8_square_58 : decode cX8_square 58 = .ok (.aload_n 0, 1) := by decide +kernel
theorem dX8_square_59 : decode cX8_square 59 = .ok (.getfield 19, 3) := by decide +kernel
theorem dX8_square_62 : decode cX8_square 62 = .ok (.getfield 91, 3) := by decide +kernel
theorem dX8_square_65 : decode cX8_square 65 = .ok (.ireturn, 1) := by decide +kernel
abbrev kwX8_square (cI cZ cG : ClassId) (q q_page q_ground q_now q_kept q_ahead q_trade q_plan q_guess q_page_letters q_ground_worth q_ground_liked q_now_town q_now_had q_now_wishes q_now_seen q_now_town_kindOf q_now_town_plotOf q_now_town_row q_now_town_standsOn q_now_wishes_house q_now_wishes_plot q_now_wishes_night q_now_seen_house q_now_seen_plot q_now_seen_night : Nat) (v_isKept : Int32) (v_squaresRead : Int32) (v_ordersDone : Int32) (v_page_size : Int32) (v_page_letters : (Nat → Int32)) (v_ground_houses : Int32) (v_ground_worth : (Nat → Int32)) (v_ground_liked : (Nat → Int32)) (v_now_nights : Int32) (v_now_had : (Nat → Int32)) (v_now_town_houses : Int32) (v_now_town_front : Int32) (v_now_town_downFor : Int32) (v_now_town_kindOf : (Nat → Int32)) (v_now_town_standsOn : (Nat → Int32)) (v_now_town_row : (Nat → Int32)) (v_now_town_plotOf : (Nat → Int32)) (v_now_wishes_size : Int32) (v_now_seen_size : Int32) : va_W := [(q, .inr (8, [.ref q_page, .ref q_ground, .ref q_now, .ref q_kept, .ref q_ahead, .ref q_trade, .ref q_plan, .ref q_guess, .int v_isKept, .int v_squaresRead, .int v_ordersDone])), (q_page, .inr (3, [.ref q_page_letters, .int v_page_size])), (q_page_letters, .inl (cI, 32, .inl v_page_letters)), (q_ground, .inr (0, [.ref q_ground_worth, .ref q_ground_liked, .int v_ground_houses])), (q_ground_worth, .inl (cI, 12, .inl v_ground_worth)), (q_ground_liked, .inl (cI, 6, .inl v_ground_liked)), (q_now, .inr (5, [.ref q_now_town, .ref q_now_had, .ref q_now_wishes, .ref q_now_seen, .int v_now_nights])), (q_now_had, .inl (cI, 6, .inl v_now_had)), (q_now_town, .inr (6, [.ref q_now_town_kindOf, .ref q_now_town_plotOf, .ref q_now_town_row, .ref q_now_town_standsOn, .int v_now_town_houses, .int v_now_town_front, .int v_now_town_downFor])), (q_now_town_kindOf, .inl (cI, 6, .inl v_now_town_kindOf)), (q_now_town_standsOn, .inl (cI, 12, .inl v_now_town_standsOn)), (q_now_town_row, .inl (cI, 6, .inl v_now_town_row)), (q_now_town_plotOf, .inl (cI, 6, .inl v_now_town_plotOf)), (q_now_wishes, .inr (2, [.ref q_now_wishes_house, .ref q_now_wishes_plot, .ref q_now_wishes_night, .int v_now_wishes_size])), (q_now_seen, .inr (2, [.ref q_now_seen_house, .ref q_now_seen_plot, .ref q_now_seen_night, .int v_now_seen_size]))]
noncomputable def fX8_square (N : Nat) (v_page_letters : (Nat → Int32)) (v_isKept : Int32) (v_squaresRead : Int32) (v_page_size : Int32) (v_ground_houses : Int32) (v_ground_worth : (Nat → Int32)) (v_ground_liked : (Nat → Int32)) (v_now_nights : Int32) (v_now_had : (Nat → Int32)) (v_now_town_houses : Int32) (v_now_town_front : Int32) (v_now_town_downFor : Int32) (v_now_town_kindOf : (Nat → Int32)) (v_now_town_standsOn : (Nat → Int32)) (v_now_town_row : (Nat → Int32)) (v_now_town_plotOf : (Nat → Int32)) (v_now_wishes_size : Int32) (v_now_seen_size : Int32)  : Option (Int32 × Int32 × Int32 × Int32 × Int32 × (Nat → Int32) × (Nat → Int32) × Int32 × (Nat → Int32) × Int32 × Int32 × Int32 × (Nat → Int32) × (Nat → Int32) × (Nat → Int32) × (Nat → Int32) × Int32 × Int32) := (fX3_isSquare N v_page_size v_page_letters).bind (fun x_4 => if x_4 = 0 then (some ((-103 : Int32), v_isKept, v_squaresRead, v_page_size, v_ground_houses, v_ground_worth, v_ground_liked, v_now_nights, v_now_had, v_now_town_houses, v_now_town_front, v_now_town_downFor, v_now_town_kindOf, v_now_town_standsOn, v_now_town_row, v_now_town_plotOf, v_now_wishes_size, v_now_seen_size)) else ((fX0_readFrom N v_page_size v_page_letters v_ground_houses v_ground_worth v_ground_liked).bind (fun x_21 => (fX5_beginFrom N v_page_size v_page_letters v_now_nights v_now_had v_now_town_houses v_now_town_front v_now_town_downFor v_now_town_kindOf v_now_town_standsOn v_now_town_row v_now_town_plotOf v_now_wishes_size v_now_seen_size).bind (fun x_32 => some (x_21.1, (0 : Int32), (v_squaresRead + (1 : Int32)), (0 : Int32), x_21.1, x_21.2.1, x_21.2.2, x_32.1, x_32.2.1, x_32.2.2.1, x_32.2.2.2.1, x_32.2.2.2.2.1, x_32.2.2.2.2.2.1, x_32.2.2.2.2.2.2.1, x_32.2.2.2.2.2.2.2.1, x_32.2.2.2.2.2.2.2.2.1, x_32.2.2.2.2.2.2.2.2.2.1, x_32.2.2.2.2.2.2.2.2.2.2)))))
set_option maxHeartbeats 4000000 in
set_option maxRecDepth 100000 in
theorem wX8_square {p : Program} {l : Launch} {e : Env} {R : Room} {s : State} {m : MethodId} {args : Array Value} {below : List Frame} {meth : Method} {c : Code} {cells slots : Nat} {Q : State → Prop} {D : va_G} {A : Nat → Prop} {cI cZ cG : ClassId} {q q_page q_ground q_now q_kept q_ahead q_trade q_plan q_guess q_page_letters q_ground_worth q_ground_liked q_now_town q_now_had q_now_wishes q_now_seen q_now_town_kindOf q_now_town_plotOf q_now_town_row q_now_town_standsOn q_now_wishes_house q_now_wishes_plot q_now_wishes_night q_now_seen_house q_now_seen_plot q_now_seen_night : Nat} {v_isKept : Int32} {v_squaresRead : Int32} {v_ordersDone : Int32} {v_page_size : Int32} {v_page_letters : (Nat → Int32)} {v_ground_houses : Int32} {v_ground_worth : (Nat → Int32)} {v_ground_liked : (Nat → Int32)} {v_now_nights : Int32} {v_now_had : (Nat → Int32)} {v_now_town_houses : Int32} {v_now_town_front : Int32} {v_now_town_downFor : Int32} {v_now_town_kindOf : (Nat → Int32)} {v_now_town_standsOn : (Nat → Int32)} {v_now_town_row : (Nat → Int32)} {v_now_town_plotOf : (Nat → Int32)} {v_now_wishes_size : Int32} {v_now_seen_size : Int32} {N : Nat} {ρ : Int32 × Int32 × Int32 × Int32 × Int32 × (Nat → Int32) × (Nat → Int32) × Int32 × (Nat → Int32) × Int32 × Int32 × Int32 × (Nat → Int32) × (Nat → Int32) × (Nat → Int32) × (Nat → Int32) × Int32 × Int32} (X : CX p s m args c cX8_square 1 RX8 D (TY cI cZ cG) A) (hrm : RM R 8 174 cells slots) (ret : ∀ (pc : Nat) (H : Heap) (locs : List Loc) (ls : Array Slot), decode cX8_square pc = .ok (.ireturn, 1) → WD D A (kwX8_square cI cZ cG q q_page q_ground q_now q_kept q_ahead q_trade q_plan q_guess q_page_letters q_ground_worth q_ground_liked q_now_town q_now_had q_now_wishes q_now_seen q_now_town_kindOf q_now_town_plotOf q_now_town_row q_now_town_standsOn q_now_wishes_house q_now_wishes_plot q_now_wishes_night q_now_seen_house q_now_seen_plot q_now_seen_night (ρ.2.1) (ρ.2.2.1) v_ordersDone (ρ.2.2.2.1) v_page_letters (ρ.2.2.2.2.1) (ρ.2.2.2.2.2.1) (ρ.2.2.2.2.2.2.1) (ρ.2.2.2.2.2.2.2.1) (ρ.2.2.2.2.2.2.2.2.1) (ρ.2.2.2.2.2.2.2.2.2.1) (ρ.2.2.2.2.2.2.2.2.2.2.1) (ρ.2.2.2.2.2.2.2.2.2.2.2.1) (ρ.2.2.2.2.2.2.2.2.2.2.2.2.1) (ρ.2.2.2.2.2.2.2.2.2.2.2.2.2.1) (ρ.2.2.2.2.2.2.2.2.2.2.2.2.2.2.1) (ρ.2.2.2.2.2.2.2.2.2.2.2.2.2.2.2.1) (ρ.2.2.2.2.2.2.2.2.2.2.2.2.2.2.2.2.1) (ρ.2.2.2.2.2.2.2.2.2.2.2.2.2.2.2.2.2)) s.heap H locs → W p l e R s m args below meth c H locs cells slots Q (F0 m pc ls [.int ρ.1])) (h : fX8_square N v_page_letters v_isKept v_squaresRead v_page_size v_ground_houses v_ground_worth v_ground_liked v_now_nights v_now_had v_now_town_houses v_now_town_front v_now_town_downFor v_now_town_kindOf v_now_town_standsOn v_now_town_row v_now_town_plotOf v_now_wishes_size v_now_seen_size  = some ρ) (H : Heap) (locs : List Loc) (ls : Array Slot) (hw : WD D A (kwX8_square cI cZ cG q q_page q_ground q_now q_kept q_ahead q_trade q_plan q_guess q_page_letters q_ground_worth q_ground_liked q_now_town q_now_had q_now_wishes q_now_seen q_now_town_kindOf q_now_town_plotOf q_now_town_row q_now_town_standsOn q_now_wishes_house q_now_wishes_plot q_now_wishes_night q_now_seen_house q_now_seen_plot q_now_seen_night v_isKept v_squaresRead v_ordersDone v_page_size v_page_letters v_ground_houses v_ground_worth v_ground_liked v_now_nights v_now_had v_now_town_houses v_now_town_front v_now_town_downFor v_now_town_kindOf v_now_town_standsOn v_now_town_row v_now_town_plotOf v_now_wishes_size v_now_seen_size) s.heap H locs) (hl : lv_has ls 1 [(0, .ref q)]) : W p l e R s m args below meth c H locs cells slots Q (F0 m 0 ls []) := by
  have hx := X.1.1
  have hb := X.1.2.1
  unfold fX8_square at h
  refine lv_aload_n hx hb dX8_square_0 rfl (lv_at hl 0 rfl) ?_
  refine kget (ci := 8) (v := .ref q_page) X hw iX8 0 rfl rfl 0 (by decide) tw_405 rfl dX8_square_1 ?_
  obtain ⟨x_4, hc_4, h⟩ := obd h
  refine ksV_i (ws2 := (kwX8_square cI cZ cG q q_page q_ground q_now q_kept q_ahead q_trade q_plan q_guess q_page_letters q_ground_worth q_ground_liked q_now_town q_now_had q_now_wishes q_now_seen q_now_town_kindOf q_now_town_plotOf q_now_town_row q_now_town_standsOn q_now_wishes_house q_now_wishes_plot q_now_wishes_night q_now_seen_house q_now_seen_plot q_now_seen_night v_isKept v_squaresRead v_ordersDone v_page_size v_page_letters v_ground_houses v_ground_worth v_ground_liked v_now_nights v_now_had v_now_town_houses v_now_town_front v_now_town_downFor v_now_town_kindOf v_now_town_standsOn v_now_town_row v_now_town_plotOf v_now_wishes_size v_now_seen_size)) (nW := 15) (ci := 3) (As := []) (rest := []) X hw rfl rfl rfl (cX3_isSquare_ct l D cI cZ cG q_page q_page_letters v_page_size v_page_letters N x_4 hc_4 H.size) mX3_isSquare tw_418 (hrm.call (by decide) (by decide)) [1, 2] rfl (by decide) rfl (by decide) rfl ⟨rfl, ⟨rfl, ⟨rfl, ⟨rfl, ⟨rfl, ⟨rfl, ⟨rfl, ⟨rfl, ⟨rfl, ⟨rfl, ⟨rfl, ⟨rfl, ⟨rfl, trivial⟩⟩⟩⟩⟩⟩⟩⟩⟩⟩⟩⟩⟩ rfl hl.1 rfl (Nat.le_of_ble_eq_true rfl) dX8_square_4 ⟨hrm.2.2.1, hrm.2.2.2⟩ (fun H locs hw => ?_)
  refine lv_if_ne (tgt := 13) hx hb dX8_square_7 (by decide) (fun c_7 => ?_) (fun c_7 => ?_)
  · have h := iff_ c_7 h
    refine lv_aload_n hx hb dX8_square_13 rfl (lv_at hl 0 rfl) ?_
    refine kget (ci := 8) (v := .ref q_ground) X hw iX8 0 rfl rfl 1 (by decide) tw_419 rfl dX8_square_14 ?_
    refine lv_aload_n hx hb dX8_square_17 rfl (lv_at hl 0 rfl) ?_
    refine kget (ci := 8) (v := .ref q_page) X hw iX8 0 rfl rfl 0 (by decide) tw_405 rfl dX8_square_18 ?_
    obtain ⟨x_21, hc_21, h⟩ := obd h
    refine ksV_v (ws2 := (kwX8_square cI cZ cG q q_page q_ground q_now q_kept q_ahead q_trade q_plan q_guess q_page_letters q_ground_worth q_ground_liked q_now_town q_now_had q_now_wishes q_now_seen q_now_town_kindOf q_now_town_plotOf q_now_town_row q_now_town_standsOn q_now_wishes_house q_now_wishes_plot q_now_wishes_night q_now_seen_house q_now_seen_plot q_now_seen_night v_isKept v_squaresRead v_ordersDone v_page_size v_page_letters x_21.1 x_21.2.1 x_21.2.2 v_now_nights v_now_had v_now_town_houses v_now_town_front v_now_town_downFor v_now_town_kindOf v_now_town_standsOn v_now_town_row v_now_town_plotOf v_now_wishes_size v_now_seen_size)) (nW := 15) (ci := 0) (As := [.ref q_page]) (rest := []) X hw rfl rfl rfl (cX0_readFrom_ct l D cI cZ cG q_ground q_ground_worth q_ground_liked q_page q_page_letters v_ground_houses v_page_size v_page_letters v_ground_worth v_ground_liked N x_21 hc_21 H.size) mX0_readFrom tw_420 (hrm.call (by decide) (by decide)) [3, 1, 2, 4, 5] rfl (by decide) rfl (by decide) rfl ⟨rfl, ⟨rfl, ⟨rfl, ⟨rfl, ⟨rfl, ⟨rfl, ⟨rfl, ⟨rfl, ⟨rfl, ⟨rfl, trivial⟩⟩⟩⟩⟩⟩⟩⟩⟩⟩ rfl hl.1 rfl (Nat.le_of_ble_eq_true rfl) dX8_square_21 ⟨hrm.2.2.1, hrm.2.2.2⟩ (fun H locs hw => ?_)
    refine lv_aload_n hx hb dX8_square_24 rfl (lv_at hl 0 rfl) ?_
    refine kget (ci := 8) (v := .ref q_now) X hw iX8 0 rfl rfl 2 (by decide) tw_421 rfl dX8_square_25 ?_
    refine lv_aload_n hx hb dX8_square_28 rfl (lv_at hl 0 rfl) ?_
    refine kget (ci := 8) (v := .ref q_page) X hw iX8 0 rfl rfl 0 (by decide) tw_405 rfl dX8_square_29 ?_
    obtain ⟨x_32, hc_32, h⟩ := obd h
    refine ksV_v (ws2 := (kwX8_square cI cZ cG q q_page q_ground q_now q_kept q_ahead q_trade q_plan q_guess q_page_letters q_ground_worth q_ground_liked q_now_town q_now_had q_now_wishes q_now_seen q_now_town_kindOf q_now_town_plotOf q_now_town_row q_now_town_standsOn q_now_wishes_house q_now_wishes_plot q_now_wishes_night q_now_seen_house q_now_seen_plot q_now_seen_night v_isKept v_squaresRead v_ordersDone v_page_size v_page_letters x_21.1 x_21.2.1 x_21.2.2 x_32.1 x_32.2.1 x_32.2.2.1 x_32.2.2.2.1 x_32.2.2.2.2.1 x_32.2.2.2.2.2.1 x_32.2.2.2.2.2.2.1 x_32.2.2.2.2.2.2.2.1 x_32.2.2.2.2.2.2.2.2.1 x_32.2.2.2.2.2.2.2.2.2.1 x_32.2.2.2.2.2.2.2.2.2.2)) (nW := 15) (ci := 5) (As := [.ref q_page]) (rest := []) X hw rfl rfl rfl (cX5_beginFrom_ct l D cI cZ cG q_now q_now_town q_now_had q_now_wishes q_now_seen q_page q_page_letters q_now_town_kindOf q_now_town_plotOf q_now_town_row q_now_town_standsOn q_now_wishes_house q_now_wishes_plot q_now_wishes_night q_now_seen_house q_now_seen_plot q_now_seen_night v_now_nights v_page_size v_now_had v_now_town_houses v_now_town_front v_now_town_downFor v_page_letters v_now_town_kindOf v_now_town_standsOn v_now_town_row v_now_town_plotOf v_now_wishes_size v_now_seen_size N x_32 hc_32 H.size) mX5_beginFrom tw_422 (hrm.call (by decide) (by decide)) [6, 1, 7, 8, 2, 9, 10, 11, 12, 13, 14] rfl (by decide) rfl (by decide) rfl ⟨rfl, ⟨rfl, ⟨rfl, ⟨rfl, trivial⟩⟩⟩⟩ rfl hl.1 rfl (Nat.le_of_ble_eq_true rfl) dX8_square_32 ⟨hrm.2.2.1, hrm.2.2.2⟩ (fun H locs hw => ?_)
    refine lv_aload_n hx hb dX8_square_35 rfl (lv_at hl 0 rfl) ?_
    refine kget (ci := 8) (v := .ref q_page) X hw iX8 0 rfl rfl 0 (by decide) tw_405 rfl dX8_square_36 ?_
    refine lv_iconst (v := (0 : Int32)) hx hb dX8_square_39 (by decide) ?_
    refine kput (ci := 3) (v := .int (0 : Int32)) (ty := .int) X hw iX3 tyX3_ok nmX3 1 rfl rfl 1 (by decide) tw_406 rfl rfl rfl rfl (Nat.le_of_ble_eq_true rfl) dX8_square_40 (fun H locs hw => ?_)
    have hw : WD D A (kwX8_square cI cZ cG q q_page q_ground q_now q_kept q_ahead q_trade q_plan q_guess q_page_letters q_ground_worth q_ground_liked q_now_town q_now_had q_now_wishes q_now_seen q_now_town_kindOf q_now_town_plotOf q_now_town_row q_now_town_standsOn q_now_wishes_house q_now_wishes_plot q_now_wishes_night q_now_seen_house q_now_seen_plot q_now_seen_night v_isKept v_squaresRead v_ordersDone (0 : Int32) v_page_letters x_21.1 x_21.2.1 x_21.2.2 x_32.1 x_32.2.1 x_32.2.2.1 x_32.2.2.2.1 x_32.2.2.2.2.1 x_32.2.2.2.2.2.1 x_32.2.2.2.2.2.2.1 x_32.2.2.2.2.2.2.2.1 x_32.2.2.2.2.2.2.2.2.1 x_32.2.2.2.2.2.2.2.2.2.1 x_32.2.2.2.2.2.2.2.2.2.2) s.heap H locs := hw
    refine lv_aload_n hx hb dX8_square_43 rfl (lv_at hl 0 rfl) ?_
    refine lv_iconst (v := (0 : Int32)) hx hb dX8_square_44 (by decide) ?_
    refine kput (ci := 8) (v := .int (0 : Int32)) (ty := .boolean) X hw iX8 tyX8_ok nmX8 0 rfl rfl 8 (by decide) tw_423 rfl rfl rfl rfl (Nat.le_of_ble_eq_true rfl) dX8_square_45 (fun H locs hw => ?_)
    have hw : WD D A (kwX8_square cI cZ cG q q_page q_ground q_now q_kept q_ahead q_trade q_plan q_guess q_page_letters q_ground_worth q_ground_liked q_now_town q_now_had q_now_wishes q_now_seen q_now_town_kindOf q_now_town_plotOf q_now_town_row q_now_town_standsOn q_now_wishes_house q_now_wishes_plot q_now_wishes_night q_now_seen_house q_now_seen_plot q_now_seen_night (0 : Int32) v_squaresRead v_ordersDone (0 : Int32) v_page_letters x_21.1 x_21.2.1 x_21.2.2 x_32.1 x_32.2.1 x_32.2.2.1 x_32.2.2.2.1 x_32.2.2.2.2.1 x_32.2.2.2.2.2.1 x_32.2.2.2.2.2.2.1 x_32.2.2.2.2.2.2.2.1 x_32.2.2.2.2.2.2.2.2.1 x_32.2.2.2.2.2.2.2.2.2.1 x_32.2.2.2.2.2.2.2.2.2.2) s.heap H locs := hw
    refine lv_aload_n hx hb dX8_square_48 rfl (lv_at hl 0 rfl) ?_
    refine lv_dup hx hb dX8_square_49 rfl ?_
    refine kget (ci := 8) (v := .int v_squaresRead) X hw iX8 0 rfl rfl 9 (by decide) tw_424 rfl dX8_square_50 ?_
    refine lv_iconst (v := (1 : Int32)) hx hb dX8_square_53 (by decide) ?_
    refine lv_iadd hx hb dX8_square_54 ?_
    refine kput (ci := 8) (v := .int (v_squaresRead + (1 : Int32))) (ty := .int) X hw iX8 tyX8_ok nmX8 0 rfl rfl 9 (by decide) tw_424 rfl rfl rfl rfl (Nat.le_of_ble_eq_true rfl) dX8_square_55 (fun H locs hw => ?_)
    have hw : WD D A (kwX8_square cI cZ cG q q_page q_ground q_now q_kept q_ahead q_trade q_plan q_guess q_page_letters q_ground_worth q_ground_liked q_now_town q_now_had q_now_wishes q_now_seen q_now_town_kindOf q_now_town_plotOf q_now_town_row q_now_town_standsOn q_now_wishes_house q_now_wishes_plot q_now_wishes_night q_now_seen_house q_now_seen_plot q_now_seen_night (0 : Int32) (v_squaresRead + (1 : Int32)) v_ordersDone (0 : Int32) v_page_letters x_21.1 x_21.2.1 x_21.2.2 x_32.1 x_32.2.1 x_32.2.2.1 x_32.2.2.2.1 x_32.2.2.2.2.1 x_32.2.2.2.2.2.1 x_32.2.2.2.2.2.2.1 x_32.2.2.2.2.2.2.2.1 x_32.2.2.2.2.2.2.2.2.1 x_32.2.2.2.2.2.2.2.2.2.1 x_32.2.2.2.2.2.2.2.2.2.2) s.heap H locs := hw
    refine lv_aload_n hx hb dX8_square_58 rfl (lv_at hl 0 rfl) ?_
    refine kget (ci := 8) (v := .ref q_ground) X hw iX8 0 rfl rfl 1 (by decide) tw_419 rfl dX8_square_59 ?_
    refine kget (ci := 0) (v := .int x_21.1) X hw iX0 3 rfl rfl 2 (by decide) tw_425 rfl dX8_square_62 ?_
    obtain rfl := Option.some.inj h
    exact ret _ _ _ _ dX8_square_65 hw
  · have h := ift c_7 h
    refine lv_bipush (v := (-103 : Int32)) hx hb dX8_square_10 (by decide) ?_
    obtain rfl := Option.some.inj h
    exact ret _ _ _ _ dX8_square_12 hw
set_option maxHeartbeats 4000000 in
set_option maxRecDepth 100000 in
theorem cX8_square_ct (l : Launch) (D : va_G) (cI cZ cG : ClassId) (q q_page q_ground q_now q_kept q_ahead q_trade q_plan q_guess q_page_letters q_ground_worth q_ground_liked q_now_town q_now_had q_now_wishes q_now_seen q_now_town_kindOf q_now_town_plotOf q_now_town_row q_now_town_standsOn q_now_wishes_house q_now_wishes_plot q_now_wishes_night q_now_seen_house q_now_seen_plot q_now_seen_night : Nat)  (v_isKept : Int32) (v_squaresRead : Int32) (v_ordersDone : Int32) (v_page_size : Int32) (v_page_letters : (Nat → Int32)) (v_ground_houses : Int32) (v_ground_worth : (Nat → Int32)) (v_ground_liked : (Nat → Int32)) (v_now_nights : Int32) (v_now_had : (Nat → Int32)) (v_now_town_houses : Int32) (v_now_town_front : Int32) (v_now_town_downFor : Int32) (v_now_town_kindOf : (Nat → Int32)) (v_now_town_standsOn : (Nat → Int32)) (v_now_town_row : (Nat → Int32)) (v_now_town_plotOf : (Nat → Int32)) (v_now_wishes_size : Int32) (v_now_seen_size : Int32)  (N : Nat) (ρ : Int32 × Int32 × Int32 × Int32 × Int32 × (Nat → Int32) × (Nat → Int32) × Int32 × (Nat → Int32) × Int32 × Int32 × Int32 × (Nat → Int32) × (Nat → Int32) × (Nat → Int32) × (Nat → Int32) × Int32 × Int32) (h : fX8_square N v_page_letters v_isKept v_squaresRead v_page_size v_ground_houses v_ground_worth v_ground_liked v_now_nights v_now_had v_now_town_houses v_now_town_front v_now_town_downFor v_now_town_kindOf v_now_town_standsOn v_now_town_row v_now_town_plotOf v_now_wishes_size v_now_seen_size  = some ρ) (sz : Nat) : Met l yX8_square (wz yX8_square cX8_square 1 (some .int)) (cRm 8 174) (cPre D (TY cI cZ cG) [.ref q] (kwX8_square cI cZ cG q q_page q_ground q_now q_kept q_ahead q_trade q_plan q_guess q_page_letters q_ground_worth q_ground_liked q_now_town q_now_had q_now_wishes q_now_seen q_now_town_kindOf q_now_town_plotOf q_now_town_row q_now_town_standsOn q_now_wishes_house q_now_wishes_plot q_now_wishes_night q_now_seen_house q_now_seen_plot q_now_seen_night v_isKept v_squaresRead v_ordersDone v_page_size v_page_letters v_ground_houses v_ground_worth v_ground_liked v_now_nights v_now_had v_now_town_houses v_now_town_front v_now_town_downFor v_now_town_kindOf v_now_town_standsOn v_now_town_row v_now_town_plotOf v_now_wishes_size v_now_seen_size) sz) (cQi D (ρ.1) (kwX8_square cI cZ cG q q_page q_ground q_now q_kept q_ahead q_trade q_plan q_guess q_page_letters q_ground_worth q_ground_liked q_now_town q_now_had q_now_wishes q_now_seen q_now_town_kindOf q_now_town_plotOf q_now_town_row q_now_town_standsOn q_now_wishes_house q_now_wishes_plot q_now_wishes_night q_now_seen_house q_now_seen_plot q_now_seen_night v_isKept v_squaresRead v_ordersDone v_page_size v_page_letters v_ground_houses v_ground_worth v_ground_liked v_now_nights v_now_had v_now_town_houses v_now_town_front v_now_town_downFor v_now_town_kindOf v_now_town_standsOn v_now_town_row v_now_town_plotOf v_now_wishes_size v_now_seen_size) (kwX8_square cI cZ cG q q_page q_ground q_now q_kept q_ahead q_trade q_plan q_guess q_page_letters q_ground_worth q_ground_liked q_now_town q_now_had q_now_wishes q_now_seen q_now_town_kindOf q_now_town_plotOf q_now_town_row q_now_town_standsOn q_now_wishes_house q_now_wishes_plot q_now_wishes_night q_now_seen_house q_now_seen_plot q_now_seen_night (ρ.2.1) (ρ.2.2.1) v_ordersDone (ρ.2.2.2.1) v_page_letters (ρ.2.2.2.2.1) (ρ.2.2.2.2.2.1) (ρ.2.2.2.2.2.2.1) (ρ.2.2.2.2.2.2.2.1) (ρ.2.2.2.2.2.2.2.2.1) (ρ.2.2.2.2.2.2.2.2.2.1) (ρ.2.2.2.2.2.2.2.2.2.2.1) (ρ.2.2.2.2.2.2.2.2.2.2.2.1) (ρ.2.2.2.2.2.2.2.2.2.2.2.2.1) (ρ.2.2.2.2.2.2.2.2.2.2.2.2.2.1) (ρ.2.2.2.2.2.2.2.2.2.2.2.2.2.2.1) (ρ.2.2.2.2.2.2.2.2.2.2.2.2.2.2.2.1) (ρ.2.2.2.2.2.2.2.2.2.2.2.2.2.2.2.2.1) (ρ.2.2.2.2.2.2.2.2.2.2.2.2.2.2.2.2.2)) sz) 0 0 (va_A (kwX8_square cI cZ cG q q_page q_ground q_now q_kept q_ahead q_trade q_plan q_guess q_page_letters q_ground_worth q_ground_liked q_now_town q_now_had q_now_wishes q_now_seen q_now_town_kindOf q_now_town_plotOf q_now_town_row q_now_town_standsOn q_now_wishes_house q_now_wishes_plot q_now_wishes_night q_now_seen_house q_now_seen_plot q_now_seen_night v_isKept v_squaresRead v_ordersDone v_page_size v_page_letters v_ground_houses v_ground_worth v_ground_liked v_now_nights v_now_had v_now_town_houses v_now_town_front v_now_town_downFor v_now_town_kindOf v_now_town_standsOn v_now_town_row v_now_town_plotOf v_now_wishes_size v_now_seen_size) sz) :=
  mk_i (by decide) (Nat.le_of_ble_eq_true rfl) (fun X hrm ret hw hl => wX8_square X hrm ret h _ _ _ hw hl)
theorem dX8_isHouse_0 : decode cX8_isHouse 0 = .ok (.iload_n 1, 1) := by decide +kernel
theorem dX8_isHouse_1 : decode cX8_isHouse 1 = .ok (.ifCond .lt 18, 3) := by decide +kernel
theorem dX8_isHouse_4 : decode cX8_isHouse 4 = .ok (.iload_n 1, 1) := by decide +kernel
theorem dX8_isHouse_5 : decode cX8_isHouse 5 = .ok (.aload_n 0, 1) := by decide +kernel
theorem dX8_isHouse_6 : decode cX8_isHouse 6 = .ok (.getfield 19, 3) := by decide +kernel
theorem dX8_isHouse_9 : decode cX8_isHouse 9 = .ok (.getfield 91, 3) := by decide +kernel
theorem dX8_isHouse_12 : decode cX8_isHouse 12 = .ok (.if_icmp .ge 7, 3) := by decide +kernel
theorem dX8_isHouse_15 : decode cX8_isHouse 15 = .ok (.iconst 1, 1) := by decide +kernel
theorem dX8_isHouse_16 : decode cX8_isHouse 16 = .ok (.goto 4, 3) := by decide +kernel
theorem dX8_isHouse_19 : decode cX8_isHouse 19 = .ok (.iconst 0, 1) := by decide +kernel
theorem dX8_isHouse_20 : decode cX8_isHouse 20 = .ok (.ireturn, 1) := by decide +kernel
abbrev kwX8_isHouse (cI cZ cG : ClassId) (q q_page q_ground q_now q_kept q_ahead q_trade q_plan q_guess q_ground_worth q_ground_liked : Nat) (v_isKept : Int32) (v_squaresRead : Int32) (v_ordersDone : Int32) (v_ground_houses : Int32) : va_W := [(q, .inr (8, [.ref q_page, .ref q_ground, .ref q_now, .ref q_kept, .ref q_ahead, .ref q_trade, .ref q_plan, .ref q_guess, .int v_isKept, .int v_squaresRead, .int v_ordersDone])), (q_ground, .inr (0, [.ref q_ground_worth, .ref q_ground_liked, .int v_ground_houses]))]
noncomputable def fX8_isHouse (N : Nat) (v_ground_houses : Int32) (a1 : Int32)   : Option (Int32) := if a1 < 0 then (some (0 : Int32)) else (if v_ground_houses ≤ a1 then (some (0 : Int32)) else (some (1 : Int32)))
set_option maxHeartbeats 4000000 in
set_option maxRecDepth 100000 in
theorem wX8_isHouse {p : Program} {l : Launch} {e : Env} {R : Room} {s : State} {m : MethodId} {args : Array Value} {below : List Frame} {meth : Method} {c : Code} {cells slots : Nat} {Q : State → Prop} {D : va_G} {A : Nat → Prop} {cI cZ cG : ClassId} {q q_page q_ground q_now q_kept q_ahead q_trade q_plan q_guess q_ground_worth q_ground_liked : Nat} {v_isKept : Int32} {v_squaresRead : Int32} {v_ordersDone : Int32} {v_ground_houses : Int32} {a1 : Int32} {N : Nat} {ρ : Int32} (X : CX p s m args c cX8_isHouse 2 RX8 D (TY cI cZ cG) A) (hrm : RM R 0 0 cells slots) (ret : ∀ (pc : Nat) (H : Heap) (locs : List Loc) (ls : Array Slot), narrow .boolean (.int ρ) = .int ρ → decode cX8_isHouse pc = .ok (.ireturn, 1) → WD D A (kwX8_isHouse cI cZ cG q q_page q_ground q_now q_kept q_ahead q_trade q_plan q_guess q_ground_worth q_ground_liked v_isKept v_squaresRead v_ordersDone v_ground_houses) s.heap H locs → W p l e R s m args below meth c H locs cells slots Q (F0 m pc ls [.int ρ])) (h : fX8_isHouse N v_ground_houses a1   = some ρ) (H : Heap) (locs : List Loc) (ls : Array Slot) (hw : WD D A (kwX8_isHouse cI cZ cG q q_page q_ground q_now q_kept q_ahead q_trade q_plan q_guess q_ground_worth q_ground_liked v_isKept v_squaresRead v_ordersDone v_ground_houses) s.heap H locs) (hl : lv_has ls 2 [(0, .ref q), (1, .int a1)]) : W p l e R s m args below meth c H locs cells slots Q (F0 m 0 ls []) := by
  have hx := X.1.1
  have hb := X.1.2.1
  unfold fX8_isHouse at h
  refine lv_iload_n hx hb dX8_isHouse_0 rfl (lv_at hl 1 rfl) ?_
  refine lv_if_lt (tgt := 19) hx hb dX8_isHouse_1 (by decide) (fun c_1 => ?_) (fun c_1 => ?_)
  · have h := ift c_1 h
    refine lv_iconst (v := (0 : Int32)) hx hb dX8_isHouse_19 (by decide) ?_
    obtain rfl := Option.some.inj h
    exact ret _ _ _ _ (show narrow .boolean (.int (0 : Int32)) = .int (0 : Int32) from rfl) dX8_isHouse_20 hw
  · have h := iff_ c_1 h
    refine lv_iload_n hx hb dX8_isHouse_4 rfl (lv_at hl 1 rfl) ?_
    refine lv_aload_n hx hb dX8_isHouse_5 rfl (lv_at hl 0 rfl) ?_
    refine kget (ci := 8) (v := .ref q_ground) X hw iX8 0 rfl rfl 1 (by decide) tw_419 rfl dX8_isHouse_6 ?_
    refine kget (ci := 0) (v := .int v_ground_houses) X hw iX0 1 rfl rfl 2 (by decide) tw_425 rfl dX8_isHouse_9 ?_
    refine lv_icmp_ge (tgt := 19) hx hb dX8_isHouse_12 (by decide) (fun c_12 => ?_) (fun c_12 => ?_)
    · have h := ift c_12 h
      refine lv_iconst (v := (0 : Int32)) hx hb dX8_isHouse_19 (by decide) ?_
      obtain rfl := Option.some.inj h
      exact ret _ _ _ _ (show narrow .boolean (.int (0 : Int32)) = .int (0 : Int32) from rfl) dX8_isHouse_20 hw
    · have h := iff_ c_12 h
      refine lv_iconst (v := (1 : Int32)) hx hb dX8_isHouse_15 (by decide) ?_
      refine lv_goto (tgt := 20) hx hb dX8_isHouse_16 (by decide) ?_
      obtain rfl := Option.some.inj h
      exact ret _ _ _ _ (show narrow .boolean (.int (1 : Int32)) = .int (1 : Int32) from rfl) dX8_isHouse_20 hw
set_option maxHeartbeats 4000000 in
set_option maxRecDepth 100000 in
theorem cX8_isHouse_ct (l : Launch) (D : va_G) (cI cZ cG : ClassId) (q q_page q_ground q_now q_kept q_ahead q_trade q_plan q_guess q_ground_worth q_ground_liked : Nat)  (v_isKept : Int32) (v_squaresRead : Int32) (v_ordersDone : Int32) (v_ground_houses : Int32) (a1 : Int32) (N : Nat) (ρ : Int32) (h : fX8_isHouse N v_ground_houses a1   = some ρ) (sz : Nat) : Met l yX8_isHouse (wz yX8_isHouse cX8_isHouse 2 (some .boolean)) (cRm 0 0) (cPre D (TY cI cZ cG) [.ref q, .int a1] (kwX8_isHouse cI cZ cG q q_page q_ground q_now q_kept q_ahead q_trade q_plan q_guess q_ground_worth q_ground_liked v_isKept v_squaresRead v_ordersDone v_ground_houses) sz) (cQi D (ρ) (kwX8_isHouse cI cZ cG q q_page q_ground q_now q_kept q_ahead q_trade q_plan q_guess q_ground_worth q_ground_liked v_isKept v_squaresRead v_ordersDone v_ground_houses) (kwX8_isHouse cI cZ cG q q_page q_ground q_now q_kept q_ahead q_trade q_plan q_guess q_ground_worth q_ground_liked v_isKept v_squaresRead v_ordersDone v_ground_houses) sz) 0 0 (va_A (kwX8_isHouse cI cZ cG q q_page q_ground q_now q_kept q_ahead q_trade q_plan q_guess q_ground_worth q_ground_liked v_isKept v_squaresRead v_ordersDone v_ground_houses) sz) :=
  mk_z (by decide) (Nat.le_of_ble_eq_true rfl) (fun X hrm ret hw hl => wX8_isHouse X hrm ret h _ _ _ hw hl)
theorem dX8_house_0 : decode cX8_house 0 = .ok (.aload_n 0, 1) := by decide +kernel
theorem dX8_house_1 : decode cX8_house 1 = .ok (.iload_n 1, 1) := by decide +kernel
theorem dX8_house_2 : decode cX8_house 2 = .ok (.invokevirtual 94, 3) := by decide +kernel
theorem dX8_house_5 : decode cX8_house 5 = .ok (.ifCond .ne 6, 3) := by decide +kernel
theorem dX8_house_8 : decode cX8_house 8 = .ok (.bipush (-101), 2) := by decide +kernel
theorem dX8_house_10 : decode cX8_house 10 = .ok (.ireturn, 1) := by decide +kernel
theorem dX8_house_11 : decode cX8_house 11 = .ok (.iload_n 2, 1) := by decide +kernel
theorem dX8_house_12 : decode cX8_house 12 = .ok (.tableswitch 160 0 7 #[48, 61, 71, 84, 96, 106, 119, 132], 48) := by decide +kernel
theorem dX8_house_60 : decode cX8_house 60 = .ok (.aload_n 0, 1) := by decide +kernel
theorem dX8_house_61 : decode cX8_house 61 = .ok (.getfield 26, 3) := by decide +kernel
theorem dX8_house_64 : decode cX8_house 64 = .ok (.getfield 98, 3) := by decide +kernel
theorem dX8_house_67 : decode cX8_house 67 = .ok (.getfield 101, 3) := by decide +kernel
theorem dX8_house_70 : decode cX8_house 70 = .ok (.iload_n 1, 1) := by decide +kernel
theorem dX8_house_71 : decode cX8_house 71 = .ok (.iaload, 1) := by decide +kernel
theorem dX8_house_72 : decode cX8_house 72 = .ok (.ireturn, 1) := by decide +kernel
theorem dX8_house_73 : decode cX8_house 73 = .ok (.aload_n 0, 1) := by decide +kernel
theorem dX8_house_74 : decode cX8_house 74 = .ok (.getfield 19, 3) := by decide +kernel
theorem dX8_house_77 : decode cX8_house 77 = .ok (.getfield 105, 3) := by decide +kernel
theorem dX8_house_80 : decode cX8_house 80 = .ok (.iload_n 1, 1) := by decide +kernel
theorem dX8_house_81 : decode cX8_house 81 = .ok (.iaload, 1) := by decide +kernel
theorem dX8_house_82 : decode cX8_house 82 = .ok (.ireturn, 1) := by decide +kernel
theorem dX8_house_83 : decode cX8_house 83 = .ok (.aload_n 0, 1) := by decide +kernel
theorem dX8_house_84 : decode cX8_house 84 = .ok (.getfield 26, 3) := by decide +kernel
theorem dX8_house_87 : decode cX8_house 87 = .ok (.getfield 98, 3) := by decide +kernel
theorem dX8_house_90 : decode cX8_house 90 = .ok (.getfield 108, 3) := by decide +kernel
theorem dX8_house_93 : decode cX8_house 93 = .ok (.iload_n 1, 1) := by decide +kernel
theorem dX8_house_94 : decode cX8_house 94 = .ok (.iaload, 1) := by decide +kernel
theorem dX8_house_95 : decode cX8_house 95 = .ok (.ireturn, 1) := by decide +kernel
theorem dX8_house_96 : decode cX8_house 96 = .ok (.aload_n 0, 1) := by decide +kernel
theorem dX8_house_97 : decode cX8_house 97 = .ok (.getfield 26, 3) := by decide +kernel
theorem dX8_house_100 : decode cX8_house 100 = .ok (.getfield 98, 3) := by decide +kernel
theorem dX8_house_103 : decode cX8_house 103 = .ok (.iload_n 1, 1) := by decide +kernel
theorem dX8_house_104 : decode cX8_house 104 = .ok (.invokevirtual 111, 3) := by decide +kernel
theorem dX8_house_107 : decode cX8_house 107 = .ok (.ireturn, 1) := by decide +kernel
theorem dX8_house_108 : decode cX8_house 108 = .ok (.aload_n 0, 1) := by decide +kernel
theorem dX8_house_109 : decode cX8_house 109 = .ok (.getfield 26, 3) := by decide +kernel
theorem dX8_house_112 : decode cX8_house 112 = .ok (.getfield 115, 3) := by decide +kernel
theorem dX8_house_115 : decode cX8_house 115 = .ok (.iload_n 1, 1) := by decide +kernel
theorem dX8_house_116 : decode cX8_house 116 = .ok (.iaload, 1) := by decide +kernel
theorem dX8_house_117 : decode cX8_house 117 = .ok (.ireturn, 1) := by decide +kernel
theorem dX8_house_118 : decode cX8_house 118 = .ok (.aload_n 0, 1) := by decide +kernel
theorem dX8_house_119 : decode cX8_house 119 = .ok (.getfield 57, 3) := by decide +kernel
theorem dX8_house_122 : decode cX8_house 122 = .ok (.iload_n 1, 1) := by decide +kernel
theorem dX8_house_123 : decode cX8_house 123 = .ok (.aload_n 0, 1) := by decide +kernel
theorem dX8_house_124 : decode cX8_house 124 = .ok (.getfield 26, 3) := by decide +kernel
theorem dX8_house_127 : decode cX8_house 127 = .ok (.invokevirtual 118, 3) := by decide +kernel
theorem dX8_house_130 : decode cX8_house 130 = .ok (.ireturn, 1) := by decide +kernel
theorem dX8_house_131 : decode cX8_house 131 = .ok (.aload_n 0, 1) := by decide +kernel
theorem dX8_house_132 : decode cX8_house 132 = .ok (.getfield 57, 3) := by decide +kernel
theorem dX8_house_135 : decode cX8_house 135 = .ok (.iload_n 1, 1) := by decide +kernel
theorem dX8_house_136 : decode cX8_house 136 = .ok (.aload_n 0, 1) := by decide +kernel
theorem dX8_house_137 : decode cX8_house 137 = .ok (.getfield 26, 3) := by decide +kernel
theorem dX8_house_140 : decode cX8_house 140 = .ok (.invokevirtual 122, 3) := by decide +kernel
theorem dX8_house_143 : decode cX8_house 143 = .ok (.ireturn, 1) := by decide +kernel
theorem dX8_house_144 : decode cX8_house 144 = .ok (.aload_n 0, 1) := by decide +kernel
theorem dX8_house_145 : decode cX8_house 145 = .ok (.getfield 43, 3) := by decide +kernel
theorem dX8_house_148 : decode cX8_house 148 = .ok (.aload_n 0, 1) := by decide +kernel
theorem dX8_house_149 : decode cX8_house 149 = .ok (.getfield 26, 3) := by decide +kernel
theorem dX8_house_152 : decode cX8_house 152 = .ok (.getfield 98, 3) := by decide +kernel
theorem dX8_house_155 : decode cX8_house 155 = .ok (.aload_n 0, 1) := by decide +kernel
theorem dX8_house_156 : decode cX8_house 156 = .ok (.getfield 19, 3) := by decide +kernel
theorem dX8_house_159 : decode cX8_house 159 = .ok (.invokevirtual 125, 3) := by decide +kernel
theorem dX8_house_162 : decode cX8_house 162 = .ok (.aload_n 0, 1) := by decide +kernel
theorem dX8_house_163 : decode cX8_house 163 = .ok (.getfield 43, 3) := by decide +kernel
theorem dX8_house_166 : decode cX8_house 166 = .ok (.getfield 129, 3) := by decide +kernel
theorem dX8_house_169 : decode cX8_house 169 = .ok (.iload_n 1, 1) := by decide +kernel
theorem dX8_house_170 : decode cX8_house 170 = .ok (.iaload, 1) := by decide +kernel
theorem dX8_house_171 : decode cX8_house 171 = .ok (.ireturn, 1) := by decide +kernel
theorem dX8_house_172 : decode cX8_house 172 = .ok (.bipush (-102), 2) := by decide +kernel
theorem dX8_house_174 : decode cX8_house 174 = .ok (.ireturn, 1) := by decide +kernel
abbrev kwX8_house (cI cZ cG : ClassId) (q q_page q_ground q_now q_kept q_ahead q_trade q_plan q_guess q_ground_worth q_ground_liked q_now_town q_now_had q_now_wishes q_now_seen q_trade_gets q_trade_pointsTo q_trade_isLeft q_now_town_kindOf q_now_town_plotOf q_now_town_row q_now_town_standsOn q_guess_track q_guess_town q_guess_town_kindOf q_guess_town_plotOf q_guess_town_row q_guess_town_standsOn q_guess_track_0 q_guess_track_1 q_guess_track_2 q_guess_track_3 q_guess_track_4 q_now_seen_house q_now_seen_plot q_now_seen_night : Nat) (v_isKept : Int32) (v_squaresRead : Int32) (v_ordersDone : Int32) (v_ground_houses : Int32) (v_now_nights : Int32) (v_trade_rings : Int32) (v_now_town_houses : Int32) (v_now_town_front : Int32) (v_now_town_downFor : Int32) (v_trade_gets : (Nat → Int32)) (v_now_town_plotOf : (Nat → Int32)) (v_trade_isLeft : (Nat → Int32)) (v_ground_liked : (Nat → Int32)) (v_now_town_standsOn : (Nat → Int32)) (v_trade_pointsTo : (Nat → Int32)) (v_guess_town_houses : Int32) (v_guess_town_front : Int32) (v_guess_town_downFor : Int32) (v_now_town_kindOf : (Nat → Int32)) (v_guess_town_kindOf : (Nat → Int32)) (v_guess_town_plotOf : (Nat → Int32)) (v_now_town_row : (Nat → Int32)) (v_guess_town_row : (Nat → Int32)) (v_guess_town_standsOn : (Nat → Int32)) (v_guess_track_0 : (Nat → Int32)) (v_guess_track_1 : (Nat → Int32)) (v_guess_track_2 : (Nat → Int32)) (v_guess_track_3 : (Nat → Int32)) (v_guess_track_4 : (Nat → Int32)) (v_now_seen_size : Int32) (v_now_seen_house : (Nat → Int32)) (v_now_seen_night : (Nat → Int32)) (v_now_seen_plot : (Nat → Int32)) (v_now_had : (Nat → Int32)) : va_W := [(q, .inr (8, [.ref q_page, .ref q_ground, .ref q_now, .ref q_kept, .ref q_ahead, .ref q_trade, .ref q_plan, .ref q_guess, .int v_isKept, .int v_squaresRead, .int v_ordersDone])), (q_ground, .inr (0, [.ref q_ground_worth, .ref q_ground_liked, .int v_ground_houses])), (q_now, .inr (5, [.ref q_now_town, .ref q_now_had, .ref q_now_wishes, .ref q_now_seen, .int v_now_nights])), (q_trade, .inr (7, [.ref q_trade_gets, .ref q_trade_pointsTo, .ref q_trade_isLeft, .int v_trade_rings])), (q_now_town, .inr (6, [.ref q_now_town_kindOf, .ref q_now_town_plotOf, .ref q_now_town_row, .ref q_now_town_standsOn, .int v_now_town_houses, .int v_now_town_front, .int v_now_town_downFor])), (q_trade_gets, .inl (cI, 6, .inl v_trade_gets)), (q_now_town_plotOf, .inl (cI, 6, .inl v_now_town_plotOf)), (q_trade_isLeft, .inl (cZ, 6, .inl v_trade_isLeft)), (q_ground_liked, .inl (cI, 6, .inl v_ground_liked)), (q_now_town_standsOn, .inl (cI, 12, .inl v_now_town_standsOn)), (q_trade_pointsTo, .inl (cI, 6, .inl v_trade_pointsTo)), (q_guess, .inr (1, [.ref q_guess_track, .ref q_guess_town])), (q_guess_town, .inr (6, [.ref q_guess_town_kindOf, .ref q_guess_town_plotOf, .ref q_guess_town_row, .ref q_guess_town_standsOn, .int v_guess_town_houses, .int v_guess_town_front, .int v_guess_town_downFor])), (q_now_town_kindOf, .inl (cI, 6, .inl v_now_town_kindOf)), (q_guess_town_kindOf, .inl (cI, 6, .inl v_guess_town_kindOf)), (q_guess_town_plotOf, .inl (cI, 6, .inl v_guess_town_plotOf)), (q_now_town_row, .inl (cI, 6, .inl v_now_town_row)), (q_guess_town_row, .inl (cI, 6, .inl v_guess_town_row)), (q_guess_town_standsOn, .inl (cI, 12, .inl v_guess_town_standsOn)), (q_guess_track, .inl (cG, 5, .inr (.inr (.inr (.inr (fun i => if i = 0 then some q_guess_track_0 else if i = 1 then some q_guess_track_1 else if i = 2 then some q_guess_track_2 else if i = 3 then some q_guess_track_3 else if i = 4 then some q_guess_track_4 else none)))))), (q_guess_track_0, .inl (cI, 41, .inl v_guess_track_0)), (q_guess_track_1, .inl (cI, 41, .inl v_guess_track_1)), (q_guess_track_2, .inl (cI, 41, .inl v_guess_track_2)), (q_guess_track_3, .inl (cI, 41, .inl v_guess_track_3)), (q_guess_track_4, .inl (cI, 41, .inl v_guess_track_4)), (q_now_seen, .inr (2, [.ref q_now_seen_house, .ref q_now_seen_plot, .ref q_now_seen_night, .int v_now_seen_size])), (q_now_seen_house, .inl (cI, 6, .inl v_now_seen_house)), (q_now_seen_night, .inl (cI, 6, .inl v_now_seen_night)), (q_now_seen_plot, .inl (cI, 6, .inl v_now_seen_plot)), (q_now_had, .inl (cI, 6, .inl v_now_had))]
noncomputable def fX8_house (N : Nat) (v_ground_houses : Int32) (v_now_town_houses : Int32) (v_now_town_front : Int32) (v_now_town_downFor : Int32) (v_now_town_plotOf : (Nat → Int32)) (v_ground_liked : (Nat → Int32)) (v_now_town_standsOn : (Nat → Int32)) (v_now_town_kindOf : (Nat → Int32)) (v_now_town_row : (Nat → Int32)) (v_now_seen_size : Int32) (v_now_seen_house : (Nat → Int32)) (v_now_seen_night : (Nat → Int32)) (v_now_seen_plot : (Nat → Int32)) (v_now_had : (Nat → Int32)) (a1 : Int32) (a2 : Int32) (v_trade_rings : Int32) (v_trade_gets : (Nat → Int32)) (v_trade_isLeft : (Nat → Int32)) (v_trade_pointsTo : (Nat → Int32)) (v_guess_town_houses : Int32) (v_guess_town_front : Int32) (v_guess_town_downFor : Int32) (v_guess_town_kindOf : (Nat → Int32)) (v_guess_town_plotOf : (Nat → Int32)) (v_guess_town_row : (Nat → Int32)) (v_guess_town_standsOn : (Nat → Int32)) (v_guess_track_0 : (Nat → Int32)) (v_guess_track_1 : (Nat → Int32)) (v_guess_track_2 : (Nat → Int32)) (v_guess_track_3 : (Nat → Int32)) (v_guess_track_4 : (Nat → Int32))  : Option (Int32 × Int32 × (Nat → Int32) × (Nat → Int32) × (Nat → Int32) × Int32 × Int32 × Int32 × (Nat → Int32) × (Nat → Int32) × (Nat → Int32) × (Nat → Int32) × (Nat → Int32) × (Nat → Int32) × (Nat → Int32) × (Nat → Int32) × (Nat → Int32)) := (fX8_isHouse N v_ground_houses a1).bind (fun x_2 => if x_2 = 0 then (some ((-101 : Int32), v_trade_rings, v_trade_gets, v_trade_isLeft, v_trade_pointsTo, v_guess_town_houses, v_guess_town_front, v_guess_town_downFor, v_guess_town_kindOf, v_guess_town_plotOf, v_guess_town_row, v_guess_town_standsOn, v_guess_track_0, v_guess_track_1, v_guess_track_2, v_guess_track_3, v_guess_track_4)) else (if a2 = (0 : Int32) then (if a1 < 0 ∨ 6 ≤ (a1).toNatClampNeg then none else (some ((v_now_town_kindOf (a1).toNatClampNeg), v_trade_rings, v_trade_gets, v_trade_isLeft, v_trade_pointsTo, v_guess_town_houses, v_guess_town_front, v_guess_town_downFor, v_guess_town_kindOf, v_guess_town_plotOf, v_guess_town_row, v_guess_town_standsOn, v_guess_track_0, v_guess_track_1, v_guess_track_2, v_guess_track_3, v_guess_track_4))) else (if a2 = (1 : Int32) then (if a1 < 0 ∨ 6 ≤ (a1).toNatClampNeg then none else (some ((v_ground_liked (a1).toNatClampNeg), v_trade_rings, v_trade_gets, v_trade_isLeft, v_trade_pointsTo, v_guess_town_houses, v_guess_town_front, v_guess_town_downFor, v_guess_town_kindOf, v_guess_town_plotOf, v_guess_town_row, v_guess_town_standsOn, v_guess_track_0, v_guess_track_1, v_guess_track_2, v_guess_track_3, v_guess_track_4))) else (if a2 = (2 : Int32) then (if a1 < 0 ∨ 6 ≤ (a1).toNatClampNeg then none else (some ((v_now_town_plotOf (a1).toNatClampNeg), v_trade_rings, v_trade_gets, v_trade_isLeft, v_trade_pointsTo, v_guess_town_houses, v_guess_town_front, v_guess_town_downFor, v_guess_town_kindOf, v_guess_town_plotOf, v_guess_town_row, v_guess_town_standsOn, v_guess_track_0, v_guess_track_1, v_guess_track_2, v_guess_track_3, v_guess_track_4))) else (if a2 = (3 : Int32) then ((fX6_placeInRow N v_now_town_houses v_now_town_row a1).bind (fun x_104 => some (x_104, v_trade_rings, v_trade_gets, v_trade_isLeft, v_trade_pointsTo, v_guess_town_houses, v_guess_town_front, v_guess_town_downFor, v_guess_town_kindOf, v_guess_town_plotOf, v_guess_town_row, v_guess_town_standsOn, v_guess_track_0, v_guess_track_1, v_guess_track_2, v_guess_track_3, v_guess_track_4))) else (if a2 = (4 : Int32) then (if a1 < 0 ∨ 6 ≤ (a1).toNatClampNeg then none else (some ((v_now_had (a1).toNatClampNeg), v_trade_rings, v_trade_gets, v_trade_isLeft, v_trade_pointsTo, v_guess_town_houses, v_guess_town_front, v_guess_town_downFor, v_guess_town_kindOf, v_guess_town_plotOf, v_guess_town_row, v_guess_town_standsOn, v_guess_track_0, v_guess_track_1, v_guess_track_2, v_guess_track_3, v_guess_track_4))) else (if a2 = (5 : Int32) then ((fX1_kindsOf N v_now_seen_size v_now_seen_night v_now_town_houses v_now_town_front v_now_town_downFor v_now_town_kindOf v_now_town_plotOf v_now_town_row v_now_town_standsOn v_now_seen_house v_now_seen_plot a1 v_guess_town_houses v_guess_town_front v_guess_town_downFor v_guess_town_kindOf v_guess_town_plotOf v_guess_town_row v_guess_town_standsOn v_guess_track_0 v_guess_track_1 v_guess_track_2 v_guess_track_3 v_guess_track_4).bind (fun x_127 => some (x_127.1, v_trade_rings, v_trade_gets, v_trade_isLeft, v_trade_pointsTo, x_127.2.1, x_127.2.2.1, x_127.2.2.2.1, x_127.2.2.2.2.1, x_127.2.2.2.2.2.1, x_127.2.2.2.2.2.2.1, x_127.2.2.2.2.2.2.2.1, x_127.2.2.2.2.2.2.2.2.1, x_127.2.2.2.2.2.2.2.2.2.1, x_127.2.2.2.2.2.2.2.2.2.2.1, x_127.2.2.2.2.2.2.2.2.2.2.2.1, x_127.2.2.2.2.2.2.2.2.2.2.2.2))) else (if a2 = (6 : Int32) then ((fX1_nightToLook N v_now_town_houses v_now_town_front v_now_town_downFor v_now_town_kindOf v_now_town_plotOf v_now_town_row v_now_town_standsOn v_now_seen_size v_now_seen_house v_now_seen_night v_now_seen_plot a1 v_guess_town_houses v_guess_town_front v_guess_town_downFor v_guess_town_kindOf v_guess_town_plotOf v_guess_town_row v_guess_town_standsOn v_guess_track_0 v_guess_track_1 v_guess_track_2 v_guess_track_3 v_guess_track_4).bind (fun x_140 => some (x_140.1, v_trade_rings, v_trade_gets, v_trade_isLeft, v_trade_pointsTo, x_140.2.1, x_140.2.2.1, x_140.2.2.2.1, x_140.2.2.2.2.1, x_140.2.2.2.2.2.1, x_140.2.2.2.2.2.2.1, x_140.2.2.2.2.2.2.2.1, x_140.2.2.2.2.2.2.2.2.1, x_140.2.2.2.2.2.2.2.2.2.1, x_140.2.2.2.2.2.2.2.2.2.2.1, x_140.2.2.2.2.2.2.2.2.2.2.2.1, x_140.2.2.2.2.2.2.2.2.2.2.2.2))) else (if a2 = (7 : Int32) then ((fX7_close N v_now_town_houses v_now_town_plotOf v_ground_liked v_now_town_standsOn v_trade_rings v_trade_gets v_trade_isLeft v_trade_pointsTo).bind (fun x_159 => if a1 < 0 ∨ 6 ≤ (a1).toNatClampNeg then none else (some ((x_159.2.1 (a1).toNatClampNeg), x_159.1, x_159.2.1, x_159.2.2.1, x_159.2.2.2, v_guess_town_houses, v_guess_town_front, v_guess_town_downFor, v_guess_town_kindOf, v_guess_town_plotOf, v_guess_town_row, v_guess_town_standsOn, v_guess_track_0, v_guess_track_1, v_guess_track_2, v_guess_track_3, v_guess_track_4)))) else (some ((-102 : Int32), v_trade_rings, v_trade_gets, v_trade_isLeft, v_trade_pointsTo, v_guess_town_houses, v_guess_town_front, v_guess_town_downFor, v_guess_town_kindOf, v_guess_town_plotOf, v_guess_town_row, v_guess_town_standsOn, v_guess_track_0, v_guess_track_1, v_guess_track_2, v_guess_track_3, v_guess_track_4)))))))))))
set_option maxHeartbeats 4000000 in
set_option maxRecDepth 100000 in
theorem wX8_house {p : Program} {l : Launch} {e : Env} {R : Room} {s : State} {m : MethodId} {args : Array Value} {below : List Frame} {meth : Method} {c : Code} {cells slots : Nat} {Q : State → Prop} {D : va_G} {A : Nat → Prop} {cI cZ cG : ClassId} {q q_page q_ground q_now q_kept q_ahead q_trade q_plan q_guess q_ground_worth q_ground_liked q_now_town q_now_had q_now_wishes q_now_seen q_trade_gets q_trade_pointsTo q_trade_isLeft q_now_town_kindOf q_now_town_plotOf q_now_town_row q_now_town_standsOn q_guess_track q_guess_town q_guess_town_kindOf q_guess_town_plotOf q_guess_town_row q_guess_town_standsOn q_guess_track_0 q_guess_track_1 q_guess_track_2 q_guess_track_3 q_guess_track_4 q_now_seen_house q_now_seen_plot q_now_seen_night : Nat} {v_isKept : Int32} {v_squaresRead : Int32} {v_ordersDone : Int32} {v_ground_houses : Int32} {v_now_nights : Int32} {v_trade_rings : Int32} {v_now_town_houses : Int32} {v_now_town_front : Int32} {v_now_town_downFor : Int32} {v_trade_gets : (Nat → Int32)} {v_now_town_plotOf : (Nat → Int32)} {v_trade_isLeft : (Nat → Int32)} {v_ground_liked : (Nat → Int32)} {v_now_town_standsOn : (Nat → Int32)} {v_trade_pointsTo : (Nat → Int32)} {v_guess_town_houses : Int32} {v_guess_town_front : Int32} {v_guess_town_downFor : Int32} {v_now_town_kindOf : (Nat → Int32)} {v_guess_town_kindOf : (Nat → Int32)} {v_guess_town_plotOf : (Nat → Int32)} {v_now_town_row : (Nat → Int32)} {v_guess_town_row : (Nat → Int32)} {v_guess_town_standsOn : (Nat → Int32)} {v_guess_track_0 : (Nat → Int32)} {v_guess_track_1 : (Nat → Int32)} {v_guess_track_2 : (Nat → Int32)} {v_guess_track_3 : (Nat → Int32)} {v_guess_track_4 : (Nat → Int32)} {v_now_seen_size : Int32} {v_now_seen_house : (Nat → Int32)} {v_now_seen_night : (Nat → Int32)} {v_now_seen_plot : (Nat → Int32)} {v_now_had : (Nat → Int32)} {a1 : Int32} {a2 : Int32} {N : Nat} {ρ : Int32 × Int32 × (Nat → Int32) × (Nat → Int32) × (Nat → Int32) × Int32 × Int32 × Int32 × (Nat → Int32) × (Nat → Int32) × (Nat → Int32) × (Nat → Int32) × (Nat → Int32) × (Nat → Int32) × (Nat → Int32) × (Nat → Int32) × (Nat → Int32)} (X : CX p s m args c cX8_house 3 RX8 D (TY cI cZ cG) A) (hrm : RM R 5 120 cells slots) (ret : ∀ (pc : Nat) (H : Heap) (locs : List Loc) (ls : Array Slot), decode cX8_house pc = .ok (.ireturn, 1) → WD D A (kwX8_house cI cZ cG q q_page q_ground q_now q_kept q_ahead q_trade q_plan q_guess q_ground_worth q_ground_liked q_now_town q_now_had q_now_wishes q_now_seen q_trade_gets q_trade_pointsTo q_trade_isLeft q_now_town_kindOf q_now_town_plotOf q_now_town_row q_now_town_standsOn q_guess_track q_guess_town q_guess_town_kindOf q_guess_town_plotOf q_guess_town_row q_guess_town_standsOn q_guess_track_0 q_guess_track_1 q_guess_track_2 q_guess_track_3 q_guess_track_4 q_now_seen_house q_now_seen_plot q_now_seen_night v_isKept v_squaresRead v_ordersDone v_ground_houses v_now_nights (ρ.2.1) v_now_town_houses v_now_town_front v_now_town_downFor (ρ.2.2.1) v_now_town_plotOf (ρ.2.2.2.1) v_ground_liked v_now_town_standsOn (ρ.2.2.2.2.1) (ρ.2.2.2.2.2.1) (ρ.2.2.2.2.2.2.1) (ρ.2.2.2.2.2.2.2.1) v_now_town_kindOf (ρ.2.2.2.2.2.2.2.2.1) (ρ.2.2.2.2.2.2.2.2.2.1) v_now_town_row (ρ.2.2.2.2.2.2.2.2.2.2.1) (ρ.2.2.2.2.2.2.2.2.2.2.2.1) (ρ.2.2.2.2.2.2.2.2.2.2.2.2.1) (ρ.2.2.2.2.2.2.2.2.2.2.2.2.2.1) (ρ.2.2.2.2.2.2.2.2.2.2.2.2.2.2.1) (ρ.2.2.2.2.2.2.2.2.2.2.2.2.2.2.2.1) (ρ.2.2.2.2.2.2.2.2.2.2.2.2.2.2.2.2) v_now_seen_size v_now_seen_house v_now_seen_night v_now_seen_plot v_now_had) s.heap H locs → W p l e R s m args below meth c H locs cells slots Q (F0 m pc ls [.int ρ.1])) (h : fX8_house N v_ground_houses v_now_town_houses v_now_town_front v_now_town_downFor v_now_town_plotOf v_ground_liked v_now_town_standsOn v_now_town_kindOf v_now_town_row v_now_seen_size v_now_seen_house v_now_seen_night v_now_seen_plot v_now_had a1 a2 v_trade_rings v_trade_gets v_trade_isLeft v_trade_pointsTo v_guess_town_houses v_guess_town_front v_guess_town_downFor v_guess_town_kindOf v_guess_town_plotOf v_guess_town_row v_guess_town_standsOn v_guess_track_0 v_guess_track_1 v_guess_track_2 v_guess_track_3 v_guess_track_4  = some ρ) (H : Heap) (locs : List Loc) (ls : Array Slot) (hw : WD D A (kwX8_house cI cZ cG q q_page q_ground q_now q_kept q_ahead q_trade q_plan q_guess q_ground_worth q_ground_liked q_now_town q_now_had q_now_wishes q_now_seen q_trade_gets q_trade_pointsTo q_trade_isLeft q_now_town_kindOf q_now_town_plotOf q_now_town_row q_now_town_standsOn q_guess_track q_guess_town q_guess_town_kindOf q_guess_town_plotOf q_guess_town_row q_guess_town_standsOn q_guess_track_0 q_guess_track_1 q_guess_track_2 q_guess_track_3 q_guess_track_4 q_now_seen_house q_now_seen_plot q_now_seen_night v_isKept v_squaresRead v_ordersDone v_ground_houses v_now_nights v_trade_rings v_now_town_houses v_now_town_front v_now_town_downFor v_trade_gets v_now_town_plotOf v_trade_isLeft v_ground_liked v_now_town_standsOn v_trade_pointsTo v_guess_town_houses v_guess_town_front v_guess_town_downFor v_now_town_kindOf v_guess_town_kindOf v_guess_town_plotOf v_now_town_row v_guess_town_row v_guess_town_standsOn v_guess_track_0 v_guess_track_1 v_guess_track_2 v_guess_track_3 v_guess_track_4 v_now_seen_size v_now_seen_house v_now_seen_night v_now_seen_plot v_now_had) s.heap H locs) (hl : lv_has ls 3 [(0, .ref q), (1, .int a1), (2, .int a2)]) : W p l e R s m args below meth c H locs cells slots Q (F0 m 0 ls []) := by
  have hx := X.1.1
  have hb := X.1.2.1
  unfold fX8_house at h
  refine lv_aload_n hx hb dX8_house_0 rfl (lv_at hl 0 rfl) ?_
  refine lv_iload_n hx hb dX8_house_1 rfl (lv_at hl 1 rfl) ?_
  obtain ⟨x_2, hc_2, h⟩ := obd h
  refine ksV_i (ws2 := (kwX8_house cI cZ cG q q_page q_ground q_now q_kept q_ahead q_trade q_plan q_guess q_ground_worth q_ground_liked q_now_town q_now_had q_now_wishes q_now_seen q_trade_gets q_trade_pointsTo q_trade_isLeft q_now_town_kindOf q_now_town_plotOf q_now_town_row q_now_town_standsOn q_guess_track q_guess_town q_guess_town_kindOf q_guess_town_plotOf q_guess_town_row q_guess_town_standsOn q_guess_track_0 q_guess_track_1 q_guess_track_2 q_guess_track_3 q_guess_track_4 q_now_seen_house q_now_seen_plot q_now_seen_night v_isKept v_squaresRead v_ordersDone v_ground_houses v_now_nights v_trade_rings v_now_town_houses v_now_town_front v_now_town_downFor v_trade_gets v_now_town_plotOf v_trade_isLeft v_ground_liked v_now_town_standsOn v_trade_pointsTo v_guess_town_houses v_guess_town_front v_guess_town_downFor v_now_town_kindOf v_guess_town_kindOf v_guess_town_plotOf v_now_town_row v_guess_town_row v_guess_town_standsOn v_guess_track_0 v_guess_track_1 v_guess_track_2 v_guess_track_3 v_guess_track_4 v_now_seen_size v_now_seen_house v_now_seen_night v_now_seen_plot v_now_had)) (nW := 30) (ci := 8) (As := [.int a1]) (rest := []) X hw rfl rfl rfl (cX8_isHouse_ct l D cI cZ cG q q_page q_ground q_now q_kept q_ahead q_trade q_plan q_guess q_ground_worth q_ground_liked v_isKept v_squaresRead v_ordersDone v_ground_houses a1 N x_2 hc_2 H.size) mX8_isHouse tw_432 (hrm.call (by decide) (by decide)) [0, 1] rfl (by decide) rfl (by decide) rfl ⟨rfl, ⟨rfl, ⟨rfl, ⟨rfl, ⟨rfl, ⟨rfl, ⟨rfl, ⟨rfl, ⟨rfl, ⟨rfl, ⟨rfl, ⟨rfl, ⟨rfl, ⟨rfl, ⟨rfl, ⟨rfl, ⟨rfl, ⟨rfl, ⟨rfl, ⟨rfl, ⟨rfl, ⟨rfl, ⟨rfl, ⟨rfl, ⟨rfl, ⟨rfl, ⟨rfl, ⟨rfl, trivial⟩⟩⟩⟩⟩⟩⟩⟩⟩⟩⟩⟩⟩⟩⟩⟩⟩⟩⟩⟩⟩⟩⟩⟩⟩⟩⟩⟩ rfl hl.1 rfl (Nat.le_of_ble_eq_true rfl) dX8_house_2 ⟨hrm.2.2.1, hrm.2.2.2⟩ (fun H locs hw => ?_)
  refine lv_if_ne (tgt := 11) hx hb dX8_house_5 (by decide) (fun c_5 => ?_) (fun c_5 => ?_)
  · have h := iff_ c_5 h
    refine lv_iload_n hx hb dX8_house_11 rfl (lv_at hl 2 rfl) ?_
    by_cases c_12_0 : a2 = (0 : Int32)
    · have h := ift c_12_0 h
      refine lv_tableIn (off := 48) (tgt := 60) hx hb dX8_house_12 (by rw [c_12_0]; decide) (by rw [c_12_0]; decide) (by rw [c_12_0]; rfl) (by decide) ?_
      refine lv_aload_n hx hb dX8_house_60 rfl (lv_at hl 0 rfl) ?_
      refine kget (ci := 8) (v := .ref q_now) X hw iX8 0 rfl rfl 2 (by decide) tw_421 rfl dX8_house_61 ?_
      refine kget (ci := 5) (v := .ref q_now_town) X hw iX5 2 rfl rfl 0 (by decide) tw_433 rfl dX8_house_64 ?_
      refine kget (ci := 6) (v := .ref q_now_town_kindOf) X hw iX6 4 rfl rfl 0 (by decide) tw_434 rfl dX8_house_67 ?_
      refine lv_iload_n hx hb dX8_house_70 rfl (lv_at hl 1 rfl) ?_
      obtain ⟨g_71, h⟩ := gd h
      refine kiald X hw 13 rfl rfl g_71 dX8_house_71 ?_
      obtain rfl := Option.some.inj h
      exact ret _ _ _ _ dX8_house_72 hw
    have h := iff_ c_12_0 h
    by_cases c_12_1 : a2 = (1 : Int32)
    · have h := ift c_12_1 h
      refine lv_tableIn (off := 61) (tgt := 73) hx hb dX8_house_12 (by rw [c_12_1]; decide) (by rw [c_12_1]; decide) (by rw [c_12_1]; rfl) (by decide) ?_
      refine lv_aload_n hx hb dX8_house_73 rfl (lv_at hl 0 rfl) ?_
      refine kget (ci := 8) (v := .ref q_ground) X hw iX8 0 rfl rfl 1 (by decide) tw_419 rfl dX8_house_74 ?_
      refine kget (ci := 0) (v := .ref q_ground_liked) X hw iX0 1 rfl rfl 1 (by decide) tw_435 rfl dX8_house_77 ?_
      refine lv_iload_n hx hb dX8_house_80 rfl (lv_at hl 1 rfl) ?_
      obtain ⟨g_81, h⟩ := gd h
      refine kiald X hw 8 rfl rfl g_81 dX8_house_81 ?_
      obtain rfl := Option.some.inj h
      exact ret _ _ _ _ dX8_house_82 hw
    have h := iff_ c_12_1 h
    by_cases c_12_2 : a2 = (2 : Int32)
    · have h := ift c_12_2 h
      refine lv_tableIn (off := 71) (tgt := 83) hx hb dX8_house_12 (by rw [c_12_2]; decide) (by rw [c_12_2]; decide) (by rw [c_12_2]; rfl) (by decide) ?_
      refine lv_aload_n hx hb dX8_house_83 rfl (lv_at hl 0 rfl) ?_
      refine kget (ci := 8) (v := .ref q_now) X hw iX8 0 rfl rfl 2 (by decide) tw_421 rfl dX8_house_84 ?_
      refine kget (ci := 5) (v := .ref q_now_town) X hw iX5 2 rfl rfl 0 (by decide) tw_433 rfl dX8_house_87 ?_
      refine kget (ci := 6) (v := .ref q_now_town_plotOf) X hw iX6 4 rfl rfl 1 (by decide) tw_436 rfl dX8_house_90 ?_
      refine lv_iload_n hx hb dX8_house_93 rfl (lv_at hl 1 rfl) ?_
      obtain ⟨g_94, h⟩ := gd h
      refine kiald X hw 6 rfl rfl g_94 dX8_house_94 ?_
      obtain rfl := Option.some.inj h
      exact ret _ _ _ _ dX8_house_95 hw
    have h := iff_ c_12_2 h
    by_cases c_12_3 : a2 = (3 : Int32)
    · have h := ift c_12_3 h
      refine lv_tableIn (off := 84) (tgt := 96) hx hb dX8_house_12 (by rw [c_12_3]; decide) (by rw [c_12_3]; decide) (by rw [c_12_3]; rfl) (by decide) ?_
      refine lv_aload_n hx hb dX8_house_96 rfl (lv_at hl 0 rfl) ?_
      refine kget (ci := 8) (v := .ref q_now) X hw iX8 0 rfl rfl 2 (by decide) tw_421 rfl dX8_house_97 ?_
      refine kget (ci := 5) (v := .ref q_now_town) X hw iX5 2 rfl rfl 0 (by decide) tw_433 rfl dX8_house_100 ?_
      refine lv_iload_n hx hb dX8_house_103 rfl (lv_at hl 1 rfl) ?_
      obtain ⟨x_104, hc_104, h⟩ := obd h
      refine ksV_i (ws2 := (kwX8_house cI cZ cG q q_page q_ground q_now q_kept q_ahead q_trade q_plan q_guess q_ground_worth q_ground_liked q_now_town q_now_had q_now_wishes q_now_seen q_trade_gets q_trade_pointsTo q_trade_isLeft q_now_town_kindOf q_now_town_plotOf q_now_town_row q_now_town_standsOn q_guess_track q_guess_town q_guess_town_kindOf q_guess_town_plotOf q_guess_town_row q_guess_town_standsOn q_guess_track_0 q_guess_track_1 q_guess_track_2 q_guess_track_3 q_guess_track_4 q_now_seen_house q_now_seen_plot q_now_seen_night v_isKept v_squaresRead v_ordersDone v_ground_houses v_now_nights v_trade_rings v_now_town_houses v_now_town_front v_now_town_downFor v_trade_gets v_now_town_plotOf v_trade_isLeft v_ground_liked v_now_town_standsOn v_trade_pointsTo v_guess_town_houses v_guess_town_front v_guess_town_downFor v_now_town_kindOf v_guess_town_kindOf v_guess_town_plotOf v_now_town_row v_guess_town_row v_guess_town_standsOn v_guess_track_0 v_guess_track_1 v_guess_track_2 v_guess_track_3 v_guess_track_4 v_now_seen_size v_now_seen_house v_now_seen_night v_now_seen_plot v_now_had)) (nW := 30) (ci := 6) (As := [.int a1]) (rest := []) X hw rfl rfl rfl (cX6_placeInRow_ct l D cI cZ cG q_now_town q_now_town_kindOf q_now_town_plotOf q_now_town_row q_now_town_standsOn v_now_town_houses v_now_town_front v_now_town_downFor v_now_town_row a1 N x_104 hc_104 H.size) mX6_placeInRow tw_437 (hrm.call (by decide) (by decide)) [4, 16] rfl (by decide) rfl (by decide) rfl ⟨rfl, ⟨rfl, ⟨rfl, ⟨rfl, ⟨rfl, ⟨rfl, ⟨rfl, ⟨rfl, ⟨rfl, ⟨rfl, ⟨rfl, ⟨rfl, ⟨rfl, ⟨rfl, ⟨rfl, ⟨rfl, ⟨rfl, ⟨rfl, ⟨rfl, ⟨rfl, ⟨rfl, ⟨rfl, ⟨rfl, ⟨rfl, ⟨rfl, ⟨rfl, ⟨rfl, ⟨rfl, trivial⟩⟩⟩⟩⟩⟩⟩⟩⟩⟩⟩⟩⟩⟩⟩⟩⟩⟩⟩⟩⟩⟩⟩⟩⟩⟩⟩⟩ rfl hl.1 rfl (Nat.le_of_ble_eq_true rfl) dX8_house_104 ⟨hrm.2.2.1, hrm.2.2.2⟩ (fun H locs hw => ?_)
      obtain rfl := Option.some.inj h
      exact ret _ _ _ _ dX8_house_107 hw
    have h := iff_ c_12_3 h
    by_cases c_12_4 : a2 = (4 : Int32)
    · have h := ift c_12_4 h
      refine lv_tableIn (off := 96) (tgt := 108) hx hb dX8_house_12 (by rw [c_12_4]; decide) (by rw [c_12_4]; decide) (by rw [c_12_4]; rfl) (by decide) ?_
      refine lv_aload_n hx hb dX8_house_108 rfl (lv_at hl 0 rfl) ?_
      refine kget (ci := 8) (v := .ref q_now) X hw iX8 0 rfl rfl 2 (by decide) tw_421 rfl dX8_house_109 ?_
      refine kget (ci := 5) (v := .ref q_now_had) X hw iX5 2 rfl rfl 1 (by decide) tw_438 rfl dX8_house_112 ?_
      refine lv_iload_n hx hb dX8_house_115 rfl (lv_at hl 1 rfl) ?_
      obtain ⟨g_116, h⟩ := gd h
      refine kiald X hw 29 rfl rfl g_116 dX8_house_116 ?_
      obtain rfl := Option.some.inj h
      exact ret _ _ _ _ dX8_house_117 hw
    have h := iff_ c_12_4 h
    by_cases c_12_5 : a2 = (5 : Int32)
    · have h := ift c_12_5 h
      refine lv_tableIn (off := 106) (tgt := 118) hx hb dX8_house_12 (by rw [c_12_5]; decide) (by rw [c_12_5]; decide) (by rw [c_12_5]; rfl) (by decide) ?_
      refine lv_aload_n hx hb dX8_house_118 rfl (lv_at hl 0 rfl) ?_
      refine kget (ci := 8) (v := .ref q_guess) X hw iX8 0 rfl rfl 7 (by decide) tw_439 rfl dX8_house_119 ?_
      refine lv_iload_n hx hb dX8_house_122 rfl (lv_at hl 1 rfl) ?_
      refine lv_aload_n hx hb dX8_house_123 rfl (lv_at hl 0 rfl) ?_
      refine kget (ci := 8) (v := .ref q_now) X hw iX8 0 rfl rfl 2 (by decide) tw_421 rfl dX8_house_124 ?_
      obtain ⟨x_127, hc_127, h⟩ := obd h
      refine ksV_i (ws2 := (kwX8_house cI cZ cG q q_page q_ground q_now q_kept q_ahead q_trade q_plan q_guess q_ground_worth q_ground_liked q_now_town q_now_had q_now_wishes q_now_seen q_trade_gets q_trade_pointsTo q_trade_isLeft q_now_town_kindOf q_now_town_plotOf q_now_town_row q_now_town_standsOn q_guess_track q_guess_town q_guess_town_kindOf q_guess_town_plotOf q_guess_town_row q_guess_town_standsOn q_guess_track_0 q_guess_track_1 q_guess_track_2 q_guess_track_3 q_guess_track_4 q_now_seen_house q_now_seen_plot q_now_seen_night v_isKept v_squaresRead v_ordersDone v_ground_houses v_now_nights v_trade_rings v_now_town_houses v_now_town_front v_now_town_downFor v_trade_gets v_now_town_plotOf v_trade_isLeft v_ground_liked v_now_town_standsOn v_trade_pointsTo x_127.2.1 x_127.2.2.1 x_127.2.2.2.1 v_now_town_kindOf x_127.2.2.2.2.1 x_127.2.2.2.2.2.1 v_now_town_row x_127.2.2.2.2.2.2.1 x_127.2.2.2.2.2.2.2.1 x_127.2.2.2.2.2.2.2.2.1 x_127.2.2.2.2.2.2.2.2.2.1 x_127.2.2.2.2.2.2.2.2.2.2.1 x_127.2.2.2.2.2.2.2.2.2.2.2.1 x_127.2.2.2.2.2.2.2.2.2.2.2.2 v_now_seen_size v_now_seen_house v_now_seen_night v_now_seen_plot v_now_had)) (nW := 30) (ci := 1) (As := [.int a1, .ref q_now]) (rest := []) X hw rfl rfl rfl (cX1_kindsOf_ct l D cI cZ cG q_guess q_guess_track q_guess_town q_now q_now_town q_now_had q_now_wishes q_now_seen q_now_seen_house q_now_seen_plot q_now_seen_night q_guess_town_kindOf q_guess_town_plotOf q_guess_town_row q_guess_town_standsOn q_now_town_kindOf q_now_town_plotOf q_now_town_row q_now_town_standsOn q_guess_track_0 q_guess_track_1 q_guess_track_2 q_guess_track_3 q_guess_track_4 v_now_nights v_now_seen_size v_now_seen_night v_guess_town_houses v_guess_town_front v_guess_town_downFor v_now_town_houses v_now_town_front v_now_town_downFor v_now_town_kindOf v_guess_town_kindOf v_now_town_plotOf v_guess_town_plotOf v_now_town_row v_guess_town_row v_now_town_standsOn v_guess_town_standsOn v_guess_track_0 v_guess_track_1 v_guess_track_2 v_guess_track_3 v_guess_track_4 v_now_seen_house v_now_seen_plot a1 N x_127 hc_127 H.size) mX1_kindsOf tw_440 (hrm.call (by decide) (by decide)) [11, 2, 25, 27, 12, 4, 13, 14, 6, 15, 16, 17, 9, 18, 19, 20, 21, 22, 23, 24, 26, 28] rfl (by decide) rfl (by decide) rfl ⟨rfl, ⟨rfl, ⟨rfl, ⟨rfl, ⟨rfl, ⟨rfl, ⟨rfl, ⟨rfl, trivial⟩⟩⟩⟩⟩⟩⟩⟩ rfl hl.1 rfl (Nat.le_of_ble_eq_true rfl) dX8_house_127 ⟨hrm.2.2.1, hrm.2.2.2⟩ (fun H locs hw => ?_)
      obtain rfl := Option.some.inj h
      exact ret _ _ _ _ dX8_house_130 hw
    have h := iff_ c_12_5 h
    by_cases c_12_6 : a2 = (6 : Int32)
    · have h := ift c_12_6 h
      refine lv_tableIn (off := 119) (tgt := 131) hx hb dX8_house_12 (by rw [c_12_6]; decide) (by rw [c_12_6]; decide) (by rw [c_12_6]; rfl) (by decide) ?_
      refine lv_aload_n hx hb dX8_house_131 rfl (lv_at hl 0 rfl) ?_
      refine kget (ci := 8) (v := .ref q_guess) X hw iX8 0 rfl rfl 7 (by decide) tw_439 rfl dX8_house_132 ?_
      refine lv_iload_n hx hb dX8_house_135 rfl (lv_at hl 1 rfl) ?_
      refine lv_aload_n hx hb dX8_house_136 rfl (lv_at hl 0 rfl) ?_
      refine kget (ci := 8) (v := .ref q_now) X hw iX8 0 rfl rfl 2 (by decide) tw_421 rfl dX8_house_137 ?_
      obtain ⟨x_140, hc_140, h⟩ := obd h
      refine ksV_i (ws2 := (kwX8_house cI cZ cG q q_page q_ground q_now q_kept q_ahead q_trade q_plan q_guess q_ground_worth q_ground_liked q_now_town q_now_had q_now_wishes q_now_seen q_trade_gets q_trade_pointsTo q_trade_isLeft q_now_town_kindOf q_now_town_plotOf q_now_town_row q_now_town_standsOn q_guess_track q_guess_town q_guess_town_kindOf q_guess_town_plotOf q_guess_town_row q_guess_town_standsOn q_guess_track_0 q_guess_track_1 q_guess_track_2 q_guess_track_3 q_guess_track_4 q_now_seen_house q_now_seen_plot q_now_seen_night v_isKept v_squaresRead v_ordersDone v_ground_houses v_now_nights v_trade_rings v_now_town_houses v_now_town_front v_now_town_downFor v_trade_gets v_now_town_plotOf v_trade_isLeft v_ground_liked v_now_town_standsOn v_trade_pointsTo x_140.2.1 x_140.2.2.1 x_140.2.2.2.1 v_now_town_kindOf x_140.2.2.2.2.1 x_140.2.2.2.2.2.1 v_now_town_row x_140.2.2.2.2.2.2.1 x_140.2.2.2.2.2.2.2.1 x_140.2.2.2.2.2.2.2.2.1 x_140.2.2.2.2.2.2.2.2.2.1 x_140.2.2.2.2.2.2.2.2.2.2.1 x_140.2.2.2.2.2.2.2.2.2.2.2.1 x_140.2.2.2.2.2.2.2.2.2.2.2.2 v_now_seen_size v_now_seen_house v_now_seen_night v_now_seen_plot v_now_had)) (nW := 30) (ci := 1) (As := [.int a1, .ref q_now]) (rest := []) X hw rfl rfl rfl (cX1_nightToLook_ct l D cI cZ cG q_guess q_guess_track q_guess_town q_now q_now_town q_now_had q_now_wishes q_now_seen q_guess_town_kindOf q_guess_town_plotOf q_guess_town_row q_guess_town_standsOn q_now_town_kindOf q_now_town_plotOf q_now_town_row q_now_town_standsOn q_guess_track_0 q_guess_track_1 q_guess_track_2 q_guess_track_3 q_guess_track_4 q_now_seen_house q_now_seen_plot q_now_seen_night v_now_nights v_guess_town_houses v_guess_town_front v_guess_town_downFor v_now_town_houses v_now_town_front v_now_town_downFor v_now_town_kindOf v_guess_town_kindOf v_now_town_plotOf v_guess_town_plotOf v_now_town_row v_guess_town_row v_now_town_standsOn v_guess_town_standsOn v_guess_track_0 v_guess_track_1 v_guess_track_2 v_guess_track_3 v_guess_track_4 v_now_seen_size v_now_seen_house v_now_seen_night v_now_seen_plot a1 N x_140 hc_140 H.size) mX1_nightToLook tw_441 (hrm.call (by decide) (by decide)) [11, 2, 12, 4, 13, 14, 6, 15, 16, 17, 9, 18, 19, 20, 21, 22, 23, 24, 25, 26, 27, 28] rfl (by decide) rfl (by decide) rfl ⟨rfl, ⟨rfl, ⟨rfl, ⟨rfl, ⟨rfl, ⟨rfl, ⟨rfl, ⟨rfl, trivial⟩⟩⟩⟩⟩⟩⟩⟩ rfl hl.1 rfl (Nat.le_of_ble_eq_true rfl) dX8_house_140 ⟨hrm.2.2.1, hrm.2.2.2⟩ (fun H locs hw => ?_)
      obtain rfl := Option.some.inj h
      exact ret _ _ _ _ dX8_house_143 hw
    have h := iff_ c_12_6 h
    by_cases c_12_7 : a2 = (7 : Int32)
    · have h := ift c_12_7 h
      refine lv_tableIn (off := 132) (tgt := 144) hx hb dX8_house_12 (by rw [c_12_7]; decide) (by rw [c_12_7]; decide) (by rw [c_12_7]; rfl) (by decide) ?_
      refine lv_aload_n hx hb dX8_house_144 rfl (lv_at hl 0 rfl) ?_
      refine kget (ci := 8) (v := .ref q_trade) X hw iX8 0 rfl rfl 5 (by decide) tw_442 rfl dX8_house_145 ?_
      refine lv_aload_n hx hb dX8_house_148 rfl (lv_at hl 0 rfl) ?_
      refine kget (ci := 8) (v := .ref q_now) X hw iX8 0 rfl rfl 2 (by decide) tw_421 rfl dX8_house_149 ?_
      refine kget (ci := 5) (v := .ref q_now_town) X hw iX5 2 rfl rfl 0 (by decide) tw_433 rfl dX8_house_152 ?_
      refine lv_aload_n hx hb dX8_house_155 rfl (lv_at hl 0 rfl) ?_
      refine kget (ci := 8) (v := .ref q_ground) X hw iX8 0 rfl rfl 1 (by decide) tw_419 rfl dX8_house_156 ?_
      obtain ⟨x_159, hc_159, h⟩ := obd h
      refine ksV_v (ws2 := (kwX8_house cI cZ cG q q_page q_ground q_now q_kept q_ahead q_trade q_plan q_guess q_ground_worth q_ground_liked q_now_town q_now_had q_now_wishes q_now_seen q_trade_gets q_trade_pointsTo q_trade_isLeft q_now_town_kindOf q_now_town_plotOf q_now_town_row q_now_town_standsOn q_guess_track q_guess_town q_guess_town_kindOf q_guess_town_plotOf q_guess_town_row q_guess_town_standsOn q_guess_track_0 q_guess_track_1 q_guess_track_2 q_guess_track_3 q_guess_track_4 q_now_seen_house q_now_seen_plot q_now_seen_night v_isKept v_squaresRead v_ordersDone v_ground_houses v_now_nights x_159.1 v_now_town_houses v_now_town_front v_now_town_downFor x_159.2.1 v_now_town_plotOf x_159.2.2.1 v_ground_liked v_now_town_standsOn x_159.2.2.2 v_guess_town_houses v_guess_town_front v_guess_town_downFor v_now_town_kindOf v_guess_town_kindOf v_guess_town_plotOf v_now_town_row v_guess_town_row v_guess_town_standsOn v_guess_track_0 v_guess_track_1 v_guess_track_2 v_guess_track_3 v_guess_track_4 v_now_seen_size v_now_seen_house v_now_seen_night v_now_seen_plot v_now_had)) (nW := 30) (ci := 7) (As := [.ref q_now_town, .ref q_ground]) (rest := []) X hw rfl rfl rfl (cX7_close_ct l D cI cZ cG q_trade q_trade_gets q_trade_pointsTo q_trade_isLeft q_now_town q_now_town_kindOf q_now_town_plotOf q_now_town_row q_now_town_standsOn q_ground q_ground_worth q_ground_liked v_trade_rings v_now_town_houses v_now_town_front v_now_town_downFor v_trade_gets v_now_town_plotOf v_trade_isLeft v_ground_houses v_ground_liked v_now_town_standsOn v_trade_pointsTo N x_159 hc_159 H.size) mX7_close tw_443 (hrm.call (by decide) (by decide)) [3, 4, 5, 6, 7, 1, 8, 9, 10] rfl (by decide) rfl (by decide) rfl ⟨rfl, ⟨rfl, ⟨rfl, ⟨rfl, ⟨rfl, ⟨rfl, ⟨rfl, ⟨rfl, ⟨rfl, ⟨rfl, ⟨rfl, ⟨rfl, ⟨rfl, ⟨rfl, ⟨rfl, ⟨rfl, ⟨rfl, ⟨rfl, ⟨rfl, ⟨rfl, ⟨rfl, trivial⟩⟩⟩⟩⟩⟩⟩⟩⟩⟩⟩⟩⟩⟩⟩⟩⟩⟩⟩⟩⟩ rfl hl.1 rfl (Nat.le_of_ble_eq_true rfl) dX8_house_159 ⟨hrm.2.2.1, hrm.2.2.2⟩ (fun H locs hw => ?_)
      refine lv_aload_n hx hb dX8_house_162 rfl (lv_at hl 0 rfl) ?_
      refine kget (ci := 8) (v := .ref q_trade) X hw iX8 0 rfl rfl 5 (by decide) tw_442 rfl dX8_house_163 ?_
      refine kget (ci := 7) (v := .ref q_trade_gets) X hw iX7 3 rfl rfl 0 (by decide) tw_444 rfl dX8_house_166 ?_
      refine lv_iload_n hx hb dX8_house_169 rfl (lv_at hl 1 rfl) ?_
      obtain ⟨g_170, h⟩ := gd h
      refine kiald X hw 5 rfl rfl g_170 dX8_house_170 ?_
      obtain rfl := Option.some.inj h
      exact ret _ _ _ _ dX8_house_171 hw
    have h := iff_ c_12_7 h
    refine lv_tableOut (tgt := 172) hx hb dX8_house_12 (by have n0 := lv_neT c_12_0 (a := 0) (by decide); have n1 := lv_neT c_12_1 (a := 1) (by decide); have n2 := lv_neT c_12_2 (a := 2) (by decide); have n3 := lv_neT c_12_3 (a := 3) (by decide); have n4 := lv_neT c_12_4 (a := 4) (by decide); have n5 := lv_neT c_12_5 (a := 5) (by decide); have n6 := lv_neT c_12_6 (a := 6) (by decide); have n7 := lv_neT c_12_7 (a := 7) (by decide); omega) (by decide) ?_
    refine lv_bipush (v := (-102 : Int32)) hx hb dX8_house_172 (by decide) ?_
    obtain rfl := Option.some.inj h
    exact ret _ _ _ _ dX8_house_174 hw
  · have h := ift c_5 h
    refine lv_bipush (v := (-101 : Int32)) hx hb dX8_house_8 (by decide) ?_
    obtain rfl := Option.some.inj h
    exact ret _ _ _ _ dX8_house_10 hw
set_option maxHeartbeats 4000000 in
set_option maxRecDepth 100000 in
theorem cX8_house_ct (l : Launch) (D : va_G) (cI cZ cG : ClassId) (q q_page q_ground q_now q_kept q_ahead q_trade q_plan q_guess q_ground_worth q_ground_liked q_now_town q_now_had q_now_wishes q_now_seen q_trade_gets q_trade_pointsTo q_trade_isLeft q_now_town_kindOf q_now_town_plotOf q_now_town_row q_now_town_standsOn q_guess_track q_guess_town q_guess_town_kindOf q_guess_town_plotOf q_guess_town_row q_guess_town_standsOn q_guess_track_0 q_guess_track_1 q_guess_track_2 q_guess_track_3 q_guess_track_4 q_now_seen_house q_now_seen_plot q_now_seen_night : Nat)  (v_isKept : Int32) (v_squaresRead : Int32) (v_ordersDone : Int32) (v_ground_houses : Int32) (v_now_nights : Int32) (v_trade_rings : Int32) (v_now_town_houses : Int32) (v_now_town_front : Int32) (v_now_town_downFor : Int32) (v_trade_gets : (Nat → Int32)) (v_now_town_plotOf : (Nat → Int32)) (v_trade_isLeft : (Nat → Int32)) (v_ground_liked : (Nat → Int32)) (v_now_town_standsOn : (Nat → Int32)) (v_trade_pointsTo : (Nat → Int32)) (v_guess_town_houses : Int32) (v_guess_town_front : Int32) (v_guess_town_downFor : Int32) (v_now_town_kindOf : (Nat → Int32)) (v_guess_town_kindOf : (Nat → Int32)) (v_guess_town_plotOf : (Nat → Int32)) (v_now_town_row : (Nat → Int32)) (v_guess_town_row : (Nat → Int32)) (v_guess_town_standsOn : (Nat → Int32)) (v_guess_track_0 : (Nat → Int32)) (v_guess_track_1 : (Nat → Int32)) (v_guess_track_2 : (Nat → Int32)) (v_guess_track_3 : (Nat → Int32)) (v_guess_track_4 : (Nat → Int32)) (v_now_seen_size : Int32) (v_now_seen_house : (Nat → Int32)) (v_now_seen_night : (Nat → Int32)) (v_now_seen_plot : (Nat → Int32)) (v_now_had : (Nat → Int32)) (a1 : Int32) (a2 : Int32) (N : Nat) (ρ : Int32 × Int32 × (Nat → Int32) × (Nat → Int32) × (Nat → Int32) × Int32 × Int32 × Int32 × (Nat → Int32) × (Nat → Int32) × (Nat → Int32) × (Nat → Int32) × (Nat → Int32) × (Nat → Int32) × (Nat → Int32) × (Nat → Int32) × (Nat → Int32)) (h : fX8_house N v_ground_houses v_now_town_houses v_now_town_front v_now_town_downFor v_now_town_plotOf v_ground_liked v_now_town_standsOn v_now_town_kindOf v_now_town_row v_now_seen_size v_now_seen_house v_now_seen_night v_now_seen_plot v_now_had a1 a2 v_trade_rings v_trade_gets v_trade_isLeft v_trade_pointsTo v_guess_town_houses v_guess_town_front v_guess_town_downFor v_guess_town_kindOf v_guess_town_plotOf v_guess_town_row v_guess_town_standsOn v_guess_track_0 v_guess_track_1 v_guess_track_2 v_guess_track_3 v_guess_track_4  = some ρ) (sz : Nat) : Met l yX8_house (wz yX8_house cX8_house 3 (some .int)) (cRm 5 120) (cPre D (TY cI cZ cG) [.ref q, .int a1, .int a2] (kwX8_house cI cZ cG q q_page q_ground q_now q_kept q_ahead q_trade q_plan q_guess q_ground_worth q_ground_liked q_now_town q_now_had q_now_wishes q_now_seen q_trade_gets q_trade_pointsTo q_trade_isLeft q_now_town_kindOf q_now_town_plotOf q_now_town_row q_now_town_standsOn q_guess_track q_guess_town q_guess_town_kindOf q_guess_town_plotOf q_guess_town_row q_guess_town_standsOn q_guess_track_0 q_guess_track_1 q_guess_track_2 q_guess_track_3 q_guess_track_4 q_now_seen_house q_now_seen_plot q_now_seen_night v_isKept v_squaresRead v_ordersDone v_ground_houses v_now_nights v_trade_rings v_now_town_houses v_now_town_front v_now_town_downFor v_trade_gets v_now_town_plotOf v_trade_isLeft v_ground_liked v_now_town_standsOn v_trade_pointsTo v_guess_town_houses v_guess_town_front v_guess_town_downFor v_now_town_kindOf v_guess_town_kindOf v_guess_town_plotOf v_now_town_row v_guess_town_row v_guess_town_standsOn v_guess_track_0 v_guess_track_1 v_guess_track_2 v_guess_track_3 v_guess_track_4 v_now_seen_size v_now_seen_house v_now_seen_night v_now_seen_plot v_now_had) sz) (cQi D (ρ.1) (kwX8_house cI cZ cG q q_page q_ground q_now q_kept q_ahead q_trade q_plan q_guess q_ground_worth q_ground_liked q_now_town q_now_had q_now_wishes q_now_seen q_trade_gets q_trade_pointsTo q_trade_isLeft q_now_town_kindOf q_now_town_plotOf q_now_town_row q_now_town_standsOn q_guess_track q_guess_town q_guess_town_kindOf q_guess_town_plotOf q_guess_town_row q_guess_town_standsOn q_guess_track_0 q_guess_track_1 q_guess_track_2 q_guess_track_3 q_guess_track_4 q_now_seen_house q_now_seen_plot q_now_seen_night v_isKept v_squaresRead v_ordersDone v_ground_houses v_now_nights v_trade_rings v_now_town_houses v_now_town_front v_now_town_downFor v_trade_gets v_now_town_plotOf v_trade_isLeft v_ground_liked v_now_town_standsOn v_trade_pointsTo v_guess_town_houses v_guess_town_front v_guess_town_downFor v_now_town_kindOf v_guess_town_kindOf v_guess_town_plotOf v_now_town_row v_guess_town_row v_guess_town_standsOn v_guess_track_0 v_guess_track_1 v_guess_track_2 v_guess_track_3 v_guess_track_4 v_now_seen_size v_now_seen_house v_now_seen_night v_now_seen_plot v_now_had) (kwX8_house cI cZ cG q q_page q_ground q_now q_kept q_ahead q_trade q_plan q_guess q_ground_worth q_ground_liked q_now_town q_now_had q_now_wishes q_now_seen q_trade_gets q_trade_pointsTo q_trade_isLeft q_now_town_kindOf q_now_town_plotOf q_now_town_row q_now_town_standsOn q_guess_track q_guess_town q_guess_town_kindOf q_guess_town_plotOf q_guess_town_row q_guess_town_standsOn q_guess_track_0 q_guess_track_1 q_guess_track_2 q_guess_track_3 q_guess_track_4 q_now_seen_house q_now_seen_plot q_now_seen_night v_isKept v_squaresRead v_ordersDone v_ground_houses v_now_nights (ρ.2.1) v_now_town_houses v_now_town_front v_now_town_downFor (ρ.2.2.1) v_now_town_plotOf (ρ.2.2.2.1) v_ground_liked v_now_town_standsOn (ρ.2.2.2.2.1) (ρ.2.2.2.2.2.1) (ρ.2.2.2.2.2.2.1) (ρ.2.2.2.2.2.2.2.1) v_now_town_kindOf (ρ.2.2.2.2.2.2.2.2.1) (ρ.2.2.2.2.2.2.2.2.2.1) v_now_town_row (ρ.2.2.2.2.2.2.2.2.2.2.1) (ρ.2.2.2.2.2.2.2.2.2.2.2.1) (ρ.2.2.2.2.2.2.2.2.2.2.2.2.1) (ρ.2.2.2.2.2.2.2.2.2.2.2.2.2.1) (ρ.2.2.2.2.2.2.2.2.2.2.2.2.2.2.1) (ρ.2.2.2.2.2.2.2.2.2.2.2.2.2.2.2.1) (ρ.2.2.2.2.2.2.2.2.2.2.2.2.2.2.2.2) v_now_seen_size v_now_seen_house v_now_seen_night v_now_seen_plot v_now_had) sz) 0 0 (va_A (kwX8_house cI cZ cG q q_page q_ground q_now q_kept q_ahead q_trade q_plan q_guess q_ground_worth q_ground_liked q_now_town q_now_had q_now_wishes q_now_seen q_trade_gets q_trade_pointsTo q_trade_isLeft q_now_town_kindOf q_now_town_plotOf q_now_town_row q_now_town_standsOn q_guess_track q_guess_town q_guess_town_kindOf q_guess_town_plotOf q_guess_town_row q_guess_town_standsOn q_guess_track_0 q_guess_track_1 q_guess_track_2 q_guess_track_3 q_guess_track_4 q_now_seen_house q_now_seen_plot q_now_seen_night v_isKept v_squaresRead v_ordersDone v_ground_houses v_now_nights v_trade_rings v_now_town_houses v_now_town_front v_now_town_downFor v_trade_gets v_now_town_plotOf v_trade_isLeft v_ground_liked v_now_town_standsOn v_trade_pointsTo v_guess_town_houses v_guess_town_front v_guess_town_downFor v_now_town_kindOf v_guess_town_kindOf v_guess_town_plotOf v_now_town_row v_guess_town_row v_guess_town_standsOn v_guess_track_0 v_guess_track_1 v_guess_track_2 v_guess_track_3 v_guess_track_4 v_now_seen_size v_now_seen_house v_now_seen_night v_now_seen_plot v_now_had) sz) :=
  mk_i (by decide) (Nat.le_of_ble_eq_true rfl) (fun X hrm ret hw hl => wX8_house X hrm ret h _ _ _ hw hl)
theorem dX8_isKind_0 : decode cX8_isKind 0 = .ok (.iload_n 0, 1) := by decide +kernel
theorem dX8_isKind_1 : decode cX8_isKind 1 = .ok (.ifCond .lt 12, 3) := by decide +kernel
theorem dX8_isKind_4 : decode cX8_isKind 4 = .ok (.iload_n 0, 1) := by decide +kernel
theorem dX8_isKind_5 : decode cX8_isKind 5 = .ok (.iconst 5, 1) := by decide +kernel
theorem dX8_isKind_6 : decode cX8_isKind 6 = .ok (.if_icmp .ge 7, 3) := by decide +kernel
theorem dX8_isKind_9 : decode cX8_isKind 9 = .ok (.iconst 1, 1) := by decide +kernel
theorem dX8_isKind_10 : decode cX8_isKind 10 = .ok (.goto 4, 3) := by decide +kernel
theorem dX8_isKind_13 : decode cX8_isKind 13 = .ok (.iconst 0, 1) := by decide +kernel
theorem dX8_isKind_14 : decode cX8_isKind 14 = .ok (.ireturn, 1) := by decide +kernel
abbrev kwX8_isKind (cI cZ cG : ClassId) : va_W := []
noncomputable def fX8_isKind (N : Nat) (a0 : Int32)   : Option (Int32) := if a0 < 0 then (some (0 : Int32)) else (if (5 : Int32) ≤ a0 then (some (0 : Int32)) else (some (1 : Int32)))
set_option maxHeartbeats 4000000 in
set_option maxRecDepth 100000 in
theorem wX8_isKind {p : Program} {l : Launch} {e : Env} {R : Room} {s : State} {m : MethodId} {args : Array Value} {below : List Frame} {meth : Method} {c : Code} {cells slots : Nat} {Q : State → Prop} {D : va_G} {A : Nat → Prop} {cI cZ cG : ClassId} {a0 : Int32} {N : Nat} {ρ : Int32} (X : CX p s m args c cX8_isKind 1 RX8 D (TY cI cZ cG) A) (hrm : RM R 0 0 cells slots) (ret : ∀ (pc : Nat) (H : Heap) (locs : List Loc) (ls : Array Slot), narrow .boolean (.int ρ) = .int ρ → decode cX8_isKind pc = .ok (.ireturn, 1) → WD D A (kwX8_isKind cI cZ cG) s.heap H locs → W p l e R s m args below meth c H locs cells slots Q (F0 m pc ls [.int ρ])) (h : fX8_isKind N a0   = some ρ) (H : Heap) (locs : List Loc) (ls : Array Slot) (hw : WD D A (kwX8_isKind cI cZ cG) s.heap H locs) (hl : lv_has ls 1 [(0, .int a0)]) : W p l e R s m args below meth c H locs cells slots Q (F0 m 0 ls []) := by
  have hx := X.1.1
  have hb := X.1.2.1
  unfold fX8_isKind at h
  refine lv_iload_n hx hb dX8_isKind_0 rfl (lv_at hl 0 rfl) ?_
  refine lv_if_lt (tgt := 13) hx hb dX8_isKind_1 (by decide) (fun c_1 => ?_) (fun c_1 => ?_)
  · have h := ift c_1 h
    refine lv_iconst (v := (0 : Int32)) hx hb dX8_isKind_13 (by decide) ?_
    obtain rfl := Option.some.inj h
    exact ret _ _ _ _ (show narrow .boolean (.int (0 : Int32)) = .int (0 : Int32) from rfl) dX8_isKind_14 hw
  · have h := iff_ c_1 h
    refine lv_iload_n hx hb dX8_isKind_4 rfl (lv_at hl 0 rfl) ?_
    refine lv_iconst (v := (5 : Int32)) hx hb dX8_isKind_5 (by decide) ?_
    refine lv_icmp_ge (tgt := 13) hx hb dX8_isKind_6 (by decide) (fun c_6 => ?_) (fun c_6 => ?_)
    · have h := ift c_6 h
      refine lv_iconst (v := (0 : Int32)) hx hb dX8_isKind_13 (by decide) ?_
      obtain rfl := Option.some.inj h
      exact ret _ _ _ _ (show narrow .boolean (.int (0 : Int32)) = .int (0 : Int32) from rfl) dX8_isKind_14 hw
    · have h := iff_ c_6 h
      refine lv_iconst (v := (1 : Int32)) hx hb dX8_isKind_9 (by decide) ?_
      refine lv_goto (tgt := 14) hx hb dX8_isKind_10 (by decide) ?_
      obtain rfl := Option.some.inj h
      exact ret _ _ _ _ (show narrow .boolean (.int (1 : Int32)) = .int (1 : Int32) from rfl) dX8_isKind_14 hw
set_option maxHeartbeats 4000000 in
set_option maxRecDepth 100000 in
theorem cX8_isKind_ct (l : Launch) (D : va_G) (cI cZ cG : ClassId)    (a0 : Int32) (N : Nat) (ρ : Int32) (h : fX8_isKind N a0   = some ρ) (sz : Nat) : Met l yX8_isKind (wz yX8_isKind cX8_isKind 1 (some .boolean)) (cRm 0 0) (cPre D (TY cI cZ cG) [.int a0] (kwX8_isKind cI cZ cG) sz) (cQi D (ρ) (kwX8_isKind cI cZ cG) (kwX8_isKind cI cZ cG) sz) 0 0 (va_A (kwX8_isKind cI cZ cG) sz) :=
  mk_z (by decide) (Nat.le_of_ble_eq_true rfl) (fun X hrm ret hw hl => wX8_isKind X hrm ret h _ _ _ hw hl)
theorem dX8_as_0 : decode cX8_as 0 = .ok (.aload_n 0, 1) := by decide +kernel
theorem dX8_as_1 : decode cX8_as 1 = .ok (.iload_n 1, 1) := by decide +kernel
theorem dX8_as_2 : decode cX8_as 2 = .ok (.invokevirtual 94, 3) := by decide +kernel
theorem dX8_as_5 : decode cX8_as 5 = .ok (.ifCond .ne 6, 3) := by decide +kernel
theorem dX8_as_8 : decode cX8_as 8 = .ok (.bipush (-101), 2) := by decide +kernel
theorem dX8_as_10 : decode cX8_as 10 = .ok (.ireturn, 1) := by decide +kernel
theorem dX8_as_11 : decode cX8_as 11 = .ok (.iload_n 2, 1) := by decide +kernel
theorem dX8_as_12 : decode cX8_as 12 = .ok (.invokestatic 132, 3) := by decide +kernel
theorem dX8_as_15 : decode cX8_as 15 = .ok (.ifCond .ne 6, 3) := by decide +kernel
theorem dX8_as_18 : decode cX8_as 18 = .ok (.bipush (-102), 2) := by decide +kernel
theorem dX8_as_20 : decode cX8_as 20 = .ok (.ireturn, 1) := by decide +kernel
theorem dX8_as_21 : decode cX8_as 21 = .ok (.aload_n 0, 1) := by decide +kernel
theorem dX8_as_22 : decode cX8_as 22 = .ok (.getfield 26, 3) := by decide +kernel
theorem dX8_as_25 : decode cX8_as 25 = .ok (.getfield 98, 3) := by decide +kernel
theorem dX8_as_28 : decode cX8_as 28 = .ok (.getfield 101, 3) := by decide +kernel
theorem dX8_as_31 : decode cX8_as 31 = .ok (.iload_n 1, 1) := by decide +kernel
theorem dX8_as_32 : decode cX8_as 32 = .ok (.iaload, 1) := by decide +kernel
theorem dX8_as_33 : decode cX8_as 33 = .ok (.istore_n 3, 1) := by decide +kernel
theorem dX8_as_34 : decode cX8_as 34 = .ok (.iload_n 2, 1) := by decide +kernel
theorem dX8_as_35 : decode cX8_as 35 = .ok (.ifCond .eq 18, 3) := by decide +kernel
theorem dX8_as_38 : decode cX8_as 38 = .ok (.iload_n 2, 1) := by decide +kernel
theorem dX8_as_39 : decode cX8_as 39 = .ok (.iload_n 3, 1) := by decide +kernel
theorem dX8_as_40 : decode cX8_as 40 = .ok (.if_icmp .eq 13, 3) := by decide +kernel
theorem dX8_as_43 : decode cX8_as 43 = .ok (.iload_n 2, 1) := by decide +kernel
theorem dX8_as_44 : decode cX8_as 44 = .ok (.iconst 1, 1) := by decide +kernel
theorem dX8_as_45 : decode cX8_as 45 = .ok (.if_icmp .ne 12, 3) := by decide +kernel
theorem dX8_as_48 : decode cX8_as 48 = .ok (.iload_n 3, 1) := by decide +kernel
theorem dX8_as_49 : decode cX8_as 49 = .ok (.iconst 4, 1) := by decide +kernel
theorem dX8_as_50 : decode cX8_as 50 = .ok (.if_icmp .ne 7, 3) := by decide +kernel
theorem dX8_as_53 : decode cX8_as 53 = .ok (.iconst 1, 1) := by decide +kernel
theorem dX8_as_54 : decode cX8_as 54 = .ok (.goto 4, 3) := by decide +kernel
theorem dX8_as_57 : decode cX8_as 57 = .ok (.iconst 0, 1) := by decide +kernel
theorem dX8_as_58 : decode cX8_as 58 = .ok (.istore 4, 2) := by decide +kernel
theorem dX8_as_60 : decode cX8_as 60 = .ok (.iload 4, 2) := by decide +kernel
theorem dX8_as_62 : decode cX8_as 62 = .ok (.ifCond .eq 7, 3) := by decide +kernel
theorem dX8_as_65 : decode cX8_as 65 = .ok (.iload_n 1, 1) := by decide +kernel
theorem dX8_as_66 : decode cX8_as 66 = .ok (.goto 4, 3) := by decide +kernel
theorem dX8_as_69 : decode cX8_as 69 = .ok (.iconst (-1), 1) := by decide +kernel
theorem dX8_as_70 : decode cX8_as 70 = .ok (.ireturn, 1) := by decide +kernel
abbrev kwX8_as (cI cZ cG : ClassId) (q q_page q_ground q_now q_kept q_ahead q_trade q_plan q_guess q_ground_worth q_ground_liked q_now_town q_now_had q_now_wishes q_now_seen q_now_town_kindOf q_now_town_plotOf q_now_town_row q_now_town_standsOn : Nat) (v_isKept : Int32) (v_squaresRead : Int32) (v_ordersDone : Int32) (v_ground_houses : Int32) (v_now_nights : Int32) (v_now_town_houses : Int32) (v_now_town_front : Int32) (v_now_town_downFor : Int32) (v_now_town_kindOf : (Nat → Int32)) : va_W := [(q, .inr (8, [.ref q_page, .ref q_ground, .ref q_now, .ref q_kept, .ref q_ahead, .ref q_trade, .ref q_plan, .ref q_guess, .int v_isKept, .int v_squaresRead, .int v_ordersDone])), (q_ground, .inr (0, [.ref q_ground_worth, .ref q_ground_liked, .int v_ground_houses])), (q_now, .inr (5, [.ref q_now_town, .ref q_now_had, .ref q_now_wishes, .ref q_now_seen, .int v_now_nights])), (q_now_town, .inr (6, [.ref q_now_town_kindOf, .ref q_now_town_plotOf, .ref q_now_town_row, .ref q_now_town_standsOn, .int v_now_town_houses, .int v_now_town_front, .int v_now_town_downFor])), (q_now_town_kindOf, .inl (cI, 6, .inl v_now_town_kindOf))]
noncomputable def fX8_as (N : Nat) (v_ground_houses : Int32) (v_now_town_kindOf : (Nat → Int32)) (a1 : Int32) (a2 : Int32)   : Option (Int32) := (fX8_isHouse N v_ground_houses a1).bind (fun x_2 => if x_2 = 0 then (some (-101 : Int32)) else ((fX8_isKind N a2).bind (fun x_12 => if x_12 = 0 then (some (-102 : Int32)) else (if a1 < 0 ∨ 6 ≤ (a1).toNatClampNeg then none else (if a2 = 0 then (some a1) else (if a2 = (v_now_town_kindOf (a1).toNatClampNeg) then (some a1) else (if a2 = (1 : Int32) then (if (v_now_town_kindOf (a1).toNatClampNeg) = (4 : Int32) then (some a1) else (some (-1 : Int32))) else (some (-1 : Int32)))))))))
set_option maxHeartbeats 4000000 in
set_option maxRecDepth 100000 in
theorem wX8_as {p : Program} {l : Launch} {e : Env} {R : Room} {s : State} {m : MethodId} {args : Array Value} {below : List Frame} {meth : Method} {c : Code} {cells slots : Nat} {Q : State → Prop} {D : va_G} {A : Nat → Prop} {cI cZ cG : ClassId} {q q_page q_ground q_now q_kept q_ahead q_trade q_plan q_guess q_ground_worth q_ground_liked q_now_town q_now_had q_now_wishes q_now_seen q_now_town_kindOf q_now_town_plotOf q_now_town_row q_now_town_standsOn : Nat} {v_isKept : Int32} {v_squaresRead : Int32} {v_ordersDone : Int32} {v_ground_houses : Int32} {v_now_nights : Int32} {v_now_town_houses : Int32} {v_now_town_front : Int32} {v_now_town_downFor : Int32} {v_now_town_kindOf : (Nat → Int32)} {a1 : Int32} {a2 : Int32} {N : Nat} {ρ : Int32} (X : CX p s m args c cX8_as 5 RX8 D (TY cI cZ cG) A) (hrm : RM R 1 21 cells slots) (ret : ∀ (pc : Nat) (H : Heap) (locs : List Loc) (ls : Array Slot), decode cX8_as pc = .ok (.ireturn, 1) → WD D A (kwX8_as cI cZ cG q q_page q_ground q_now q_kept q_ahead q_trade q_plan q_guess q_ground_worth q_ground_liked q_now_town q_now_had q_now_wishes q_now_seen q_now_town_kindOf q_now_town_plotOf q_now_town_row q_now_town_standsOn v_isKept v_squaresRead v_ordersDone v_ground_houses v_now_nights v_now_town_houses v_now_town_front v_now_town_downFor v_now_town_kindOf) s.heap H locs → W p l e R s m args below meth c H locs cells slots Q (F0 m pc ls [.int ρ])) (h : fX8_as N v_ground_houses v_now_town_kindOf a1 a2   = some ρ) (H : Heap) (locs : List Loc) (ls : Array Slot) (hw : WD D A (kwX8_as cI cZ cG q q_page q_ground q_now q_kept q_ahead q_trade q_plan q_guess q_ground_worth q_ground_liked q_now_town q_now_had q_now_wishes q_now_seen q_now_town_kindOf q_now_town_plotOf q_now_town_row q_now_town_standsOn v_isKept v_squaresRead v_ordersDone v_ground_houses v_now_nights v_now_town_houses v_now_town_front v_now_town_downFor v_now_town_kindOf) s.heap H locs) (hl : lv_has ls 5 [(0, .ref q), (1, .int a1), (2, .int a2)]) : W p l e R s m args below meth c H locs cells slots Q (F0 m 0 ls []) := by
  have hx := X.1.1
  have hb := X.1.2.1
  unfold fX8_as at h
  refine lv_aload_n hx hb dX8_as_0 rfl (lv_at hl 0 rfl) ?_
  refine lv_iload_n hx hb dX8_as_1 rfl (lv_at hl 1 rfl) ?_
  obtain ⟨x_2, hc_2, h⟩ := obd h
  refine ksV_i (ws2 := (kwX8_as cI cZ cG q q_page q_ground q_now q_kept q_ahead q_trade q_plan q_guess q_ground_worth q_ground_liked q_now_town q_now_had q_now_wishes q_now_seen q_now_town_kindOf q_now_town_plotOf q_now_town_row q_now_town_standsOn v_isKept v_squaresRead v_ordersDone v_ground_houses v_now_nights v_now_town_houses v_now_town_front v_now_town_downFor v_now_town_kindOf)) (nW := 5) (ci := 8) (As := [.int a1]) (rest := []) X hw rfl rfl rfl (cX8_isHouse_ct l D cI cZ cG q q_page q_ground q_now q_kept q_ahead q_trade q_plan q_guess q_ground_worth q_ground_liked v_isKept v_squaresRead v_ordersDone v_ground_houses a1 N x_2 hc_2 H.size) mX8_isHouse tw_432 (hrm.call (by decide) (by decide)) [0, 1] rfl (by decide) rfl (by decide) rfl ⟨rfl, ⟨rfl, ⟨rfl, trivial⟩⟩⟩ rfl hl.1 rfl (Nat.le_of_ble_eq_true rfl) dX8_as_2 ⟨hrm.2.2.1, hrm.2.2.2⟩ (fun H locs hw => ?_)
  refine lv_if_ne (tgt := 11) hx hb dX8_as_5 (by decide) (fun c_5 => ?_) (fun c_5 => ?_)
  · have h := iff_ c_5 h
    refine lv_iload_n hx hb dX8_as_11 rfl (lv_at hl 2 rfl) ?_
    obtain ⟨x_12, hc_12, h⟩ := obd h
    refine ksS_i (ws2 := (kwX8_as cI cZ cG q q_page q_ground q_now q_kept q_ahead q_trade q_plan q_guess q_ground_worth q_ground_liked q_now_town q_now_had q_now_wishes q_now_seen q_now_town_kindOf q_now_town_plotOf q_now_town_row q_now_town_standsOn v_isKept v_squaresRead v_ordersDone v_ground_houses v_now_nights v_now_town_houses v_now_town_front v_now_town_downFor v_now_town_kindOf)) (nW := 5) (As := [.int a2]) (rest := []) X hw (cX8_isKind_ct l D cI cZ cG a2 N x_12 hc_12 H.size) mX8_isKind tw_450 (hrm.call (by decide) (by decide)) [] rfl (by decide) rfl (by decide) rfl ⟨rfl, ⟨rfl, ⟨rfl, ⟨rfl, ⟨rfl, trivial⟩⟩⟩⟩⟩ rfl hl.1 rfl (Nat.le_of_ble_eq_true rfl) dX8_as_12 ⟨hrm.2.2.1, hrm.2.2.2⟩ (fun H locs hw => ?_)
    refine lv_if_ne (tgt := 21) hx hb dX8_as_15 (by decide) (fun c_15 => ?_) (fun c_15 => ?_)
    · have h := iff_ c_15 h
      refine lv_aload_n hx hb dX8_as_21 rfl (lv_at hl 0 rfl) ?_
      refine kget (ci := 8) (v := .ref q_now) X hw iX8 0 rfl rfl 2 (by decide) tw_421 rfl dX8_as_22 ?_
      refine kget (ci := 5) (v := .ref q_now_town) X hw iX5 2 rfl rfl 0 (by decide) tw_433 rfl dX8_as_25 ?_
      refine kget (ci := 6) (v := .ref q_now_town_kindOf) X hw iX6 3 rfl rfl 0 (by decide) tw_434 rfl dX8_as_28 ?_
      refine lv_iload_n hx hb dX8_as_31 rfl (lv_at hl 1 rfl) ?_
      obtain ⟨g_32, h⟩ := gd h
      refine kiald X hw 4 rfl rfl g_32 dX8_as_32 ?_
      refine lv_istore_n (lv' := [(3, .int (v_now_town_kindOf (a1).toNatClampNeg)), (0, .ref q), (1, .int a1), (2, .int a2)]) hx hb dX8_as_33 rfl hl (by decide) rfl (fun ls hl => ?_)
      refine lv_iload_n hx hb dX8_as_34 rfl (lv_at hl 3 rfl) ?_
      refine lv_if_eq (tgt := 53) hx hb dX8_as_35 (by decide) (fun c_35 => ?_) (fun c_35 => ?_)
      · have h := ift c_35 h
        refine lv_iconst (v := (1 : Int32)) hx hb dX8_as_53 (by decide) ?_
        refine lv_goto (tgt := 58) hx hb dX8_as_54 (by decide) ?_
        refine lv_istore (lv' := [(4, .int (1 : Int32)), (3, .int (v_now_town_kindOf (a1).toNatClampNeg)), (0, .ref q), (1, .int a1), (2, .int a2)]) hx hb dX8_as_58 hl (by decide) rfl (fun ls hl => ?_)
        refine lv_iload hx hb dX8_as_60 (lv_at hl 0 rfl) ?_
        refine lv_if_eq (tgt := 69) hx hb dX8_as_62 (by decide) (fun c_62 => absurd c_62 (by decide)) (fun c_62 => ?_)
        refine lv_iload_n hx hb dX8_as_65 rfl (lv_at hl 3 rfl) ?_
        refine lv_goto (tgt := 70) hx hb dX8_as_66 (by decide) ?_
        obtain rfl := Option.some.inj h
        exact ret _ _ _ _ dX8_as_70 hw
      · have h := iff_ c_35 h
        refine lv_iload_n hx hb dX8_as_38 rfl (lv_at hl 3 rfl) ?_
        refine lv_iload_n hx hb dX8_as_39 rfl (lv_at hl 0 rfl) ?_
        refine lv_icmp_eq (tgt := 53) hx hb dX8_as_40 (by decide) (fun c_40 => ?_) (fun c_40 => ?_)
        · have h := ift c_40 h
          refine lv_iconst (v := (1 : Int32)) hx hb dX8_as_53 (by decide) ?_
          refine lv_goto (tgt := 58) hx hb dX8_as_54 (by decide) ?_
          refine lv_istore (lv' := [(4, .int (1 : Int32)), (3, .int (v_now_town_kindOf (a1).toNatClampNeg)), (0, .ref q), (1, .int a1), (2, .int a2)]) hx hb dX8_as_58 hl (by decide) rfl (fun ls hl => ?_)
          refine lv_iload hx hb dX8_as_60 (lv_at hl 0 rfl) ?_
          refine lv_if_eq (tgt := 69) hx hb dX8_as_62 (by decide) (fun c_62 => absurd c_62 (by decide)) (fun c_62 => ?_)
          refine lv_iload_n hx hb dX8_as_65 rfl (lv_at hl 3 rfl) ?_
          refine lv_goto (tgt := 70) hx hb dX8_as_66 (by decide) ?_
          obtain rfl := Option.some.inj h
          exact ret _ _ _ _ dX8_as_70 hw
        · have h := iff_ c_40 h
          refine lv_iload_n hx hb dX8_as_43 rfl (lv_at hl 3 rfl) ?_
          refine lv_iconst (v := (1 : Int32)) hx hb dX8_as_44 (by decide) ?_
          refine lv_icmp_ne (tgt := 57) hx hb dX8_as_45 (by decide) (fun c_45 => ?_) (fun c_45 => ?_)
          · have h := iff_ c_45 h
            refine lv_iconst (v := (0 : Int32)) hx hb dX8_as_57 (by decide) ?_
            refine lv_istore (lv' := [(4, .int (0 : Int32)), (3, .int (v_now_town_kindOf (a1).toNatClampNeg)), (0, .ref q), (1, .int a1), (2, .int a2)]) hx hb dX8_as_58 hl (by decide) rfl (fun ls hl => ?_)
            refine lv_iload hx hb dX8_as_60 (lv_at hl 0 rfl) ?_
            refine lv_if_eq (tgt := 69) hx hb dX8_as_62 (by decide) (fun c_62 => ?_) (fun c_62 => absurd c_62 (by decide))
            refine lv_iconst (v := (-1 : Int32)) hx hb dX8_as_69 (by decide) ?_
            obtain rfl := Option.some.inj h
            exact ret _ _ _ _ dX8_as_70 hw
          · have h := ift c_45 h
            refine lv_iload_n hx hb dX8_as_48 rfl (lv_at hl 0 rfl) ?_
            refine lv_iconst (v := (4 : Int32)) hx hb dX8_as_49 (by decide) ?_
            refine lv_icmp_ne (tgt := 57) hx hb dX8_as_50 (by decide) (fun c_50 => ?_) (fun c_50 => ?_)
            · have h := iff_ c_50 h
              refine lv_iconst (v := (0 : Int32)) hx hb dX8_as_57 (by decide) ?_
              refine lv_istore (lv' := [(4, .int (0 : Int32)), (3, .int (v_now_town_kindOf (a1).toNatClampNeg)), (0, .ref q), (1, .int a1), (2, .int a2)]) hx hb dX8_as_58 hl (by decide) rfl (fun ls hl => ?_)
              refine lv_iload hx hb dX8_as_60 (lv_at hl 0 rfl) ?_
              refine lv_if_eq (tgt := 69) hx hb dX8_as_62 (by decide) (fun c_62 => ?_) (fun c_62 => absurd c_62 (by decide))
              refine lv_iconst (v := (-1 : Int32)) hx hb dX8_as_69 (by decide) ?_
              obtain rfl := Option.some.inj h
              exact ret _ _ _ _ dX8_as_70 hw
            · have h := ift c_50 h
              refine lv_iconst (v := (1 : Int32)) hx hb dX8_as_53 (by decide) ?_
              refine lv_goto (tgt := 58) hx hb dX8_as_54 (by decide) ?_
              refine lv_istore (lv' := [(4, .int (1 : Int32)), (3, .int (v_now_town_kindOf (a1).toNatClampNeg)), (0, .ref q), (1, .int a1), (2, .int a2)]) hx hb dX8_as_58 hl (by decide) rfl (fun ls hl => ?_)
              refine lv_iload hx hb dX8_as_60 (lv_at hl 0 rfl) ?_
              refine lv_if_eq (tgt := 69) hx hb dX8_as_62 (by decide) (fun c_62 => absurd c_62 (by decide)) (fun c_62 => ?_)
              refine lv_iload_n hx hb dX8_as_65 rfl (lv_at hl 3 rfl) ?_
              refine lv_goto (tgt := 70) hx hb dX8_as_66 (by decide) ?_
              obtain rfl := Option.some.inj h
              exact ret _ _ _ _ dX8_as_70 hw
    · have h := ift c_15 h
      refine lv_bipush (v := (-102 : Int32)) hx hb dX8_as_18 (by decide) ?_
      obtain rfl := Option.some.inj h
      exact ret _ _ _ _ dX8_as_20 hw
  · have h := ift c_5 h
    refine lv_bipush (v := (-101 : Int32)) hx hb dX8_as_8 (by decide) ?_
    obtain rfl := Option.some.inj h
    exact ret _ _ _ _ dX8_as_10 hw
set_option maxHeartbeats 4000000 in
set_option maxRecDepth 100000 in
theorem cX8_as_ct (l : Launch) (D : va_G) (cI cZ cG : ClassId) (q q_page q_ground q_now q_kept q_ahead q_trade q_plan q_guess q_ground_worth q_ground_liked q_now_town q_now_had q_now_wishes q_now_seen q_now_town_kindOf q_now_town_plotOf q_now_town_row q_now_town_standsOn : Nat)  (v_isKept : Int32) (v_squaresRead : Int32) (v_ordersDone : Int32) (v_ground_houses : Int32) (v_now_nights : Int32) (v_now_town_houses : Int32) (v_now_town_front : Int32) (v_now_town_downFor : Int32) (v_now_town_kindOf : (Nat → Int32)) (a1 : Int32) (a2 : Int32) (N : Nat) (ρ : Int32) (h : fX8_as N v_ground_houses v_now_town_kindOf a1 a2   = some ρ) (sz : Nat) : Met l yX8_as (wz yX8_as cX8_as 5 (some .int)) (cRm 1 21) (cPre D (TY cI cZ cG) [.ref q, .int a1, .int a2] (kwX8_as cI cZ cG q q_page q_ground q_now q_kept q_ahead q_trade q_plan q_guess q_ground_worth q_ground_liked q_now_town q_now_had q_now_wishes q_now_seen q_now_town_kindOf q_now_town_plotOf q_now_town_row q_now_town_standsOn v_isKept v_squaresRead v_ordersDone v_ground_houses v_now_nights v_now_town_houses v_now_town_front v_now_town_downFor v_now_town_kindOf) sz) (cQi D (ρ) (kwX8_as cI cZ cG q q_page q_ground q_now q_kept q_ahead q_trade q_plan q_guess q_ground_worth q_ground_liked q_now_town q_now_had q_now_wishes q_now_seen q_now_town_kindOf q_now_town_plotOf q_now_town_row q_now_town_standsOn v_isKept v_squaresRead v_ordersDone v_ground_houses v_now_nights v_now_town_houses v_now_town_front v_now_town_downFor v_now_town_kindOf) (kwX8_as cI cZ cG q q_page q_ground q_now q_kept q_ahead q_trade q_plan q_guess q_ground_worth q_ground_liked q_now_town q_now_had q_now_wishes q_now_seen q_now_town_kindOf q_now_town_plotOf q_now_town_row q_now_town_standsOn v_isKept v_squaresRead v_ordersDone v_ground_houses v_now_nights v_now_town_houses v_now_town_front v_now_town_downFor v_now_town_kindOf) sz) 0 0 (va_A (kwX8_as cI cZ cG q q_page q_ground q_now q_kept q_ahead q_trade q_plan q_guess q_ground_worth q_ground_liked q_now_town q_now_had q_now_wishes q_now_seen q_now_town_kindOf q_now_town_plotOf q_now_town_row q_now_town_standsOn v_isKept v_squaresRead v_ordersDone v_ground_houses v_now_nights v_now_town_houses v_now_town_front v_now_town_downFor v_now_town_kindOf) sz) :=
  mk_i (by decide) (Nat.le_of_ble_eq_true rfl) (fun X hrm ret hw hl => wX8_as X hrm ret h _ _ _ hw hl)
theorem dX8_hasSquare_0 : decode cX8_hasSquare 0 = .ok (.aload_n 0, 1) := by decide +kernel
theorem dX8_hasSquare_1 : decode cX8_hasSquare 1 = .ok (.getfield 19, 3) := by decide +kernel
theorem dX8_hasSquare_4 : decode cX8_hasSquare 4 = .ok (.getfield 91, 3) := by decide +kernel
theorem dX8_hasSquare_7 : decode cX8_hasSquare 7 = .ok (.ifCond .le 7, 3) := by decide +kernel
theorem dX8_hasSquare_10 : decode cX8_hasSquare 10 = .ok (.iconst 1, 1) := by decide +kernel
theorem dX8_hasSquare_11 : decode cX8_hasSquare 11 = .ok (.goto 4, 3) := by decide +kernel
theorem dX8_hasSquare_14 : decode cX8_hasSquare 14 = .ok (.iconst 0, 1) := by decide +kernel
theorem dX8_hasSquare_15 : decode cX8_hasSquare 15 = .ok (.ireturn, 1) := by decide +kernel
abbrev kwX8_hasSquare (cI cZ cG : ClassId) (q q_page q_ground q_now q_kept q_ahead q_trade q_plan q_guess q_ground_worth q_ground_liked : Nat) (v_isKept : Int32) (v_squaresRead : Int32) (v_ordersDone : Int32) (v_ground_houses : Int32) : va_W := [(q, .inr (8, [.ref q_page, .ref q_ground, .ref q_now, .ref q_kept, .ref q_ahead, .ref q_trade, .ref q_plan, .ref q_guess, .int v_isKept, .int v_squaresRead, .int v_ordersDone])), (q_ground, .inr (0, [.ref q_ground_worth, .ref q_ground_liked, .int v_ground_houses]))]
noncomputable def fX8_hasSquare (N : Nat) (v_ground_houses : Int32)   : Option (Int32) := if v_ground_houses ≤ 0 then (some (0 : Int32)) else (some (1 : Int32))
set_option maxHeartbeats 4000000 in
set_option maxRecDepth 100000 in
theorem wX8_hasSquare {p : Program} {l : Launch} {e : Env} {R : Room} {s : State} {m : MethodId} {args : Array Value} {below : List Frame} {meth : Method} {c : Code} {cells slots : Nat} {Q : State → Prop} {D : va_G} {A : Nat → Prop} {cI cZ cG : ClassId} {q q_page q_ground q_now q_kept q_ahead q_trade q_plan q_guess q_ground_worth q_ground_liked : Nat} {v_isKept : Int32} {v_squaresRead : Int32} {v_ordersDone : Int32} {v_ground_houses : Int32} {N : Nat} {ρ : Int32} (X : CX p s m args c cX8_hasSquare 1 RX8 D (TY cI cZ cG) A) (hrm : RM R 0 0 cells slots) (ret : ∀ (pc : Nat) (H : Heap) (locs : List Loc) (ls : Array Slot), narrow .boolean (.int ρ) = .int ρ → decode cX8_hasSquare pc = .ok (.ireturn, 1) → WD D A (kwX8_hasSquare cI cZ cG q q_page q_ground q_now q_kept q_ahead q_trade q_plan q_guess q_ground_worth q_ground_liked v_isKept v_squaresRead v_ordersDone v_ground_houses) s.heap H locs → W p l e R s m args below meth c H locs cells slots Q (F0 m pc ls [.int ρ])) (h : fX8_hasSquare N v_ground_houses   = some ρ) (H : Heap) (locs : List Loc) (ls : Array Slot) (hw : WD D A (kwX8_hasSquare cI cZ cG q q_page q_ground q_now q_kept q_ahead q_trade q_plan q_guess q_ground_worth q_ground_liked v_isKept v_squaresRead v_ordersDone v_ground_houses) s.heap H locs) (hl : lv_has ls 1 [(0, .ref q)]) : W p l e R s m args below meth c H locs cells slots Q (F0 m 0 ls []) := by
  have hx := X.1.1
  have hb := X.1.2.1
  unfold fX8_hasSquare at h
  refine lv_aload_n hx hb dX8_hasSquare_0 rfl (lv_at hl 0 rfl) ?_
  refine kget (ci := 8) (v := .ref q_ground) X hw iX8 0 rfl rfl 1 (by decide) tw_419 rfl dX8_hasSquare_1 ?_
  refine kget (ci := 0) (v := .int v_ground_houses) X hw iX0 1 rfl rfl 2 (by decide) tw_425 rfl dX8_hasSquare_4 ?_
  refine lv_if_le (tgt := 14) hx hb dX8_hasSquare_7 (by decide) (fun c_7 => ?_) (fun c_7 => ?_)
  · have h := ift c_7 h
    refine lv_iconst (v := (0 : Int32)) hx hb dX8_hasSquare_14 (by decide) ?_
    obtain rfl := Option.some.inj h
    exact ret _ _ _ _ (show narrow .boolean (.int (0 : Int32)) = .int (0 : Int32) from rfl) dX8_hasSquare_15 hw
  · have h := iff_ c_7 h
    refine lv_iconst (v := (1 : Int32)) hx hb dX8_hasSquare_10 (by decide) ?_
    refine lv_goto (tgt := 15) hx hb dX8_hasSquare_11 (by decide) ?_
    obtain rfl := Option.some.inj h
    exact ret _ _ _ _ (show narrow .boolean (.int (1 : Int32)) = .int (1 : Int32) from rfl) dX8_hasSquare_15 hw
set_option maxHeartbeats 4000000 in
set_option maxRecDepth 100000 in
theorem cX8_hasSquare_ct (l : Launch) (D : va_G) (cI cZ cG : ClassId) (q q_page q_ground q_now q_kept q_ahead q_trade q_plan q_guess q_ground_worth q_ground_liked : Nat)  (v_isKept : Int32) (v_squaresRead : Int32) (v_ordersDone : Int32) (v_ground_houses : Int32)  (N : Nat) (ρ : Int32) (h : fX8_hasSquare N v_ground_houses   = some ρ) (sz : Nat) : Met l yX8_hasSquare (wz yX8_hasSquare cX8_hasSquare 1 (some .boolean)) (cRm 0 0) (cPre D (TY cI cZ cG) [.ref q] (kwX8_hasSquare cI cZ cG q q_page q_ground q_now q_kept q_ahead q_trade q_plan q_guess q_ground_worth q_ground_liked v_isKept v_squaresRead v_ordersDone v_ground_houses) sz) (cQi D (ρ) (kwX8_hasSquare cI cZ cG q q_page q_ground q_now q_kept q_ahead q_trade q_plan q_guess q_ground_worth q_ground_liked v_isKept v_squaresRead v_ordersDone v_ground_houses) (kwX8_hasSquare cI cZ cG q q_page q_ground q_now q_kept q_ahead q_trade q_plan q_guess q_ground_worth q_ground_liked v_isKept v_squaresRead v_ordersDone v_ground_houses) sz) 0 0 (va_A (kwX8_hasSquare cI cZ cG q q_page q_ground q_now q_kept q_ahead q_trade q_plan q_guess q_ground_worth q_ground_liked v_isKept v_squaresRead v_ordersDone v_ground_houses) sz) :=
  mk_z (by decide) (Nat.le_of_ble_eq_true rfl) (fun X hrm ret hw hl => wX8_hasSquare X hrm ret h _ _ _ hw hl)
theorem dX8_isPlot_0 : decode cX8_isPlot 0 = .ok (.iload_n 0, 1) := by decide +kernel
theorem dX8_isPlot_1 : decode cX8_isPlot 1 = .ok (.ifCond .lt 13, 3) := by decide +kernel
theorem dX8_isPlot_4 : decode cX8_isPlot 4 = .ok (.iload_n 0, 1) := by decide +kernel
theorem dX8_isPlot_5 : decode cX8_isPlot 5 = .ok (.bipush 12, 2) := by decide +kernel
theorem dX8_isPlot_7 : decode cX8_isPlot 7 = .ok (.if_icmp .ge 7, 3) := by decide +kernel
theorem dX8_isPlot_10 : decode cX8_isPlot 10 = .ok (.iconst 1, 1) := by decide +kernel
theorem dX8_isPlot_11 : decode cX8_isPlot 11 = .ok (.goto 4, 3) := by decide +kernel
theorem dX8_isPlot_14 : decode cX8_isPlot 14 = .ok (.iconst 0, 1) := by decide +kernel
theorem dX8_isPlot_15 : decode cX8_isPlot 15 = .ok (.ireturn, 1) := by decide +kernel
abbrev kwX8_isPlot (cI cZ cG : ClassId) : va_W := []
noncomputable def fX8_isPlot (N : Nat) (a0 : Int32)   : Option (Int32) := if a0 < 0 then (some (0 : Int32)) else (if (12 : Int32) ≤ a0 then (some (0 : Int32)) else (some (1 : Int32)))
set_option maxHeartbeats 4000000 in
set_option maxRecDepth 100000 in
theorem wX8_isPlot {p : Program} {l : Launch} {e : Env} {R : Room} {s : State} {m : MethodId} {args : Array Value} {below : List Frame} {meth : Method} {c : Code} {cells slots : Nat} {Q : State → Prop} {D : va_G} {A : Nat → Prop} {cI cZ cG : ClassId} {a0 : Int32} {N : Nat} {ρ : Int32} (X : CX p s m args c cX8_isPlot 1 RX8 D (TY cI cZ cG) A) (hrm : RM R 0 0 cells slots) (ret : ∀ (pc : Nat) (H : Heap) (locs : List Loc) (ls : Array Slot), narrow .boolean (.int ρ) = .int ρ → decode cX8_isPlot pc = .ok (.ireturn, 1) → WD D A (kwX8_isPlot cI cZ cG) s.heap H locs → W p l e R s m args below meth c H locs cells slots Q (F0 m pc ls [.int ρ])) (h : fX8_isPlot N a0   = some ρ) (H : Heap) (locs : List Loc) (ls : Array Slot) (hw : WD D A (kwX8_isPlot cI cZ cG) s.heap H locs) (hl : lv_has ls 1 [(0, .int a0)]) : W p l e R s m args below meth c H locs cells slots Q (F0 m 0 ls []) := by
  have hx := X.1.1
  have hb := X.1.2.1
  unfold fX8_isPlot at h
  refine lv_iload_n hx hb dX8_isPlot_0 rfl (lv_at hl 0 rfl) ?_
  refine lv_if_lt (tgt := 14) hx hb dX8_isPlot_1 (by decide) (fun c_1 => ?_) (fun c_1 => ?_)
  · have h := ift c_1 h
    refine lv_iconst (v := (0 : Int32)) hx hb dX8_isPlot_14 (by decide) ?_
    obtain rfl := Option.some.inj h
    exact ret _ _ _ _ (show narrow .boolean (.int (0 : Int32)) = .int (0 : Int32) from rfl) dX8_isPlot_15 hw
  · have h := iff_ c_1 h
    refine lv_iload_n hx hb dX8_isPlot_4 rfl (lv_at hl 0 rfl) ?_
    refine lv_bipush (v := (12 : Int32)) hx hb dX8_isPlot_5 (by decide) ?_
    refine lv_icmp_ge (tgt := 14) hx hb dX8_isPlot_7 (by decide) (fun c_7 => ?_) (fun c_7 => ?_)
    · have h := ift c_7 h
      refine lv_iconst (v := (0 : Int32)) hx hb dX8_isPlot_14 (by decide) ?_
      obtain rfl := Option.some.inj h
      exact ret _ _ _ _ (show narrow .boolean (.int (0 : Int32)) = .int (0 : Int32) from rfl) dX8_isPlot_15 hw
    · have h := iff_ c_7 h
      refine lv_iconst (v := (1 : Int32)) hx hb dX8_isPlot_10 (by decide) ?_
      refine lv_goto (tgt := 15) hx hb dX8_isPlot_11 (by decide) ?_
      obtain rfl := Option.some.inj h
      exact ret _ _ _ _ (show narrow .boolean (.int (1 : Int32)) = .int (1 : Int32) from rfl) dX8_isPlot_15 hw
set_option maxHeartbeats 4000000 in
set_option maxRecDepth 100000 in
theorem cX8_isPlot_ct (l : Launch) (D : va_G) (cI cZ cG : ClassId)    (a0 : Int32) (N : Nat) (ρ : Int32) (h : fX8_isPlot N a0   = some ρ) (sz : Nat) : Met l yX8_isPlot (wz yX8_isPlot cX8_isPlot 1 (some .boolean)) (cRm 0 0) (cPre D (TY cI cZ cG) [.int a0] (kwX8_isPlot cI cZ cG) sz) (cQi D (ρ) (kwX8_isPlot cI cZ cG) (kwX8_isPlot cI cZ cG) sz) 0 0 (va_A (kwX8_isPlot cI cZ cG) sz) :=
  mk_z (by decide) (Nat.le_of_ble_eq_true rfl) (fun X hrm ret hw hl => wX8_isPlot X hrm ret h _ _ _ hw hl)
theorem dX8_plot_0 : decode cX8_plot 0 = .ok (.aload_n 0, 1) := by decide +kernel
theorem dX8_plot_1 : decode cX8_plot 1 = .ok (.invokevirtual 135, 3) := by decide +kernel
theorem dX8_plot_4 : decode cX8_plot 4 = .ok (.ifCond .eq 10, 3) := by decide +kernel
theorem dX8_plot_7 : decode cX8_plot 7 = .ok (.iload_n 1, 1) := by decide +kernel
theorem dX8_plot_8 : decode cX8_plot 8 = .ok (.invokestatic 138, 3) := by decide +kernel
theorem dX8_plot_11 : decode cX8_plot 11 = .ok (.ifCond .ne 6, 3) := by decide +kernel
theorem dX8_plot_14 : decode cX8_plot 14 = .ok (.bipush (-101), 2) := by decide +kernel
theorem dX8_plot_16 : decode cX8_plot 16 = .ok (.ireturn, 1) := by decide +kernel
theorem dX8_plot_17 : decode cX8_plot 17 = .ok (.iload_n 2, 1) := by decide +kernel
theorem dX8_plot_18 : decode cX8_plot 18 = .ok (.tableswitch 58 0 2 #[26, 36, 49], 26) := by decide +kernel
theorem dX8_plot_44 : decode cX8_plot 44 = .ok (.aload_n 0, 1) := by decide +kernel
theorem dX8_plot_45 : decode cX8_plot 45 = .ok (.getfield 19, 3) := by decide +kernel
theorem dX8_plot_48 : decode cX8_plot 48 = .ok (.getfield 141, 3) := by decide +kernel
theorem dX8_plot_51 : decode cX8_plot 51 = .ok (.iload_n 1, 1) := by decide +kernel
theorem dX8_plot_52 : decode cX8_plot 52 = .ok (.iaload, 1) := by decide +kernel
theorem dX8_plot_53 : decode cX8_plot 53 = .ok (.ireturn, 1) := by decide +kernel
theorem dX8_plot_54 : decode cX8_plot 54 = .ok (.aload_n 0, 1) := by decide +kernel
theorem dX8_plot_55 : decode cX8_plot 55 = .ok (.getfield 26, 3) := by decide +kernel
theorem dX8_plot_58 : decode cX8_plot 58 = .ok (.getfield 98, 3) := by decide +kernel
theorem dX8_plot_61 : decode cX8_plot 61 = .ok (.getfield 144, 3) := by decide +kernel
theorem dX8_plot_64 : decode cX8_plot 64 = .ok (.iload_n 1, 1) := by decide +kernel
theorem dX8_plot_65 : decode cX8_plot 65 = .ok (.iaload, 1) := by decide +kernel
theorem dX8_plot_66 : decode cX8_plot 66 = .ok (.ireturn, 1) := by decide +kernel
theorem dX8_plot_67 : decode cX8_plot 67 = .ok (.aload_n 0, 1) := by decide +kernel
theorem dX8_plot_68 : decode cX8_plot 68 = .ok (.getfield 19, 3) := by decide +kernel
theorem dX8_plot_71 : decode cX8_plot 71 = .ok (.iload_n 1, 1) := by decide +kernel
theorem dX8_plot_72 : decode cX8_plot 72 = .ok (.invokevirtual 147, 3) := by decide +kernel
theorem dX8_plot_75 : decode cX8_plot 75 = .ok (.ireturn, 1) := by decide +kernel
theorem dX8_plot_76 : decode cX8_plot 76 = .ok (.bipush (-102), 2) := by decide +kernel
theorem dX8_plot_78 : decode cX8_plot 78 = .ok (.ireturn, 1) := by decide +kernel
abbrev kwX8_plot (cI cZ cG : ClassId) (q q_page q_ground q_now q_kept q_ahead q_trade q_plan q_guess q_ground_worth q_ground_liked q_now_town q_now_had q_now_wishes q_now_seen q_now_town_kindOf q_now_town_plotOf q_now_town_row q_now_town_standsOn : Nat) (v_isKept : Int32) (v_squaresRead : Int32) (v_ordersDone : Int32) (v_ground_houses : Int32) (v_ground_liked : (Nat → Int32)) (v_now_nights : Int32) (v_now_town_houses : Int32) (v_now_town_front : Int32) (v_now_town_downFor : Int32) (v_now_town_standsOn : (Nat → Int32)) (v_ground_worth : (Nat → Int32)) : va_W := [(q, .inr (8, [.ref q_page, .ref q_ground, .ref q_now, .ref q_kept, .ref q_ahead, .ref q_trade, .ref q_plan, .ref q_guess, .int v_isKept, .int v_squaresRead, .int v_ordersDone])), (q_ground, .inr (0, [.ref q_ground_worth, .ref q_ground_liked, .int v_ground_houses])), (q_ground_liked, .inl (cI, 6, .inl v_ground_liked)), (q_now, .inr (5, [.ref q_now_town, .ref q_now_had, .ref q_now_wishes, .ref q_now_seen, .int v_now_nights])), (q_now_town, .inr (6, [.ref q_now_town_kindOf, .ref q_now_town_plotOf, .ref q_now_town_row, .ref q_now_town_standsOn, .int v_now_town_houses, .int v_now_town_front, .int v_now_town_downFor])), (q_now_town_standsOn, .inl (cI, 12, .inl v_now_town_standsOn)), (q_ground_worth, .inl (cI, 12, .inl v_ground_worth))]
noncomputable def fX8_plot (N : Nat) (v_ground_houses : Int32) (v_ground_liked : (Nat → Int32)) (v_now_town_standsOn : (Nat → Int32)) (v_ground_worth : (Nat → Int32)) (a1 : Int32) (a2 : Int32)   : Option (Int32) := (fX8_hasSquare N v_ground_houses).bind (fun x_1 => if x_1 = 0 then (some (-101 : Int32)) else ((fX8_isPlot N a1).bind (fun x_8 => if x_8 = 0 then (some (-101 : Int32)) else (if a2 = (0 : Int32) then (if a1 < 0 ∨ 12 ≤ (a1).toNatClampNeg then none else (some (v_ground_worth (a1).toNatClampNeg))) else (if a2 = (1 : Int32) then (if a1 < 0 ∨ 12 ≤ (a1).toNatClampNeg then none else (some (v_now_town_standsOn (a1).toNatClampNeg))) else (if a2 = (2 : Int32) then ((fX0_likersOf N v_ground_houses v_ground_liked a1).bind (fun x_72 => some x_72)) else (some (-102 : Int32))))))))
set_option maxHeartbeats 4000000 in
set_option maxRecDepth 100000 in
theorem wX8_plot {p : Program} {l : Launch} {e : Env} {R : Room} {s : State} {m : MethodId} {args : Array Value} {below : List Frame} {meth : Method} {c : Code} {cells slots : Nat} {Q : State → Prop} {D : va_G} {A : Nat → Prop} {cI cZ cG : ClassId} {q q_page q_ground q_now q_kept q_ahead q_trade q_plan q_guess q_ground_worth q_ground_liked q_now_town q_now_had q_now_wishes q_now_seen q_now_town_kindOf q_now_town_plotOf q_now_town_row q_now_town_standsOn : Nat} {v_isKept : Int32} {v_squaresRead : Int32} {v_ordersDone : Int32} {v_ground_houses : Int32} {v_ground_liked : (Nat → Int32)} {v_now_nights : Int32} {v_now_town_houses : Int32} {v_now_town_front : Int32} {v_now_town_downFor : Int32} {v_now_town_standsOn : (Nat → Int32)} {v_ground_worth : (Nat → Int32)} {a1 : Int32} {a2 : Int32} {N : Nat} {ρ : Int32} (X : CX p s m args c cX8_plot 3 RX8 D (TY cI cZ cG) A) (hrm : RM R 1 23 cells slots) (ret : ∀ (pc : Nat) (H : Heap) (locs : List Loc) (ls : Array Slot), decode cX8_plot pc = .ok (.ireturn, 1) → WD D A (kwX8_plot cI cZ cG q q_page q_ground q_now q_kept q_ahead q_trade q_plan q_guess q_ground_worth q_ground_liked q_now_town q_now_had q_now_wishes q_now_seen q_now_town_kindOf q_now_town_plotOf q_now_town_row q_now_town_standsOn v_isKept v_squaresRead v_ordersDone v_ground_houses v_ground_liked v_now_nights v_now_town_houses v_now_town_front v_now_town_downFor v_now_town_standsOn v_ground_worth) s.heap H locs → W p l e R s m args below meth c H locs cells slots Q (F0 m pc ls [.int ρ])) (h : fX8_plot N v_ground_houses v_ground_liked v_now_town_standsOn v_ground_worth a1 a2   = some ρ) (H : Heap) (locs : List Loc) (ls : Array Slot) (hw : WD D A (kwX8_plot cI cZ cG q q_page q_ground q_now q_kept q_ahead q_trade q_plan q_guess q_ground_worth q_ground_liked q_now_town q_now_had q_now_wishes q_now_seen q_now_town_kindOf q_now_town_plotOf q_now_town_row q_now_town_standsOn v_isKept v_squaresRead v_ordersDone v_ground_houses v_ground_liked v_now_nights v_now_town_houses v_now_town_front v_now_town_downFor v_now_town_standsOn v_ground_worth) s.heap H locs) (hl : lv_has ls 3 [(0, .ref q), (1, .int a1), (2, .int a2)]) : W p l e R s m args below meth c H locs cells slots Q (F0 m 0 ls []) := by
  have hx := X.1.1
  have hb := X.1.2.1
  unfold fX8_plot at h
  refine lv_aload_n hx hb dX8_plot_0 rfl (lv_at hl 0 rfl) ?_
  obtain ⟨x_1, hc_1, h⟩ := obd h
  refine ksV_i (ws2 := (kwX8_plot cI cZ cG q q_page q_ground q_now q_kept q_ahead q_trade q_plan q_guess q_ground_worth q_ground_liked q_now_town q_now_had q_now_wishes q_now_seen q_now_town_kindOf q_now_town_plotOf q_now_town_row q_now_town_standsOn v_isKept v_squaresRead v_ordersDone v_ground_houses v_ground_liked v_now_nights v_now_town_houses v_now_town_front v_now_town_downFor v_now_town_standsOn v_ground_worth)) (nW := 7) (ci := 8) (As := []) (rest := []) X hw rfl rfl rfl (cX8_hasSquare_ct l D cI cZ cG q q_page q_ground q_now q_kept q_ahead q_trade q_plan q_guess q_ground_worth q_ground_liked v_isKept v_squaresRead v_ordersDone v_ground_houses N x_1 hc_1 H.size) mX8_hasSquare tw_459 (hrm.call (by decide) (by decide)) [0, 1] rfl (by decide) rfl (by decide) rfl ⟨rfl, ⟨rfl, ⟨rfl, ⟨rfl, ⟨rfl, trivial⟩⟩⟩⟩⟩ rfl hl.1 rfl (Nat.le_of_ble_eq_true rfl) dX8_plot_1 ⟨hrm.2.2.1, hrm.2.2.2⟩ (fun H locs hw => ?_)
  refine lv_if_eq (tgt := 14) hx hb dX8_plot_4 (by decide) (fun c_4 => ?_) (fun c_4 => ?_)
  · have h := ift c_4 h
    refine lv_bipush (v := (-101 : Int32)) hx hb dX8_plot_14 (by decide) ?_
    obtain rfl := Option.some.inj h
    exact ret _ _ _ _ dX8_plot_16 hw
  · have h := iff_ c_4 h
    refine lv_iload_n hx hb dX8_plot_7 rfl (lv_at hl 1 rfl) ?_
    obtain ⟨x_8, hc_8, h⟩ := obd h
    refine ksS_i (ws2 := (kwX8_plot cI cZ cG q q_page q_ground q_now q_kept q_ahead q_trade q_plan q_guess q_ground_worth q_ground_liked q_now_town q_now_had q_now_wishes q_now_seen q_now_town_kindOf q_now_town_plotOf q_now_town_row q_now_town_standsOn v_isKept v_squaresRead v_ordersDone v_ground_houses v_ground_liked v_now_nights v_now_town_houses v_now_town_front v_now_town_downFor v_now_town_standsOn v_ground_worth)) (nW := 7) (As := [.int a1]) (rest := []) X hw (cX8_isPlot_ct l D cI cZ cG a1 N x_8 hc_8 H.size) mX8_isPlot tw_460 (hrm.call (by decide) (by decide)) [] rfl (by decide) rfl (by decide) rfl ⟨rfl, ⟨rfl, ⟨rfl, ⟨rfl, ⟨rfl, ⟨rfl, ⟨rfl, trivial⟩⟩⟩⟩⟩⟩⟩ rfl hl.1 rfl (Nat.le_of_ble_eq_true rfl) dX8_plot_8 ⟨hrm.2.2.1, hrm.2.2.2⟩ (fun H locs hw => ?_)
    refine lv_if_ne (tgt := 17) hx hb dX8_plot_11 (by decide) (fun c_11 => ?_) (fun c_11 => ?_)
    · have h := iff_ c_11 h
      refine lv_iload_n hx hb dX8_plot_17 rfl (lv_at hl 2 rfl) ?_
      by_cases c_18_0 : a2 = (0 : Int32)
      · have h := ift c_18_0 h
        refine lv_tableIn (off := 26) (tgt := 44) hx hb dX8_plot_18 (by rw [c_18_0]; decide) (by rw [c_18_0]; decide) (by rw [c_18_0]; rfl) (by decide) ?_
        refine lv_aload_n hx hb dX8_plot_44 rfl (lv_at hl 0 rfl) ?_
        refine kget (ci := 8) (v := .ref q_ground) X hw iX8 0 rfl rfl 1 (by decide) tw_419 rfl dX8_plot_45 ?_
        refine kget (ci := 0) (v := .ref q_ground_worth) X hw iX0 1 rfl rfl 0 (by decide) tw_461 rfl dX8_plot_48 ?_
        refine lv_iload_n hx hb dX8_plot_51 rfl (lv_at hl 1 rfl) ?_
        obtain ⟨g_52, h⟩ := gd h
        refine kiald X hw 6 rfl rfl g_52 dX8_plot_52 ?_
        obtain rfl := Option.some.inj h
        exact ret _ _ _ _ dX8_plot_53 hw
      have h := iff_ c_18_0 h
      by_cases c_18_1 : a2 = (1 : Int32)
      · have h := ift c_18_1 h
        refine lv_tableIn (off := 36) (tgt := 54) hx hb dX8_plot_18 (by rw [c_18_1]; decide) (by rw [c_18_1]; decide) (by rw [c_18_1]; rfl) (by decide) ?_
        refine lv_aload_n hx hb dX8_plot_54 rfl (lv_at hl 0 rfl) ?_
        refine kget (ci := 8) (v := .ref q_now) X hw iX8 0 rfl rfl 2 (by decide) tw_421 rfl dX8_plot_55 ?_
        refine kget (ci := 5) (v := .ref q_now_town) X hw iX5 3 rfl rfl 0 (by decide) tw_433 rfl dX8_plot_58 ?_
        refine kget (ci := 6) (v := .ref q_now_town_standsOn) X hw iX6 4 rfl rfl 3 (by decide) tw_462 rfl dX8_plot_61 ?_
        refine lv_iload_n hx hb dX8_plot_64 rfl (lv_at hl 1 rfl) ?_
        obtain ⟨g_65, h⟩ := gd h
        refine kiald X hw 5 rfl rfl g_65 dX8_plot_65 ?_
        obtain rfl := Option.some.inj h
        exact ret _ _ _ _ dX8_plot_66 hw
      have h := iff_ c_18_1 h
      by_cases c_18_2 : a2 = (2 : Int32)
      · have h := ift c_18_2 h
        refine lv_tableIn (off := 49) (tgt := 67) hx hb dX8_plot_18 (by rw [c_18_2]; decide) (by rw [c_18_2]; decide) (by rw [c_18_2]; rfl) (by decide) ?_
        refine lv_aload_n hx hb dX8_plot_67 rfl (lv_at hl 0 rfl) ?_
        refine kget (ci := 8) (v := .ref q_ground) X hw iX8 0 rfl rfl 1 (by decide) tw_419 rfl dX8_plot_68 ?_
        refine lv_iload_n hx hb dX8_plot_71 rfl (lv_at hl 1 rfl) ?_
        obtain ⟨x_72, hc_72, h⟩ := obd h
        refine ksV_i (ws2 := (kwX8_plot cI cZ cG q q_page q_ground q_now q_kept q_ahead q_trade q_plan q_guess q_ground_worth q_ground_liked q_now_town q_now_had q_now_wishes q_now_seen q_now_town_kindOf q_now_town_plotOf q_now_town_row q_now_town_standsOn v_isKept v_squaresRead v_ordersDone v_ground_houses v_ground_liked v_now_nights v_now_town_houses v_now_town_front v_now_town_downFor v_now_town_standsOn v_ground_worth)) (nW := 7) (ci := 0) (As := [.int a1]) (rest := []) X hw rfl rfl rfl (cX0_likersOf_ct l D cI cZ cG q_ground q_ground_worth q_ground_liked v_ground_houses v_ground_liked a1 N x_72 hc_72 H.size) mX0_likersOf tw_463 (hrm.call (by decide) (by decide)) [1, 2] rfl (by decide) rfl (by decide) rfl ⟨rfl, ⟨rfl, ⟨rfl, ⟨rfl, ⟨rfl, trivial⟩⟩⟩⟩⟩ rfl hl.1 rfl (Nat.le_of_ble_eq_true rfl) dX8_plot_72 ⟨hrm.2.2.1, hrm.2.2.2⟩ (fun H locs hw => ?_)
        obtain rfl := Option.some.inj h
        exact ret _ _ _ _ dX8_plot_75 hw
      have h := iff_ c_18_2 h
      refine lv_tableOut (tgt := 76) hx hb dX8_plot_18 (by have n0 := lv_neT c_18_0 (a := 0) (by decide); have n1 := lv_neT c_18_1 (a := 1) (by decide); have n2 := lv_neT c_18_2 (a := 2) (by decide); omega) (by decide) ?_
      refine lv_bipush (v := (-102 : Int32)) hx hb dX8_plot_76 (by decide) ?_
      obtain rfl := Option.some.inj h
      exact ret _ _ _ _ dX8_plot_78 hw
    · have h := ift c_11 h
      refine lv_bipush (v := (-101 : Int32)) hx hb dX8_plot_14 (by decide) ?_
      obtain rfl := Option.some.inj h
      exact ret _ _ _ _ dX8_plot_16 hw
set_option maxHeartbeats 4000000 in
set_option maxRecDepth 100000 in
theorem cX8_plot_ct (l : Launch) (D : va_G) (cI cZ cG : ClassId) (q q_page q_ground q_now q_kept q_ahead q_trade q_plan q_guess q_ground_worth q_ground_liked q_now_town q_now_had q_now_wishes q_now_seen q_now_town_kindOf q_now_town_plotOf q_now_town_row q_now_town_standsOn : Nat)  (v_isKept : Int32) (v_squaresRead : Int32) (v_ordersDone : Int32) (v_ground_houses : Int32) (v_ground_liked : (Nat → Int32)) (v_now_nights : Int32) (v_now_town_houses : Int32) (v_now_town_front : Int32) (v_now_town_downFor : Int32) (v_now_town_standsOn : (Nat → Int32)) (v_ground_worth : (Nat → Int32)) (a1 : Int32) (a2 : Int32) (N : Nat) (ρ : Int32) (h : fX8_plot N v_ground_houses v_ground_liked v_now_town_standsOn v_ground_worth a1 a2   = some ρ) (sz : Nat) : Met l yX8_plot (wz yX8_plot cX8_plot 3 (some .int)) (cRm 1 23) (cPre D (TY cI cZ cG) [.ref q, .int a1, .int a2] (kwX8_plot cI cZ cG q q_page q_ground q_now q_kept q_ahead q_trade q_plan q_guess q_ground_worth q_ground_liked q_now_town q_now_had q_now_wishes q_now_seen q_now_town_kindOf q_now_town_plotOf q_now_town_row q_now_town_standsOn v_isKept v_squaresRead v_ordersDone v_ground_houses v_ground_liked v_now_nights v_now_town_houses v_now_town_front v_now_town_downFor v_now_town_standsOn v_ground_worth) sz) (cQi D (ρ) (kwX8_plot cI cZ cG q q_page q_ground q_now q_kept q_ahead q_trade q_plan q_guess q_ground_worth q_ground_liked q_now_town q_now_had q_now_wishes q_now_seen q_now_town_kindOf q_now_town_plotOf q_now_town_row q_now_town_standsOn v_isKept v_squaresRead v_ordersDone v_ground_houses v_ground_liked v_now_nights v_now_town_houses v_now_town_front v_now_town_downFor v_now_town_standsOn v_ground_worth) (kwX8_plot cI cZ cG q q_page q_ground q_now q_kept q_ahead q_trade q_plan q_guess q_ground_worth q_ground_liked q_now_town q_now_had q_now_wishes q_now_seen q_now_town_kindOf q_now_town_plotOf q_now_town_row q_now_town_standsOn v_isKept v_squaresRead v_ordersDone v_ground_houses v_ground_liked v_now_nights v_now_town_houses v_now_town_front v_now_town_downFor v_now_town_standsOn v_ground_worth) sz) 0 0 (va_A (kwX8_plot cI cZ cG q q_page q_ground q_now q_kept q_ahead q_trade q_plan q_guess q_ground_worth q_ground_liked q_now_town q_now_had q_now_wishes q_now_seen q_now_town_kindOf q_now_town_plotOf q_now_town_row q_now_town_standsOn v_isKept v_squaresRead v_ordersDone v_ground_houses v_ground_liked v_now_nights v_now_town_houses v_now_town_front v_now_town_downFor v_now_town_standsOn v_ground_worth) sz) :=
  mk_i (by decide) (Nat.le_of_ble_eq_true rfl) (fun X hrm ret hw hl => wX8_plot X hrm ret h _ _ _ hw hl)
theorem dX8_night_0 : decode cX8_night 0 = .ok (.aload_n 0, 1) := by decide +kernel
theorem dX8_night_1 : decode cX8_night 1 = .ok (.invokevirtual 135, 3) := by decide +kernel
theorem dX8_night_4 : decode cX8_night 4 = .ok (.ifCond .ne 6, 3) := by decide +kernel
theorem dX8_night_7 : decode cX8_night 7 = .ok (.bipush (-103), 2) := by decide +kernel
theorem dX8_night_9 : decode cX8_night 9 = .ok (.ireturn, 1) := by decide +kernel
theorem dX8_night_10 : decode cX8_night 10 = .ok (.aload_n 0, 1) := by decide +kernel
theorem dX8_night_11 : decode cX8_night 11 = .ok (.getfield 26, 3) := by decide +kernel
theorem dX8_night_14 : decode cX8_night 14 = .ok (.getfield 150, 3) := by decide +kernel
theorem dX8_night_17 : decode cX8_night 17 = .ok (.sipush 999, 3) := by decide +kernel
theorem dX8_night_20 : decode cX8_night 20 = .ok (.if_icmp .lt 6, 3) := by decide +kernel
theorem dX8_night_23 : decode cX8_night 23 = .ok (.bipush (-104), 2) := by decide +kernel
theorem dX8_night_25 : decode cX8_night 25 = .ok (.ireturn, 1) := by decide +kernel
theorem dX8_night_26 : decode cX8_night 26 = .ok (.aload_n 0, 1) := by decide +kernel
theorem dX8_night_27 : decode cX8_night 27 = .ok (.getfield 26, 3) := by decide +kernel
theorem dX8_night_30 : decode cX8_night 30 = .ok (.getfield 98, 3) := by decide +kernel
theorem dX8_night_33 : decode cX8_night 33 = .ok (.invokevirtual 153, 3) := by decide +kernel
theorem dX8_night_36 : decode cX8_night 36 = .ok (.istore_n 1, 1) := by decide +kernel
theorem dX8_night_37 : decode cX8_night 37 = .ok (.aload_n 0, 1) := by decide +kernel
theorem dX8_night_38 : decode cX8_night 38 = .ok (.getfield 26, 3) := by decide +kernel
theorem dX8_night_41 : decode cX8_night 41 = .ok (.aload_n 0, 1) := by decide +kernel
theorem dX8_night_42 : decode cX8_night 42 = .ok (.getfield 19, 3) := by decide +kernel
theorem dX8_night_45 : decode cX8_night 45 = .ok (.invokevirtual 156, 3) := by decide +kernel
theorem dX8_night_48 : decode cX8_night 48 = .ok (.iload_n 1, 1) := by decide +kernel
theorem dX8_night_49 : decode cX8_night 49 = .ok (.ireturn, 1) := by decide +kernel
abbrev kwX8_night (cI cZ cG : ClassId) (q q_page q_ground q_now q_kept q_ahead q_trade q_plan q_guess q_ground_worth q_ground_liked q_now_town q_now_had q_now_wishes q_now_seen q_now_town_kindOf q_now_town_plotOf q_now_town_row q_now_town_standsOn : Nat) (v_isKept : Int32) (v_squaresRead : Int32) (v_ordersDone : Int32) (v_ground_houses : Int32) (v_now_nights : Int32) (v_now_town_houses : Int32) (v_now_town_front : Int32) (v_now_town_downFor : Int32) (v_now_town_row : (Nat → Int32)) (v_now_town_kindOf : (Nat → Int32)) (v_now_town_plotOf : (Nat → Int32)) (v_now_town_standsOn : (Nat → Int32)) (v_now_had : (Nat → Int32)) (v_ground_worth : (Nat → Int32)) : va_W := [(q, .inr (8, [.ref q_page, .ref q_ground, .ref q_now, .ref q_kept, .ref q_ahead, .ref q_trade, .ref q_plan, .ref q_guess, .int v_isKept, .int v_squaresRead, .int v_ordersDone])), (q_ground, .inr (0, [.ref q_ground_worth, .ref q_ground_liked, .int v_ground_houses])), (q_now, .inr (5, [.ref q_now_town, .ref q_now_had, .ref q_now_wishes, .ref q_now_seen, .int v_now_nights])), (q_now_town, .inr (6, [.ref q_now_town_kindOf, .ref q_now_town_plotOf, .ref q_now_town_row, .ref q_now_town_standsOn, .int v_now_town_houses, .int v_now_town_front, .int v_now_town_downFor])), (q_now_town_row, .inl (cI, 6, .inl v_now_town_row)), (q_now_town_kindOf, .inl (cI, 6, .inl v_now_town_kindOf)), (q_now_town_plotOf, .inl (cI, 6, .inl v_now_town_plotOf)), (q_now_town_standsOn, .inl (cI, 12, .inl v_now_town_standsOn)), (q_now_had, .inl (cI, 6, .inl v_now_had)), (q_ground_worth, .inl (cI, 12, .inl v_ground_worth))]
noncomputable def fX8_night (N : Nat) (v_ground_houses : Int32) (v_now_town_houses : Int32) (v_now_town_kindOf : (Nat → Int32)) (v_ground_worth : (Nat → Int32)) (v_now_nights : Int32) (v_now_town_front : Int32) (v_now_town_downFor : Int32) (v_now_town_row : (Nat → Int32)) (v_now_town_plotOf : (Nat → Int32)) (v_now_town_standsOn : (Nat → Int32)) (v_now_had : (Nat → Int32))  : Option (Int32 × Int32 × Int32 × Int32 × (Nat → Int32) × (Nat → Int32) × (Nat → Int32) × (Nat → Int32)) := (fX8_hasSquare N v_ground_houses).bind (fun x_1 => if x_1 = 0 then (some ((-103 : Int32), v_now_nights, v_now_town_front, v_now_town_downFor, v_now_town_row, v_now_town_plotOf, v_now_town_standsOn, v_now_had)) else (if v_now_nights < (999 : Int32) then ((fX6_turn N v_now_town_houses v_now_town_kindOf v_now_town_front v_now_town_downFor v_now_town_row v_now_town_plotOf v_now_town_standsOn).bind (fun x_33 => (fX5_endNight N v_now_town_houses x_33.2.2.2.2.1 v_ground_worth v_now_nights v_now_had).bind (fun x_45 => some (x_33.1, x_45.1, x_33.2.1, x_33.2.2.1, x_33.2.2.2.1, x_33.2.2.2.2.1, x_33.2.2.2.2.2, x_45.2)))) else (some ((-104 : Int32), v_now_nights, v_now_town_front, v_now_town_downFor, v_now_town_row, v_now_town_plotOf, v_now_town_standsOn, v_now_had))))
set_option maxHeartbeats 4000000 in
set_option maxRecDepth 100000 in
theorem wX8_night {p : Program} {l : Launch} {e : Env} {R : Room} {s : State} {m : MethodId} {args : Array Value} {below : List Frame} {meth : Method} {c : Code} {cells slots : Nat} {Q : State → Prop} {D : va_G} {A : Nat → Prop} {cI cZ cG : ClassId} {q q_page q_ground q_now q_kept q_ahead q_trade q_plan q_guess q_ground_worth q_ground_liked q_now_town q_now_had q_now_wishes q_now_seen q_now_town_kindOf q_now_town_plotOf q_now_town_row q_now_town_standsOn : Nat} {v_isKept : Int32} {v_squaresRead : Int32} {v_ordersDone : Int32} {v_ground_houses : Int32} {v_now_nights : Int32} {v_now_town_houses : Int32} {v_now_town_front : Int32} {v_now_town_downFor : Int32} {v_now_town_row : (Nat → Int32)} {v_now_town_kindOf : (Nat → Int32)} {v_now_town_plotOf : (Nat → Int32)} {v_now_town_standsOn : (Nat → Int32)} {v_now_had : (Nat → Int32)} {v_ground_worth : (Nat → Int32)} {N : Nat} {ρ : Int32 × Int32 × Int32 × Int32 × (Nat → Int32) × (Nat → Int32) × (Nat → Int32) × (Nat → Int32)} (X : CX p s m args c cX8_night 2 RX8 D (TY cI cZ cG) A) (hrm : RM R 3 67 cells slots) (ret : ∀ (pc : Nat) (H : Heap) (locs : List Loc) (ls : Array Slot), decode cX8_night pc = .ok (.ireturn, 1) → WD D A (kwX8_night cI cZ cG q q_page q_ground q_now q_kept q_ahead q_trade q_plan q_guess q_ground_worth q_ground_liked q_now_town q_now_had q_now_wishes q_now_seen q_now_town_kindOf q_now_town_plotOf q_now_town_row q_now_town_standsOn v_isKept v_squaresRead v_ordersDone v_ground_houses (ρ.2.1) v_now_town_houses (ρ.2.2.1) (ρ.2.2.2.1) (ρ.2.2.2.2.1) v_now_town_kindOf (ρ.2.2.2.2.2.1) (ρ.2.2.2.2.2.2.1) (ρ.2.2.2.2.2.2.2) v_ground_worth) s.heap H locs → W p l e R s m args below meth c H locs cells slots Q (F0 m pc ls [.int ρ.1])) (h : fX8_night N v_ground_houses v_now_town_houses v_now_town_kindOf v_ground_worth v_now_nights v_now_town_front v_now_town_downFor v_now_town_row v_now_town_plotOf v_now_town_standsOn v_now_had  = some ρ) (H : Heap) (locs : List Loc) (ls : Array Slot) (hw : WD D A (kwX8_night cI cZ cG q q_page q_ground q_now q_kept q_ahead q_trade q_plan q_guess q_ground_worth q_ground_liked q_now_town q_now_had q_now_wishes q_now_seen q_now_town_kindOf q_now_town_plotOf q_now_town_row q_now_town_standsOn v_isKept v_squaresRead v_ordersDone v_ground_houses v_now_nights v_now_town_houses v_now_town_front v_now_town_downFor v_now_town_row v_now_town_kindOf v_now_town_plotOf v_now_town_standsOn v_now_had v_ground_worth) s.heap H locs) (hl : lv_has ls 2 [(0, .ref q)]) : W p l e R s m args below meth c H locs cells slots Q (F0 m 0 ls []) := by
  have hx := X.1.1
  have hb := X.1.2.1
  unfold fX8_night at h
  refine lv_aload_n hx hb dX8_night_0 rfl (lv_at hl 0 rfl) ?_
  obtain ⟨x_1, hc_1, h⟩ := obd h
  refine ksV_i (ws2 := (kwX8_night cI cZ cG q q_page q_ground q_now q_kept q_ahead q_trade q_plan q_guess q_ground_worth q_ground_liked q_now_town q_now_had q_now_wishes q_now_seen q_now_town_kindOf q_now_town_plotOf q_now_town_row q_now_town_standsOn v_isKept v_squaresRead v_ordersDone v_ground_houses v_now_nights v_now_town_houses v_now_town_front v_now_town_downFor v_now_town_row v_now_town_kindOf v_now_town_plotOf v_now_town_standsOn v_now_had v_ground_worth)) (nW := 10) (ci := 8) (As := []) (rest := []) X hw rfl rfl rfl (cX8_hasSquare_ct l D cI cZ cG q q_page q_ground q_now q_kept q_ahead q_trade q_plan q_guess q_ground_worth q_ground_liked v_isKept v_squaresRead v_ordersDone v_ground_houses N x_1 hc_1 H.size) mX8_hasSquare tw_459 (hrm.call (by decide) (by decide)) [0, 1] rfl (by decide) rfl (by decide) rfl ⟨rfl, ⟨rfl, ⟨rfl, ⟨rfl, ⟨rfl, ⟨rfl, ⟨rfl, ⟨rfl, trivial⟩⟩⟩⟩⟩⟩⟩⟩ rfl hl.1 rfl (Nat.le_of_ble_eq_true rfl) dX8_night_1 ⟨hrm.2.2.1, hrm.2.2.2⟩ (fun H locs hw => ?_)
  refine lv_if_ne (tgt := 10) hx hb dX8_night_4 (by decide) (fun c_4 => ?_) (fun c_4 => ?_)
  · have h := iff_ c_4 h
    refine lv_aload_n hx hb dX8_night_10 rfl (lv_at hl 0 rfl) ?_
    refine kget (ci := 8) (v := .ref q_now) X hw iX8 0 rfl rfl 2 (by decide) tw_421 rfl dX8_night_11 ?_
    refine kget (ci := 5) (v := .int v_now_nights) X hw iX5 2 rfl rfl 4 (by decide) tw_467 rfl dX8_night_14 ?_
    refine lv_sipush (v := (999 : Int32)) hx hb dX8_night_17 (by decide) ?_
    refine lv_icmp_lt (tgt := 26) hx hb dX8_night_20 (by decide) (fun c_20 => ?_) (fun c_20 => ?_)
    · have h := ift c_20 h
      refine lv_aload_n hx hb dX8_night_26 rfl (lv_at hl 0 rfl) ?_
      refine kget (ci := 8) (v := .ref q_now) X hw iX8 0 rfl rfl 2 (by decide) tw_421 rfl dX8_night_27 ?_
      refine kget (ci := 5) (v := .ref q_now_town) X hw iX5 2 rfl rfl 0 (by decide) tw_433 rfl dX8_night_30 ?_
      obtain ⟨x_33, hc_33, h⟩ := obd h
      refine ksV_i (ws2 := (kwX8_night cI cZ cG q q_page q_ground q_now q_kept q_ahead q_trade q_plan q_guess q_ground_worth q_ground_liked q_now_town q_now_had q_now_wishes q_now_seen q_now_town_kindOf q_now_town_plotOf q_now_town_row q_now_town_standsOn v_isKept v_squaresRead v_ordersDone v_ground_houses v_now_nights v_now_town_houses x_33.2.1 x_33.2.2.1 x_33.2.2.2.1 v_now_town_kindOf x_33.2.2.2.2.1 x_33.2.2.2.2.2 v_now_had v_ground_worth)) (nW := 10) (ci := 6) (As := []) (rest := []) X hw rfl rfl rfl (cX6_turn_ct l D cI cZ cG q_now_town q_now_town_kindOf q_now_town_plotOf q_now_town_row q_now_town_standsOn v_now_town_houses v_now_town_front v_now_town_downFor v_now_town_row v_now_town_kindOf v_now_town_plotOf v_now_town_standsOn N x_33 hc_33 H.size) mX6_turn tw_468 (hrm.call (by decide) (by decide)) [3, 4, 5, 6, 7] rfl (by decide) rfl (by decide) rfl ⟨rfl, ⟨rfl, ⟨rfl, ⟨rfl, ⟨rfl, trivial⟩⟩⟩⟩⟩ rfl hl.1 rfl (Nat.le_of_ble_eq_true rfl) dX8_night_33 ⟨hrm.2.2.1, hrm.2.2.2⟩ (fun H locs hw => ?_)
      refine lv_istore_n (lv' := [(1, .int x_33.1), (0, .ref q)]) hx hb dX8_night_36 rfl hl (by decide) rfl (fun ls hl => ?_)
      refine lv_aload_n hx hb dX8_night_37 rfl (lv_at hl 1 rfl) ?_
      refine kget (ci := 8) (v := .ref q_now) X hw iX8 0 rfl rfl 2 (by decide) tw_421 rfl dX8_night_38 ?_
      refine lv_aload_n hx hb dX8_night_41 rfl (lv_at hl 1 rfl) ?_
      refine kget (ci := 8) (v := .ref q_ground) X hw iX8 0 rfl rfl 1 (by decide) tw_419 rfl dX8_night_42 ?_
      obtain ⟨x_45, hc_45, h⟩ := obd h
      refine ksV_v (ws2 := (kwX8_night cI cZ cG q q_page q_ground q_now q_kept q_ahead q_trade q_plan q_guess q_ground_worth q_ground_liked q_now_town q_now_had q_now_wishes q_now_seen q_now_town_kindOf q_now_town_plotOf q_now_town_row q_now_town_standsOn v_isKept v_squaresRead v_ordersDone v_ground_houses x_45.1 v_now_town_houses x_33.2.1 x_33.2.2.1 x_33.2.2.2.1 v_now_town_kindOf x_33.2.2.2.2.1 x_33.2.2.2.2.2 x_45.2 v_ground_worth)) (nW := 10) (ci := 5) (As := [.ref q_ground]) (rest := []) X hw rfl rfl rfl (cX5_endNight_ct l D cI cZ cG q_now q_now_town q_now_had q_now_wishes q_now_seen q_now_town_kindOf q_now_town_plotOf q_now_town_row q_now_town_standsOn q_ground q_ground_worth q_ground_liked v_now_nights v_now_town_houses x_33.2.1 x_33.2.2.1 v_now_had v_ground_houses x_33.2.2.2.2.1 v_ground_worth N x_45 hc_45 H.size) mX5_endNight tw_469 (hrm.call (by decide) (by decide)) [2, 3, 8, 1, 6, 9] rfl (by decide) rfl (by decide) rfl ⟨rfl, ⟨rfl, ⟨rfl, ⟨rfl, trivial⟩⟩⟩⟩ rfl hl.1 rfl (Nat.le_of_ble_eq_true rfl) dX8_night_45 ⟨hrm.2.2.1, hrm.2.2.2⟩ (fun H locs hw => ?_)
      refine lv_iload_n hx hb dX8_night_48 rfl (lv_at hl 0 rfl) ?_
      obtain rfl := Option.some.inj h
      exact ret _ _ _ _ dX8_night_49 hw
    · have h := iff_ c_20 h
      refine lv_bipush (v := (-104 : Int32)) hx hb dX8_night_23 (by decide) ?_
      obtain rfl := Option.some.inj h
      exact ret _ _ _ _ dX8_night_25 hw
  · have h := ift c_4 h
    refine lv_bipush (v := (-103 : Int32)) hx hb dX8_night_7 (by decide) ?_
    obtain rfl := Option.some.inj h
    exact ret _ _ _ _ dX8_night_9 hw
set_option maxHeartbeats 4000000 in
set_option maxRecDepth 100000 in
theorem cX8_night_ct (l : Launch) (D : va_G) (cI cZ cG : ClassId) (q q_page q_ground q_now q_kept q_ahead q_trade q_plan q_guess q_ground_worth q_ground_liked q_now_town q_now_had q_now_wishes q_now_seen q_now_town_kindOf q_now_town_plotOf q_now_town_row q_now_town_standsOn : Nat)  (v_isKept : Int32) (v_squaresRead : Int32) (v_ordersDone : Int32) (v_ground_houses : Int32) (v_now_nights : Int32) (v_now_town_houses : Int32) (v_now_town_front : Int32) (v_now_town_downFor : Int32) (v_now_town_row : (Nat → Int32)) (v_now_town_kindOf : (Nat → Int32)) (v_now_town_plotOf : (Nat → Int32)) (v_now_town_standsOn : (Nat → Int32)) (v_now_had : (Nat → Int32)) (v_ground_worth : (Nat → Int32))  (N : Nat) (ρ : Int32 × Int32 × Int32 × Int32 × (Nat → Int32) × (Nat → Int32) × (Nat → Int32) × (Nat → Int32)) (h : fX8_night N v_ground_houses v_now_town_houses v_now_town_kindOf v_ground_worth v_now_nights v_now_town_front v_now_town_downFor v_now_town_row v_now_town_plotOf v_now_town_standsOn v_now_had  = some ρ) (sz : Nat) : Met l yX8_night (wz yX8_night cX8_night 2 (some .int)) (cRm 3 67) (cPre D (TY cI cZ cG) [.ref q] (kwX8_night cI cZ cG q q_page q_ground q_now q_kept q_ahead q_trade q_plan q_guess q_ground_worth q_ground_liked q_now_town q_now_had q_now_wishes q_now_seen q_now_town_kindOf q_now_town_plotOf q_now_town_row q_now_town_standsOn v_isKept v_squaresRead v_ordersDone v_ground_houses v_now_nights v_now_town_houses v_now_town_front v_now_town_downFor v_now_town_row v_now_town_kindOf v_now_town_plotOf v_now_town_standsOn v_now_had v_ground_worth) sz) (cQi D (ρ.1) (kwX8_night cI cZ cG q q_page q_ground q_now q_kept q_ahead q_trade q_plan q_guess q_ground_worth q_ground_liked q_now_town q_now_had q_now_wishes q_now_seen q_now_town_kindOf q_now_town_plotOf q_now_town_row q_now_town_standsOn v_isKept v_squaresRead v_ordersDone v_ground_houses v_now_nights v_now_town_houses v_now_town_front v_now_town_downFor v_now_town_row v_now_town_kindOf v_now_town_plotOf v_now_town_standsOn v_now_had v_ground_worth) (kwX8_night cI cZ cG q q_page q_ground q_now q_kept q_ahead q_trade q_plan q_guess q_ground_worth q_ground_liked q_now_town q_now_had q_now_wishes q_now_seen q_now_town_kindOf q_now_town_plotOf q_now_town_row q_now_town_standsOn v_isKept v_squaresRead v_ordersDone v_ground_houses (ρ.2.1) v_now_town_houses (ρ.2.2.1) (ρ.2.2.2.1) (ρ.2.2.2.2.1) v_now_town_kindOf (ρ.2.2.2.2.2.1) (ρ.2.2.2.2.2.2.1) (ρ.2.2.2.2.2.2.2) v_ground_worth) sz) 0 0 (va_A (kwX8_night cI cZ cG q q_page q_ground q_now q_kept q_ahead q_trade q_plan q_guess q_ground_worth q_ground_liked q_now_town q_now_had q_now_wishes q_now_seen q_now_town_kindOf q_now_town_plotOf q_now_town_row q_now_town_standsOn v_isKept v_squaresRead v_ordersDone v_ground_houses v_now_nights v_now_town_houses v_now_town_front v_now_town_downFor v_now_town_row v_now_town_kindOf v_now_town_plotOf v_now_town_standsOn v_now_had v_ground_worth) sz) :=
  mk_i (by decide) (Nat.le_of_ble_eq_true rfl) (fun X hrm ret hw hl => wX8_night X hrm ret h _ _ _ hw hl)
theorem dX8_snow_0 : decode cX8_snow 0 = .ok (.aload_n 0, 1) := by decide +kernel
theorem dX8_snow_1 : decode cX8_snow 1 = .ok (.invokevirtual 135, 3) := by decide +kernel
theorem dX8_snow_4 : decode cX8_snow 4 = .ok (.ifCond .ne 6, 3) := by decide +kernel
theorem dX8_snow_7 : decode cX8_snow 7 = .ok (.bipush (-103), 2) := by decide +kernel
theorem dX8_snow_9 : decode cX8_snow 9 = .ok (.ireturn, 1) := by decide +kernel
theorem dX8_snow_10 : decode cX8_snow 10 = .ok (.aload_n 0, 1) := by decide +kernel
theorem dX8_snow_11 : decode cX8_snow 11 = .ok (.getfield 26, 3) := by decide +kernel
theorem dX8_snow_14 : decode cX8_snow 14 = .ok (.getfield 150, 3) := by decide +kernel
theorem dX8_snow_17 : decode cX8_snow 17 = .ok (.sipush 999, 3) := by decide +kernel
theorem dX8_snow_20 : decode cX8_snow 20 = .ok (.if_icmp .lt 6, 3) := by decide +kernel
theorem dX8_snow_23 : decode cX8_snow 23 = .ok (.bipush (-104), 2) := by decide +kernel
theorem dX8_snow_25 : decode cX8_snow 25 = .ok (.ireturn, 1) := by decide +kernel
theorem dX8_snow_26 : decode cX8_snow 26 = .ok (.aload_n 0, 1) := by decide +kernel
theorem dX8_snow_27 : decode cX8_snow 27 = .ok (.getfield 26, 3) := by decide +kernel
theorem dX8_snow_30 : decode cX8_snow 30 = .ok (.aload_n 0, 1) := by decide +kernel
theorem dX8_snow_31 : decode cX8_snow 31 = .ok (.getfield 19, 3) := by decide +kernel
theorem dX8_snow_34 : decode cX8_snow 34 = .ok (.invokevirtual 156, 3) := by decide +kernel
theorem dX8_snow_37 : decode cX8_snow 37 = .ok (.aload_n 0, 1) := by decide +kernel
theorem dX8_snow_38 : decode cX8_snow 38 = .ok (.getfield 26, 3) := by decide +kernel
theorem dX8_snow_41 : decode cX8_snow 41 = .ok (.getfield 150, 3) := by decide +kernel
theorem dX8_snow_44 : decode cX8_snow 44 = .ok (.ireturn, 1) := by decide +kernel
abbrev kwX8_snow (cI cZ cG : ClassId) (q q_page q_ground q_now q_kept q_ahead q_trade q_plan q_guess q_ground_worth q_ground_liked q_now_town q_now_had q_now_wishes q_now_seen q_now_town_kindOf q_now_town_plotOf q_now_town_row q_now_town_standsOn : Nat) (v_isKept : Int32) (v_squaresRead : Int32) (v_ordersDone : Int32) (v_ground_houses : Int32) (v_now_nights : Int32) (v_now_town_houses : Int32) (v_now_town_front : Int32) (v_now_town_downFor : Int32) (v_now_had : (Nat → Int32)) (v_now_town_plotOf : (Nat → Int32)) (v_ground_worth : (Nat → Int32)) : va_W := [(q, .inr (8, [.ref q_page, .ref q_ground, .ref q_now, .ref q_kept, .ref q_ahead, .ref q_trade, .ref q_plan, .ref q_guess, .int v_isKept, .int v_squaresRead, .int v_ordersDone])), (q_ground, .inr (0, [.ref q_ground_worth, .ref q_ground_liked, .int v_ground_houses])), (q_now, .inr (5, [.ref q_now_town, .ref q_now_had, .ref q_now_wishes, .ref q_now_seen, .int v_now_nights])), (q_now_town, .inr (6, [.ref q_now_town_kindOf, .ref q_now_town_plotOf, .ref q_now_town_row, .ref q_now_town_standsOn, .int v_now_town_houses, .int v_now_town_front, .int v_now_town_downFor])), (q_now_had, .inl (cI, 6, .inl v_now_had)), (q_now_town_plotOf, .inl (cI, 6, .inl v_now_town_plotOf)), (q_ground_worth, .inl (cI, 12, .inl v_ground_worth))]
noncomputable def fX8_snow (N : Nat) (v_ground_houses : Int32) (v_now_town_houses : Int32) (v_now_town_plotOf : (Nat → Int32)) (v_ground_worth : (Nat → Int32)) (v_now_nights : Int32) (v_now_had : (Nat → Int32))  : Option (Int32 × Int32 × (Nat → Int32)) := (fX8_hasSquare N v_ground_houses).bind (fun x_1 => if x_1 = 0 then (some ((-103 : Int32), v_now_nights, v_now_had)) else (if v_now_nights < (999 : Int32) then ((fX5_endNight N v_now_town_houses v_now_town_plotOf v_ground_worth v_now_nights v_now_had).bind (fun x_34 => some (x_34.1, x_34.1, x_34.2))) else (some ((-104 : Int32), v_now_nights, v_now_had))))
set_option maxHeartbeats 4000000 in
set_option maxRecDepth 100000 in
theorem wX8_snow {p : Program} {l : Launch} {e : Env} {R : Room} {s : State} {m : MethodId} {args : Array Value} {below : List Frame} {meth : Method} {c : Code} {cells slots : Nat} {Q : State → Prop} {D : va_G} {A : Nat → Prop} {cI cZ cG : ClassId} {q q_page q_ground q_now q_kept q_ahead q_trade q_plan q_guess q_ground_worth q_ground_liked q_now_town q_now_had q_now_wishes q_now_seen q_now_town_kindOf q_now_town_plotOf q_now_town_row q_now_town_standsOn : Nat} {v_isKept : Int32} {v_squaresRead : Int32} {v_ordersDone : Int32} {v_ground_houses : Int32} {v_now_nights : Int32} {v_now_town_houses : Int32} {v_now_town_front : Int32} {v_now_town_downFor : Int32} {v_now_had : (Nat → Int32)} {v_now_town_plotOf : (Nat → Int32)} {v_ground_worth : (Nat → Int32)} {N : Nat} {ρ : Int32 × Int32 × (Nat → Int32)} (X : CX p s m args c cX8_snow 1 RX8 D (TY cI cZ cG) A) (hrm : RM R 3 65 cells slots) (ret : ∀ (pc : Nat) (H : Heap) (locs : List Loc) (ls : Array Slot), decode cX8_snow pc = .ok (.ireturn, 1) → WD D A (kwX8_snow cI cZ cG q q_page q_ground q_now q_kept q_ahead q_trade q_plan q_guess q_ground_worth q_ground_liked q_now_town q_now_had q_now_wishes q_now_seen q_now_town_kindOf q_now_town_plotOf q_now_town_row q_now_town_standsOn v_isKept v_squaresRead v_ordersDone v_ground_houses (ρ.2.1) v_now_town_houses v_now_town_front v_now_town_downFor (ρ.2.2) v_now_town_plotOf v_ground_worth) s.heap H locs → W p l e R s m args below meth c H locs cells slots Q (F0 m pc ls [.int ρ.1])) (h : fX8_snow N v_ground_houses v_now_town_houses v_now_town_plotOf v_ground_worth v_now_nights v_now_had  = some ρ) (H : Heap) (locs : List Loc) (ls : Array Slot) (hw : WD D A (kwX8_snow cI cZ cG q q_page q_ground q_now q_kept q_ahead q_trade q_plan q_guess q_ground_worth q_ground_liked q_now_town q_now_had q_now_wishes q_now_seen q_now_town_kindOf q_now_town_plotOf q_now_town_row q_now_town_standsOn v_isKept v_squaresRead v_ordersDone v_ground_houses v_now_nights v_now_town_houses v_now_town_front v_now_town_downFor v_now_had v_now_town_plotOf v_ground_worth) s.heap H locs) (hl : lv_has ls 1 [(0, .ref q)]) : W p l e R s m args below meth c H locs cells slots Q (F0 m 0 ls []) := by
  have hx := X.1.1
  have hb := X.1.2.1
  unfold fX8_snow at h
  refine lv_aload_n hx hb dX8_snow_0 rfl (lv_at hl 0 rfl) ?_
  obtain ⟨x_1, hc_1, h⟩ := obd h
  refine ksV_i (ws2 := (kwX8_snow cI cZ cG q q_page q_ground q_now q_kept q_ahead q_trade q_plan q_guess q_ground_worth q_ground_liked q_now_town q_now_had q_now_wishes q_now_seen q_now_town_kindOf q_now_town_plotOf q_now_town_row q_now_town_standsOn v_isKept v_squaresRead v_ordersDone v_ground_houses v_now_nights v_now_town_houses v_now_town_front v_now_town_downFor v_now_had v_now_town_plotOf v_ground_worth)) (nW := 7) (ci := 8) (As := []) (rest := []) X hw rfl rfl rfl (cX8_hasSquare_ct l D cI cZ cG q q_page q_ground q_now q_kept q_ahead q_trade q_plan q_guess q_ground_worth q_ground_liked v_isKept v_squaresRead v_ordersDone v_ground_houses N x_1 hc_1 H.size) mX8_hasSquare tw_459 (hrm.call (by decide) (by decide)) [0, 1] rfl (by decide) rfl (by decide) rfl ⟨rfl, ⟨rfl, ⟨rfl, ⟨rfl, ⟨rfl, trivial⟩⟩⟩⟩⟩ rfl hl.1 rfl (Nat.le_of_ble_eq_true rfl) dX8_snow_1 ⟨hrm.2.2.1, hrm.2.2.2⟩ (fun H locs hw => ?_)
  refine lv_if_ne (tgt := 10) hx hb dX8_snow_4 (by decide) (fun c_4 => ?_) (fun c_4 => ?_)
  · have h := iff_ c_4 h
    refine lv_aload_n hx hb dX8_snow_10 rfl (lv_at hl 0 rfl) ?_
    refine kget (ci := 8) (v := .ref q_now) X hw iX8 0 rfl rfl 2 (by decide) tw_421 rfl dX8_snow_11 ?_
    refine kget (ci := 5) (v := .int v_now_nights) X hw iX5 2 rfl rfl 4 (by decide) tw_467 rfl dX8_snow_14 ?_
    refine lv_sipush (v := (999 : Int32)) hx hb dX8_snow_17 (by decide) ?_
    refine lv_icmp_lt (tgt := 26) hx hb dX8_snow_20 (by decide) (fun c_20 => ?_) (fun c_20 => ?_)
    · have h := ift c_20 h
      refine lv_aload_n hx hb dX8_snow_26 rfl (lv_at hl 0 rfl) ?_
      refine kget (ci := 8) (v := .ref q_now) X hw iX8 0 rfl rfl 2 (by decide) tw_421 rfl dX8_snow_27 ?_
      refine lv_aload_n hx hb dX8_snow_30 rfl (lv_at hl 0 rfl) ?_
      refine kget (ci := 8) (v := .ref q_ground) X hw iX8 0 rfl rfl 1 (by decide) tw_419 rfl dX8_snow_31 ?_
      obtain ⟨x_34, hc_34, h⟩ := obd h
      refine ksV_v (ws2 := (kwX8_snow cI cZ cG q q_page q_ground q_now q_kept q_ahead q_trade q_plan q_guess q_ground_worth q_ground_liked q_now_town q_now_had q_now_wishes q_now_seen q_now_town_kindOf q_now_town_plotOf q_now_town_row q_now_town_standsOn v_isKept v_squaresRead v_ordersDone v_ground_houses x_34.1 v_now_town_houses v_now_town_front v_now_town_downFor x_34.2 v_now_town_plotOf v_ground_worth)) (nW := 7) (ci := 5) (As := [.ref q_ground]) (rest := []) X hw rfl rfl rfl (cX5_endNight_ct l D cI cZ cG q_now q_now_town q_now_had q_now_wishes q_now_seen q_now_town_kindOf q_now_town_plotOf q_now_town_row q_now_town_standsOn q_ground q_ground_worth q_ground_liked v_now_nights v_now_town_houses v_now_town_front v_now_town_downFor v_now_had v_ground_houses v_now_town_plotOf v_ground_worth N x_34 hc_34 H.size) mX5_endNight tw_469 (hrm.call (by decide) (by decide)) [2, 3, 4, 1, 5, 6] rfl (by decide) rfl (by decide) rfl ⟨rfl, trivial⟩ rfl hl.1 rfl (Nat.le_of_ble_eq_true rfl) dX8_snow_34 ⟨hrm.2.2.1, hrm.2.2.2⟩ (fun H locs hw => ?_)
      refine lv_aload_n hx hb dX8_snow_37 rfl (lv_at hl 0 rfl) ?_
      refine kget (ci := 8) (v := .ref q_now) X hw iX8 0 rfl rfl 2 (by decide) tw_421 rfl dX8_snow_38 ?_
      refine kget (ci := 5) (v := .int x_34.1) X hw iX5 2 rfl rfl 4 (by decide) tw_467 rfl dX8_snow_41 ?_
      obtain rfl := Option.some.inj h
      exact ret _ _ _ _ dX8_snow_44 hw
    · have h := iff_ c_20 h
      refine lv_bipush (v := (-104 : Int32)) hx hb dX8_snow_23 (by decide) ?_
      obtain rfl := Option.some.inj h
      exact ret _ _ _ _ dX8_snow_25 hw
  · have h := ift c_4 h
    refine lv_bipush (v := (-103 : Int32)) hx hb dX8_snow_7 (by decide) ?_
    obtain rfl := Option.some.inj h
    exact ret _ _ _ _ dX8_snow_9 hw
set_option maxHeartbeats 4000000 in
set_option maxRecDepth 100000 in
theorem cX8_snow_ct (l : Launch) (D : va_G) (cI cZ cG : ClassId) (q q_page q_ground q_now q_kept q_ahead q_trade q_plan q_guess q_ground_worth q_ground_liked q_now_town q_now_had q_now_wishes q_now_seen q_now_town_kindOf q_now_town_plotOf q_now_town_row q_now_town_standsOn : Nat)  (v_isKept : Int32) (v_squaresRead : Int32) (v_ordersDone : Int32) (v_ground_houses : Int32) (v_now_nights : Int32) (v_now_town_houses : Int32) (v_now_town_front : Int32) (v_now_town_downFor : Int32) (v_now_had : (Nat → Int32)) (v_now_town_plotOf : (Nat → Int32)) (v_ground_worth : (Nat → Int32))  (N : Nat) (ρ : Int32 × Int32 × (Nat → Int32)) (h : fX8_snow N v_ground_houses v_now_town_houses v_now_town_plotOf v_ground_worth v_now_nights v_now_had  = some ρ) (sz : Nat) : Met l yX8_snow (wz yX8_snow cX8_snow 1 (some .int)) (cRm 3 65) (cPre D (TY cI cZ cG) [.ref q] (kwX8_snow cI cZ cG q q_page q_ground q_now q_kept q_ahead q_trade q_plan q_guess q_ground_worth q_ground_liked q_now_town q_now_had q_now_wishes q_now_seen q_now_town_kindOf q_now_town_plotOf q_now_town_row q_now_town_standsOn v_isKept v_squaresRead v_ordersDone v_ground_houses v_now_nights v_now_town_houses v_now_town_front v_now_town_downFor v_now_had v_now_town_plotOf v_ground_worth) sz) (cQi D (ρ.1) (kwX8_snow cI cZ cG q q_page q_ground q_now q_kept q_ahead q_trade q_plan q_guess q_ground_worth q_ground_liked q_now_town q_now_had q_now_wishes q_now_seen q_now_town_kindOf q_now_town_plotOf q_now_town_row q_now_town_standsOn v_isKept v_squaresRead v_ordersDone v_ground_houses v_now_nights v_now_town_houses v_now_town_front v_now_town_downFor v_now_had v_now_town_plotOf v_ground_worth) (kwX8_snow cI cZ cG q q_page q_ground q_now q_kept q_ahead q_trade q_plan q_guess q_ground_worth q_ground_liked q_now_town q_now_had q_now_wishes q_now_seen q_now_town_kindOf q_now_town_plotOf q_now_town_row q_now_town_standsOn v_isKept v_squaresRead v_ordersDone v_ground_houses (ρ.2.1) v_now_town_houses v_now_town_front v_now_town_downFor (ρ.2.2) v_now_town_plotOf v_ground_worth) sz) 0 0 (va_A (kwX8_snow cI cZ cG q q_page q_ground q_now q_kept q_ahead q_trade q_plan q_guess q_ground_worth q_ground_liked q_now_town q_now_had q_now_wishes q_now_seen q_now_town_kindOf q_now_town_plotOf q_now_town_row q_now_town_standsOn v_isKept v_squaresRead v_ordersDone v_ground_houses v_now_nights v_now_town_houses v_now_town_front v_now_town_downFor v_now_had v_now_town_plotOf v_ground_worth) sz) :=
  mk_i (by decide) (Nat.le_of_ble_eq_true rfl) (fun X hrm ret hw hl => wX8_snow X hrm ret h _ _ _ hw hl)
theorem dX8_build_0 : decode cX8_build 0 = .ok (.aload_n 0, 1) := by decide +kernel
theorem dX8_build_1 : decode cX8_build 1 = .ok (.iload_n 1, 1) := by decide +kernel
theorem dX8_build_2 : decode cX8_build 2 = .ok (.invokevirtual 94, 3) := by decide +kernel
theorem dX8_build_5 : decode cX8_build 5 = .ok (.ifCond .ne 6, 3) := by decide +kernel
theorem dX8_build_8 : decode cX8_build 8 = .ok (.bipush (-101), 2) := by decide +kernel
theorem dX8_build_10 : decode cX8_build 10 = .ok (.ireturn, 1) := by decide +kernel
theorem dX8_build_11 : decode cX8_build 11 = .ok (.iload_n 2, 1) := by decide +kernel
theorem dX8_build_12 : decode cX8_build 12 = .ok (.invokestatic 132, 3) := by decide +kernel
theorem dX8_build_15 : decode cX8_build 15 = .ok (.ifCond .ne 6, 3) := by decide +kernel
theorem dX8_build_18 : decode cX8_build 18 = .ok (.bipush (-102), 2) := by decide +kernel
theorem dX8_build_20 : decode cX8_build 20 = .ok (.ireturn, 1) := by decide +kernel
theorem dX8_build_21 : decode cX8_build 21 = .ok (.aload_n 0, 1) := by decide +kernel
theorem dX8_build_22 : decode cX8_build 22 = .ok (.getfield 26, 3) := by decide +kernel
theorem dX8_build_25 : decode cX8_build 25 = .ok (.getfield 98, 3) := by decide +kernel
theorem dX8_build_28 : decode cX8_build 28 = .ok (.iload_n 1, 1) := by decide +kernel
theorem dX8_build_29 : decode cX8_build 29 = .ok (.invokevirtual 160, 3) := by decide +kernel
theorem dX8_build_32 : decode cX8_build 32 = .ok (.ifCond .eq 6, 3) := by decide +kernel
theorem dX8_build_35 : decode cX8_build 35 = .ok (.bipush (-103), 2) := by decide +kernel
theorem dX8_build_37 : decode cX8_build 37 = .ok (.ireturn, 1) := by decide +kernel
theorem dX8_build_38 : decode cX8_build 38 = .ok (.aload_n 0, 1) := by decide +kernel
theorem dX8_build_39 : decode cX8_build 39 = .ok (.getfield 26, 3) := by decide +kernel
theorem dX8_build_42 : decode cX8_build 42 = .ok (.getfield 98, 3) := by decide +kernel
theorem dX8_build_45 : decode cX8_build 45 = .ok (.getfield 101, 3) := by decide +kernel
theorem dX8_build_48 : decode cX8_build 48 = .ok (.iload_n 1, 1) := by decide +kernel
theorem dX8_build_49 : decode cX8_build 49 = .ok (.iaload, 1) := by decide +kernel
theorem dX8_build_50 : decode cX8_build 50 = .ok (.istore_n 3, 1) := by decide +kernel
theorem dX8_build_51 : decode cX8_build 51 = .ok (.aload_n 0, 1) := by decide +kernel
theorem dX8_build_52 : decode cX8_build 52 = .ok (.getfield 26, 3) := by decide +kernel
theorem dX8_build_55 : decode cX8_build 55 = .ok (.getfield 98, 3) := by decide +kernel
theorem dX8_build_58 : decode cX8_build 58 = .ok (.getfield 101, 3) := by decide +kernel
theorem dX8_build_61 : decode cX8_build 61 = .ok (.iload_n 1, 1) := by decide +kernel
theorem dX8_build_62 : decode cX8_build 62 = .ok (.iload_n 2, 1) := by decide +kernel
theorem dX8_build_63 : decode cX8_build 63 = .ok (.iastore, 1) := by decide +kernel
theorem dX8_build_64 : decode cX8_build 64 = .ok (.iload_n 3, 1) := by decide +kernel
theorem dX8_build_65 : decode cX8_build 65 = .ok (.ireturn, 1) := by decide +kernel
abbrev kwX8_build (cI cZ cG : ClassId) (q q_page q_ground q_now q_kept q_ahead q_trade q_plan q_guess q_ground_worth q_ground_liked q_now_town q_now_had q_now_wishes q_now_seen q_now_town_kindOf q_now_town_plotOf q_now_town_row q_now_town_standsOn : Nat) (v_isKept : Int32) (v_squaresRead : Int32) (v_ordersDone : Int32) (v_ground_houses : Int32) (v_now_nights : Int32) (v_now_town_houses : Int32) (v_now_town_front : Int32) (v_now_town_downFor : Int32) (v_now_town_plotOf : (Nat → Int32)) (v_now_town_kindOf : (Nat → Int32)) : va_W := [(q, .inr (8, [.ref q_page, .ref q_ground, .ref q_now, .ref q_kept, .ref q_ahead, .ref q_trade, .ref q_plan, .ref q_guess, .int v_isKept, .int v_squaresRead, .int v_ordersDone])), (q_ground, .inr (0, [.ref q_ground_worth, .ref q_ground_liked, .int v_ground_houses])), (q_now, .inr (5, [.ref q_now_town, .ref q_now_had, .ref q_now_wishes, .ref q_now_seen, .int v_now_nights])), (q_now_town, .inr (6, [.ref q_now_town_kindOf, .ref q_now_town_plotOf, .ref q_now_town_row, .ref q_now_town_standsOn, .int v_now_town_houses, .int v_now_town_front, .int v_now_town_downFor])), (q_now_town_plotOf, .inl (cI, 6, .inl v_now_town_plotOf)), (q_now_town_kindOf, .inl (cI, 6, .inl v_now_town_kindOf))]
noncomputable def fX8_build (N : Nat) (v_ground_houses : Int32) (v_now_town_plotOf : (Nat → Int32)) (a1 : Int32) (a2 : Int32) (v_now_town_kindOf : (Nat → Int32))  : Option (Int32 × (Nat → Int32)) := (fX8_isHouse N v_ground_houses a1).bind (fun x_2 => if x_2 = 0 then (some ((-101 : Int32), v_now_town_kindOf)) else ((fX8_isKind N a2).bind (fun x_12 => if x_12 = 0 then (some ((-102 : Int32), v_now_town_kindOf)) else ((fX6_isDown N v_now_town_plotOf a1).bind (fun x_29 => if x_29 = 0 then (if a1 < 0 ∨ 6 ≤ (a1).toNatClampNeg then none else (if a1 < 0 ∨ 6 ≤ (a1).toNatClampNeg then none else (some ((v_now_town_kindOf (a1).toNatClampNeg), (upd v_now_town_kindOf (a1).toNatClampNeg a2))))) else (some ((-103 : Int32), v_now_town_kindOf)))))))
set_option maxHeartbeats 4000000 in
set_option maxRecDepth 100000 in
theorem wX8_build {p : Program} {l : Launch} {e : Env} {R : Room} {s : State} {m : MethodId} {args : Array Value} {below : List Frame} {meth : Method} {c : Code} {cells slots : Nat} {Q : State → Prop} {D : va_G} {A : Nat → Prop} {cI cZ cG : ClassId} {q q_page q_ground q_now q_kept q_ahead q_trade q_plan q_guess q_ground_worth q_ground_liked q_now_town q_now_had q_now_wishes q_now_seen q_now_town_kindOf q_now_town_plotOf q_now_town_row q_now_town_standsOn : Nat} {v_isKept : Int32} {v_squaresRead : Int32} {v_ordersDone : Int32} {v_ground_houses : Int32} {v_now_nights : Int32} {v_now_town_houses : Int32} {v_now_town_front : Int32} {v_now_town_downFor : Int32} {v_now_town_plotOf : (Nat → Int32)} {v_now_town_kindOf : (Nat → Int32)} {a1 : Int32} {a2 : Int32} {N : Nat} {ρ : Int32 × (Nat → Int32)} (X : CX p s m args c cX8_build 4 RX8 D (TY cI cZ cG) A) (hrm : RM R 1 21 cells slots) (ret : ∀ (pc : Nat) (H : Heap) (locs : List Loc) (ls : Array Slot), decode cX8_build pc = .ok (.ireturn, 1) → WD D A (kwX8_build cI cZ cG q q_page q_ground q_now q_kept q_ahead q_trade q_plan q_guess q_ground_worth q_ground_liked q_now_town q_now_had q_now_wishes q_now_seen q_now_town_kindOf q_now_town_plotOf q_now_town_row q_now_town_standsOn v_isKept v_squaresRead v_ordersDone v_ground_houses v_now_nights v_now_town_houses v_now_town_front v_now_town_downFor v_now_town_plotOf (ρ.2)) s.heap H locs → W p l e R s m args below meth c H locs cells slots Q (F0 m pc ls [.int ρ.1])) (h : fX8_build N v_ground_houses v_now_town_plotOf a1 a2 v_now_town_kindOf  = some ρ) (H : Heap) (locs : List Loc) (ls : Array Slot) (hw : WD D A (kwX8_build cI cZ cG q q_page q_ground q_now q_kept q_ahead q_trade q_plan q_guess q_ground_worth q_ground_liked q_now_town q_now_had q_now_wishes q_now_seen q_now_town_kindOf q_now_town_plotOf q_now_town_row q_now_town_standsOn v_isKept v_squaresRead v_ordersDone v_ground_houses v_now_nights v_now_town_houses v_now_town_front v_now_town_downFor v_now_town_plotOf v_now_town_kindOf) s.heap H locs) (hl : lv_has ls 4 [(0, .ref q), (1, .int a1), (2, .int a2)]) : W p l e R s m args below meth c H locs cells slots Q (F0 m 0 ls []) := by
  have hx := X.1.1
  have hb := X.1.2.1
  unfold fX8_build at h
  refine lv_aload_n hx hb dX8_build_0 rfl (lv_at hl 0 rfl) ?_
  refine lv_iload_n hx hb dX8_build_1 rfl (lv_at hl 1 rfl) ?_
  obtain ⟨x_2, hc_2, h⟩ := obd h
  refine ksV_i (ws2 := (kwX8_build cI cZ cG q q_page q_ground q_now q_kept q_ahead q_trade q_plan q_guess q_ground_worth q_ground_liked q_now_town q_now_had q_now_wishes q_now_seen q_now_town_kindOf q_now_town_plotOf q_now_town_row q_now_town_standsOn v_isKept v_squaresRead v_ordersDone v_ground_houses v_now_nights v_now_town_houses v_now_town_front v_now_town_downFor v_now_town_plotOf v_now_town_kindOf)) (nW := 6) (ci := 8) (As := [.int a1]) (rest := []) X hw rfl rfl rfl (cX8_isHouse_ct l D cI cZ cG q q_page q_ground q_now q_kept q_ahead q_trade q_plan q_guess q_ground_worth q_ground_liked v_isKept v_squaresRead v_ordersDone v_ground_houses a1 N x_2 hc_2 H.size) mX8_isHouse tw_432 (hrm.call (by decide) (by decide)) [0, 1] rfl (by decide) rfl (by decide) rfl ⟨rfl, ⟨rfl, ⟨rfl, ⟨rfl, trivial⟩⟩⟩⟩ rfl hl.1 rfl (Nat.le_of_ble_eq_true rfl) dX8_build_2 ⟨hrm.2.2.1, hrm.2.2.2⟩ (fun H locs hw => ?_)
  refine lv_if_ne (tgt := 11) hx hb dX8_build_5 (by decide) (fun c_5 => ?_) (fun c_5 => ?_)
  · have h := iff_ c_5 h
    refine lv_iload_n hx hb dX8_build_11 rfl (lv_at hl 2 rfl) ?_
    obtain ⟨x_12, hc_12, h⟩ := obd h
    refine ksS_i (ws2 := (kwX8_build cI cZ cG q q_page q_ground q_now q_kept q_ahead q_trade q_plan q_guess q_ground_worth q_ground_liked q_now_town q_now_had q_now_wishes q_now_seen q_now_town_kindOf q_now_town_plotOf q_now_town_row q_now_town_standsOn v_isKept v_squaresRead v_ordersDone v_ground_houses v_now_nights v_now_town_houses v_now_town_front v_now_town_downFor v_now_town_plotOf v_now_town_kindOf)) (nW := 6) (As := [.int a2]) (rest := []) X hw (cX8_isKind_ct l D cI cZ cG a2 N x_12 hc_12 H.size) mX8_isKind tw_450 (hrm.call (by decide) (by decide)) [] rfl (by decide) rfl (by decide) rfl ⟨rfl, ⟨rfl, ⟨rfl, ⟨rfl, ⟨rfl, ⟨rfl, trivial⟩⟩⟩⟩⟩⟩ rfl hl.1 rfl (Nat.le_of_ble_eq_true rfl) dX8_build_12 ⟨hrm.2.2.1, hrm.2.2.2⟩ (fun H locs hw => ?_)
    refine lv_if_ne (tgt := 21) hx hb dX8_build_15 (by decide) (fun c_15 => ?_) (fun c_15 => ?_)
    · have h := iff_ c_15 h
      refine lv_aload_n hx hb dX8_build_21 rfl (lv_at hl 0 rfl) ?_
      refine kget (ci := 8) (v := .ref q_now) X hw iX8 0 rfl rfl 2 (by decide) tw_421 rfl dX8_build_22 ?_
      refine kget (ci := 5) (v := .ref q_now_town) X hw iX5 2 rfl rfl 0 (by decide) tw_433 rfl dX8_build_25 ?_
      refine lv_iload_n hx hb dX8_build_28 rfl (lv_at hl 1 rfl) ?_
      obtain ⟨x_29, hc_29, h⟩ := obd h
      refine ksV_i (ws2 := (kwX8_build cI cZ cG q q_page q_ground q_now q_kept q_ahead q_trade q_plan q_guess q_ground_worth q_ground_liked q_now_town q_now_had q_now_wishes q_now_seen q_now_town_kindOf q_now_town_plotOf q_now_town_row q_now_town_standsOn v_isKept v_squaresRead v_ordersDone v_ground_houses v_now_nights v_now_town_houses v_now_town_front v_now_town_downFor v_now_town_plotOf v_now_town_kindOf)) (nW := 6) (ci := 6) (As := [.int a1]) (rest := []) X hw rfl rfl rfl (cX6_isDown_ct l D cI cZ cG q_now_town q_now_town_kindOf q_now_town_plotOf q_now_town_row q_now_town_standsOn v_now_town_houses v_now_town_front v_now_town_downFor v_now_town_plotOf a1 N x_29 hc_29 H.size) mX6_isDown tw_476 (hrm.call (by decide) (by decide)) [3, 4] rfl (by decide) rfl (by decide) rfl ⟨rfl, ⟨rfl, ⟨rfl, ⟨rfl, trivial⟩⟩⟩⟩ rfl hl.1 rfl (Nat.le_of_ble_eq_true rfl) dX8_build_29 ⟨hrm.2.2.1, hrm.2.2.2⟩ (fun H locs hw => ?_)
      refine lv_if_eq (tgt := 38) hx hb dX8_build_32 (by decide) (fun c_32 => ?_) (fun c_32 => ?_)
      · have h := ift c_32 h
        refine lv_aload_n hx hb dX8_build_38 rfl (lv_at hl 0 rfl) ?_
        refine kget (ci := 8) (v := .ref q_now) X hw iX8 0 rfl rfl 2 (by decide) tw_421 rfl dX8_build_39 ?_
        refine kget (ci := 5) (v := .ref q_now_town) X hw iX5 2 rfl rfl 0 (by decide) tw_433 rfl dX8_build_42 ?_
        refine kget (ci := 6) (v := .ref q_now_town_kindOf) X hw iX6 3 rfl rfl 0 (by decide) tw_434 rfl dX8_build_45 ?_
        refine lv_iload_n hx hb dX8_build_48 rfl (lv_at hl 1 rfl) ?_
        obtain ⟨g_49, h⟩ := gd h
        refine kiald X hw 5 rfl rfl g_49 dX8_build_49 ?_
        refine lv_istore_n (lv' := [(3, .int (v_now_town_kindOf (a1).toNatClampNeg)), (0, .ref q), (1, .int a1), (2, .int a2)]) hx hb dX8_build_50 rfl hl (by decide) rfl (fun ls hl => ?_)
        refine lv_aload_n hx hb dX8_build_51 rfl (lv_at hl 1 rfl) ?_
        refine kget (ci := 8) (v := .ref q_now) X hw iX8 0 rfl rfl 2 (by decide) tw_421 rfl dX8_build_52 ?_
        refine kget (ci := 5) (v := .ref q_now_town) X hw iX5 2 rfl rfl 0 (by decide) tw_433 rfl dX8_build_55 ?_
        refine kget (ci := 6) (v := .ref q_now_town_kindOf) X hw iX6 3 rfl rfl 0 (by decide) tw_434 rfl dX8_build_58 ?_
        refine lv_iload_n hx hb dX8_build_61 rfl (lv_at hl 2 rfl) ?_
        refine lv_iload_n hx hb dX8_build_62 rfl (lv_at hl 3 rfl) ?_
        obtain ⟨g_63, h⟩ := gd h
        refine kiast X hw 5 rfl rfl g_63 dX8_build_63 (fun H locs hw => ?_)
        have hw : WD D A (kwX8_build cI cZ cG q q_page q_ground q_now q_kept q_ahead q_trade q_plan q_guess q_ground_worth q_ground_liked q_now_town q_now_had q_now_wishes q_now_seen q_now_town_kindOf q_now_town_plotOf q_now_town_row q_now_town_standsOn v_isKept v_squaresRead v_ordersDone v_ground_houses v_now_nights v_now_town_houses v_now_town_front v_now_town_downFor v_now_town_plotOf (upd v_now_town_kindOf (a1).toNatClampNeg a2)) s.heap H locs := hw
        refine lv_iload_n hx hb dX8_build_64 rfl (lv_at hl 0 rfl) ?_
        obtain rfl := Option.some.inj h
        exact ret _ _ _ _ dX8_build_65 hw
      · have h := iff_ c_32 h
        refine lv_bipush (v := (-103 : Int32)) hx hb dX8_build_35 (by decide) ?_
        obtain rfl := Option.some.inj h
        exact ret _ _ _ _ dX8_build_37 hw
    · have h := ift c_15 h
      refine lv_bipush (v := (-102 : Int32)) hx hb dX8_build_18 (by decide) ?_
      obtain rfl := Option.some.inj h
      exact ret _ _ _ _ dX8_build_20 hw
  · have h := ift c_5 h
    refine lv_bipush (v := (-101 : Int32)) hx hb dX8_build_8 (by decide) ?_
    obtain rfl := Option.some.inj h
    exact ret _ _ _ _ dX8_build_10 hw
set_option maxHeartbeats 4000000 in
set_option maxRecDepth 100000 in
theorem cX8_build_ct (l : Launch) (D : va_G) (cI cZ cG : ClassId) (q q_page q_ground q_now q_kept q_ahead q_trade q_plan q_guess q_ground_worth q_ground_liked q_now_town q_now_had q_now_wishes q_now_seen q_now_town_kindOf q_now_town_plotOf q_now_town_row q_now_town_standsOn : Nat)  (v_isKept : Int32) (v_squaresRead : Int32) (v_ordersDone : Int32) (v_ground_houses : Int32) (v_now_nights : Int32) (v_now_town_houses : Int32) (v_now_town_front : Int32) (v_now_town_downFor : Int32) (v_now_town_plotOf : (Nat → Int32)) (v_now_town_kindOf : (Nat → Int32)) (a1 : Int32) (a2 : Int32) (N : Nat) (ρ : Int32 × (Nat → Int32)) (h : fX8_build N v_ground_houses v_now_town_plotOf a1 a2 v_now_town_kindOf  = some ρ) (sz : Nat) : Met l yX8_build (wz yX8_build cX8_build 4 (some .int)) (cRm 1 21) (cPre D (TY cI cZ cG) [.ref q, .int a1, .int a2] (kwX8_build cI cZ cG q q_page q_ground q_now q_kept q_ahead q_trade q_plan q_guess q_ground_worth q_ground_liked q_now_town q_now_had q_now_wishes q_now_seen q_now_town_kindOf q_now_town_plotOf q_now_town_row q_now_town_standsOn v_isKept v_squaresRead v_ordersDone v_ground_houses v_now_nights v_now_town_houses v_now_town_front v_now_town_downFor v_now_town_plotOf v_now_town_kindOf) sz) (cQi D (ρ.1) (kwX8_build cI cZ cG q q_page q_ground q_now q_kept q_ahead q_trade q_plan q_guess q_ground_worth q_ground_liked q_now_town q_now_had q_now_wishes q_now_seen q_now_town_kindOf q_now_town_plotOf q_now_town_row q_now_town_standsOn v_isKept v_squaresRead v_ordersDone v_ground_houses v_now_nights v_now_town_houses v_now_town_front v_now_town_downFor v_now_town_plotOf v_now_town_kindOf) (kwX8_build cI cZ cG q q_page q_ground q_now q_kept q_ahead q_trade q_plan q_guess q_ground_worth q_ground_liked q_now_town q_now_had q_now_wishes q_now_seen q_now_town_kindOf q_now_town_plotOf q_now_town_row q_now_town_standsOn v_isKept v_squaresRead v_ordersDone v_ground_houses v_now_nights v_now_town_houses v_now_town_front v_now_town_downFor v_now_town_plotOf (ρ.2)) sz) 0 0 (va_A (kwX8_build cI cZ cG q q_page q_ground q_now q_kept q_ahead q_trade q_plan q_guess q_ground_worth q_ground_liked q_now_town q_now_had q_now_wishes q_now_seen q_now_town_kindOf q_now_town_plotOf q_now_town_row q_now_town_standsOn v_isKept v_squaresRead v_ordersDone v_ground_houses v_now_nights v_now_town_houses v_now_town_front v_now_town_downFor v_now_town_plotOf v_now_town_kindOf) sz) :=
  mk_i (by decide) (Nat.le_of_ble_eq_true rfl) (fun X hrm ret hw hl => wX8_build X hrm ret h _ _ _ hw hl)
theorem dX8_areTwoHouses_0 : decode cX8_areTwoHouses 0 = .ok (.aload_n 0, 1) := by decide +kernel
theorem dX8_areTwoHouses_1 : decode cX8_areTwoHouses 1 = .ok (.iload_n 1, 1) := by decide +kernel
theorem dX8_areTwoHouses_2 : decode cX8_areTwoHouses 2 = .ok (.invokevirtual 94, 3) := by decide +kernel
theorem dX8_areTwoHouses_5 : decode cX8_areTwoHouses 5 = .ok (.ifCond .eq 20, 3) := by decide +kernel
theorem dX8_areTwoHouses_8 : decode cX8_areTwoHouses 8 = .ok (.aload_n 0, 1) := by decide +kernel
theorem dX8_areTwoHouses_9 : decode cX8_areTwoHouses 9 = .ok (.iload_n 2, 1) := by decide +kernel
theorem dX8_areTwoHouses_10 : decode cX8_areTwoHouses 10 = .ok (.invokevirtual 94, 3) := by decide +kernel
theorem dX8_areTwoHouses_13 : decode cX8_areTwoHouses 13 = .ok (.ifCond .eq 12, 3) := by decide +kernel
theorem dX8_areTwoHouses_16 : decode cX8_areTwoHouses 16 = .ok (.iload_n 1, 1) := by decide +kernel
theorem dX8_areTwoHouses_17 : decode cX8_areTwoHouses 17 = .ok (.iload_n 2, 1) := by decide +kernel
theorem dX8_areTwoHouses_18 : decode cX8_areTwoHouses 18 = .ok (.if_icmp .eq 7, 3) := by decide +kernel
theorem dX8_areTwoHouses_21 : decode cX8_areTwoHouses 21 = .ok (.iconst 1, 1) := by decide +kernel
theorem dX8_areTwoHouses_22 : decode cX8_areTwoHouses 22 = .ok (.goto 4, 3) := by decide +kernel
theorem dX8_areTwoHouses_25 : decode cX8_areTwoHouses 25 = .ok (.iconst 0, 1) := by decide +kernel
theorem dX8_areTwoHouses_26 : decode cX8_areTwoHouses 26 = .ok (.ireturn, 1) := by decide +kernel
abbrev kwX8_areTwoHouses (cI cZ cG : ClassId) (q q_page q_ground q_now q_kept q_ahead q_trade q_plan q_guess q_ground_worth q_ground_liked : Nat) (v_isKept : Int32) (v_squaresRead : Int32) (v_ordersDone : Int32) (v_ground_houses : Int32) : va_W := [(q, .inr (8, [.ref q_page, .ref q_ground, .ref q_now, .ref q_kept, .ref q_ahead, .ref q_trade, .ref q_plan, .ref q_guess, .int v_isKept, .int v_squaresRead, .int v_ordersDone])), (q_ground, .inr (0, [.ref q_ground_worth, .ref q_ground_liked, .int v_ground_houses]))]
noncomputable def fX8_areTwoHouses (N : Nat) (v_ground_houses : Int32) (a1 : Int32) (a2 : Int32)   : Option (Int32) := (fX8_isHouse N v_ground_houses a1).bind (fun x_2 => if x_2 = 0 then (some (0 : Int32)) else ((fX8_isHouse N v_ground_houses a2).bind (fun x_10 => if x_10 = 0 then (some (0 : Int32)) else (if a1 = a2 then (some (0 : Int32)) else (some (1 : Int32))))))
set_option maxHeartbeats 4000000 in
set_option maxRecDepth 100000 in
theorem wX8_areTwoHouses {p : Program} {l : Launch} {e : Env} {R : Room} {s : State} {m : MethodId} {args : Array Value} {below : List Frame} {meth : Method} {c : Code} {cells slots : Nat} {Q : State → Prop} {D : va_G} {A : Nat → Prop} {cI cZ cG : ClassId} {q q_page q_ground q_now q_kept q_ahead q_trade q_plan q_guess q_ground_worth q_ground_liked : Nat} {v_isKept : Int32} {v_squaresRead : Int32} {v_ordersDone : Int32} {v_ground_houses : Int32} {a1 : Int32} {a2 : Int32} {N : Nat} {ρ : Int32} (X : CX p s m args c cX8_areTwoHouses 3 RX8 D (TY cI cZ cG) A) (hrm : RM R 1 21 cells slots) (ret : ∀ (pc : Nat) (H : Heap) (locs : List Loc) (ls : Array Slot), narrow .boolean (.int ρ) = .int ρ → decode cX8_areTwoHouses pc = .ok (.ireturn, 1) → WD D A (kwX8_areTwoHouses cI cZ cG q q_page q_ground q_now q_kept q_ahead q_trade q_plan q_guess q_ground_worth q_ground_liked v_isKept v_squaresRead v_ordersDone v_ground_houses) s.heap H locs → W p l e R s m args below meth c H locs cells slots Q (F0 m pc ls [.int ρ])) (h : fX8_areTwoHouses N v_ground_houses a1 a2   = some ρ) (H : Heap) (locs : List Loc) (ls : Array Slot) (hw : WD D A (kwX8_areTwoHouses cI cZ cG q q_page q_ground q_now q_kept q_ahead q_trade q_plan q_guess q_ground_worth q_ground_liked v_isKept v_squaresRead v_ordersDone v_ground_houses) s.heap H locs) (hl : lv_has ls 3 [(0, .ref q), (1, .int a1), (2, .int a2)]) : W p l e R s m args below meth c H locs cells slots Q (F0 m 0 ls []) := by
  have hx := X.1.1
  have hb := X.1.2.1
  unfold fX8_areTwoHouses at h
  refine lv_aload_n hx hb dX8_areTwoHouses_0 rfl (lv_at hl 0 rfl) ?_
  refine lv_iload_n hx hb dX8_areTwoHouses_1 rfl (lv_at hl 1 rfl) ?_
  obtain ⟨x_2, hc_2, h⟩ := obd h
  refine ksV_i (ws2 := (kwX8_areTwoHouses cI cZ cG q q_page q_ground q_now q_kept q_ahead q_trade q_plan q_guess q_ground_worth q_ground_liked v_isKept v_squaresRead v_ordersDone v_ground_houses)) (nW := 2) (ci := 8) (As := [.int a1]) (rest := []) X hw rfl rfl rfl (cX8_isHouse_ct l D cI cZ cG q q_page q_ground q_now q_kept q_ahead q_trade q_plan q_guess q_ground_worth q_ground_liked v_isKept v_squaresRead v_ordersDone v_ground_houses a1 N x_2 hc_2 H.size) mX8_isHouse tw_432 (hrm.call (by decide) (by decide)) [0, 1] rfl (by decide) rfl (by decide) rfl trivial rfl hl.1 rfl (Nat.le_of_ble_eq_true rfl) dX8_areTwoHouses_2 ⟨hrm.2.2.1, hrm.2.2.2⟩ (fun H locs hw => ?_)
  refine lv_if_eq (tgt := 25) hx hb dX8_areTwoHouses_5 (by decide) (fun c_5 => ?_) (fun c_5 => ?_)
  · have h := ift c_5 h
    refine lv_iconst (v := (0 : Int32)) hx hb dX8_areTwoHouses_25 (by decide) ?_
    obtain rfl := Option.some.inj h
    exact ret _ _ _ _ (show narrow .boolean (.int (0 : Int32)) = .int (0 : Int32) from rfl) dX8_areTwoHouses_26 hw
  · have h := iff_ c_5 h
    refine lv_aload_n hx hb dX8_areTwoHouses_8 rfl (lv_at hl 0 rfl) ?_
    refine lv_iload_n hx hb dX8_areTwoHouses_9 rfl (lv_at hl 2 rfl) ?_
    obtain ⟨x_10, hc_10, h⟩ := obd h
    refine ksV_i (ws2 := (kwX8_areTwoHouses cI cZ cG q q_page q_ground q_now q_kept q_ahead q_trade q_plan q_guess q_ground_worth q_ground_liked v_isKept v_squaresRead v_ordersDone v_ground_houses)) (nW := 2) (ci := 8) (As := [.int a2]) (rest := []) X hw rfl rfl rfl (cX8_isHouse_ct l D cI cZ cG q q_page q_ground q_now q_kept q_ahead q_trade q_plan q_guess q_ground_worth q_ground_liked v_isKept v_squaresRead v_ordersDone v_ground_houses a2 N x_10 hc_10 H.size) mX8_isHouse tw_432 (hrm.call (by decide) (by decide)) [0, 1] rfl (by decide) rfl (by decide) rfl trivial rfl hl.1 rfl (Nat.le_of_ble_eq_true rfl) dX8_areTwoHouses_10 ⟨hrm.2.2.1, hrm.2.2.2⟩ (fun H locs hw => ?_)
    refine lv_if_eq (tgt := 25) hx hb dX8_areTwoHouses_13 (by decide) (fun c_13 => ?_) (fun c_13 => ?_)
    · have h := ift c_13 h
      refine lv_iconst (v := (0 : Int32)) hx hb dX8_areTwoHouses_25 (by decide) ?_
      obtain rfl := Option.some.inj h
      exact ret _ _ _ _ (show narrow .boolean (.int (0 : Int32)) = .int (0 : Int32) from rfl) dX8_areTwoHouses_26 hw
    · have h := iff_ c_13 h
      refine lv_iload_n hx hb dX8_areTwoHouses_16 rfl (lv_at hl 1 rfl) ?_
      refine lv_iload_n hx hb dX8_areTwoHouses_17 rfl (lv_at hl 2 rfl) ?_
      refine lv_icmp_eq (tgt := 25) hx hb dX8_areTwoHouses_18 (by decide) (fun c_18 => ?_) (fun c_18 => ?_)
      · have h := ift c_18 h
        refine lv_iconst (v := (0 : Int32)) hx hb dX8_areTwoHouses_25 (by decide) ?_
        obtain rfl := Option.some.inj h
        exact ret _ _ _ _ (show narrow .boolean (.int (0 : Int32)) = .int (0 : Int32) from rfl) dX8_areTwoHouses_26 hw
      · have h := iff_ c_18 h
        refine lv_iconst (v := (1 : Int32)) hx hb dX8_areTwoHouses_21 (by decide) ?_
        refine lv_goto (tgt := 26) hx hb dX8_areTwoHouses_22 (by decide) ?_
        obtain rfl := Option.some.inj h
        exact ret _ _ _ _ (show narrow .boolean (.int (1 : Int32)) = .int (1 : Int32) from rfl) dX8_areTwoHouses_26 hw
set_option maxHeartbeats 4000000 in
set_option maxRecDepth 100000 in
theorem cX8_areTwoHouses_ct (l : Launch) (D : va_G) (cI cZ cG : ClassId) (q q_page q_ground q_now q_kept q_ahead q_trade q_plan q_guess q_ground_worth q_ground_liked : Nat)  (v_isKept : Int32) (v_squaresRead : Int32) (v_ordersDone : Int32) (v_ground_houses : Int32) (a1 : Int32) (a2 : Int32) (N : Nat) (ρ : Int32) (h : fX8_areTwoHouses N v_ground_houses a1 a2   = some ρ) (sz : Nat) : Met l yX8_areTwoHouses (wz yX8_areTwoHouses cX8_areTwoHouses 3 (some .boolean)) (cRm 1 21) (cPre D (TY cI cZ cG) [.ref q, .int a1, .int a2] (kwX8_areTwoHouses cI cZ cG q q_page q_ground q_now q_kept q_ahead q_trade q_plan q_guess q_ground_worth q_ground_liked v_isKept v_squaresRead v_ordersDone v_ground_houses) sz) (cQi D (ρ) (kwX8_areTwoHouses cI cZ cG q q_page q_ground q_now q_kept q_ahead q_trade q_plan q_guess q_ground_worth q_ground_liked v_isKept v_squaresRead v_ordersDone v_ground_houses) (kwX8_areTwoHouses cI cZ cG q q_page q_ground q_now q_kept q_ahead q_trade q_plan q_guess q_ground_worth q_ground_liked v_isKept v_squaresRead v_ordersDone v_ground_houses) sz) 0 0 (va_A (kwX8_areTwoHouses cI cZ cG q q_page q_ground q_now q_kept q_ahead q_trade q_plan q_guess q_ground_worth q_ground_liked v_isKept v_squaresRead v_ordersDone v_ground_houses) sz) :=
  mk_z (by decide) (Nat.le_of_ble_eq_true rfl) (fun X hrm ret hw hl => wX8_areTwoHouses X hrm ret h _ _ _ hw hl)
