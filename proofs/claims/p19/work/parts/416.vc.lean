theorem tX8_house {N : Nat} {v_ground_houses : Int32} {v_now_town_houses : Int32} {v_now_town_front : Int32} {v_now_town_downFor : Int32} {v_now_town_plotOf : (Nat → Int32)} {v_ground_liked : (Nat → Int32)} {v_now_town_standsOn : (Nat → Int32)} {v_now_town_kindOf : (Nat → Int32)} {v_now_town_row : (Nat → Int32)} {v_now_seen_size : Int32} {v_now_seen_house : (Nat → Int32)} {v_now_seen_night : (Nat → Int32)} {v_now_seen_plot : (Nat → Int32)} {v_now_had : (Nat → Int32)} {a1 : Int32} {a2 : Int32} {v_trade_rings : Int32} {v_trade_gets : (Nat → Int32)} {v_trade_isLeft : (Nat → Int32)} {v_trade_pointsTo : (Nat → Int32)} {v_guess_town_houses : Int32} {v_guess_town_front : Int32} {v_guess_town_downFor : Int32} {v_guess_town_kindOf : (Nat → Int32)} {v_guess_town_plotOf : (Nat → Int32)} {v_guess_town_row : (Nat → Int32)} {v_guess_town_standsOn : (Nat → Int32)} {v_guess_track_0 : (Nat → Int32)} {v_guess_track_1 : (Nat → Int32)} {v_guess_track_2 : (Nat → Int32)} {v_guess_track_3 : (Nat → Int32)} {v_guess_track_4 : (Nat → Int32)}  (hN : 49999 < N) (h_v_ground_houses : RB 0 6 v_ground_houses) (h_v_now_town_houses : RB 0 6 v_now_town_houses) (h_v_now_town_front : RB 0 11 v_now_town_front) (h_v_now_town_plotOf : RA (-1) 11 v_now_town_plotOf) (h_v_now_town_standsOn : RA (-1) 5 v_now_town_standsOn) (h_v_now_town_row : RA 0 5 v_now_town_row) (h_v_now_seen_size : RB 0 6 v_now_seen_size) (h_v_now_seen_house : RA 0 5 v_now_seen_house) (h_v_now_seen_night : RA 0 40 v_now_seen_night) (h_v_trade_pointsTo : RA 0 5 v_trade_pointsTo) (h_v_guess_town_houses : RB 0 6 v_guess_town_houses) (h_v_guess_town_front : RB 0 11 v_guess_town_front) (h_v_guess_town_plotOf : RA (-1) 11 v_guess_town_plotOf) (h_v_guess_town_row : RA 0 5 v_guess_town_row) (h_v_guess_town_standsOn : RA (-1) 5 v_guess_town_standsOn) (e_0 : v_now_town_houses = v_ground_houses)  : Ok (fun r => RA 0 5 r.2.2.2.2.1 ∧ RB 0 6 r.2.2.2.2.2.1 ∧ RB 0 11 r.2.2.2.2.2.2.1 ∧ RA (-1) 11 r.2.2.2.2.2.2.2.2.2.1 ∧ RA 0 5 r.2.2.2.2.2.2.2.2.2.2.1 ∧ RA (-1) 5 r.2.2.2.2.2.2.2.2.2.2.2.1) (fX8_house N v_ground_houses v_now_town_houses v_now_town_front v_now_town_downFor v_now_town_plotOf v_ground_liked v_now_town_standsOn v_now_town_kindOf v_now_town_row v_now_seen_size v_now_seen_house v_now_seen_night v_now_seen_plot v_now_had a1 a2 v_trade_rings v_trade_gets v_trade_isLeft v_trade_pointsTo v_guess_town_houses v_guess_town_front v_guess_town_downFor v_guess_town_kindOf v_guess_town_plotOf v_guess_town_row v_guess_town_standsOn v_guess_track_0 v_guess_track_1 v_guess_track_2 v_guess_track_3 v_guess_track_4) := by
  unfold fX8_house
  refine ok_b (tX8_isHouse hN h_v_ground_houses) (fun x_2 hx => ?_)
  have h_x_2_0 := hx
  refine ok_if (fun c_1 => ?_) (fun c_1 => ?_)
  · exact ok_s ⟨h_v_trade_pointsTo, h_v_guess_town_houses, h_v_guess_town_front, h_v_guess_town_plotOf, h_v_guess_town_row, h_v_guess_town_standsOn⟩
  · refine ok_if (fun c_2 => ?_) (fun c_2 => ?_)
    · refine ok_g (ng6 (by grind)) ?_
      exact ok_s ⟨h_v_trade_pointsTo, h_v_guess_town_houses, h_v_guess_town_front, h_v_guess_town_plotOf, h_v_guess_town_row, h_v_guess_town_standsOn⟩
    · refine ok_if (fun c_3 => ?_) (fun c_3 => ?_)
      · refine ok_g (ng6 (by grind)) ?_
        exact ok_s ⟨h_v_trade_pointsTo, h_v_guess_town_houses, h_v_guess_town_front, h_v_guess_town_plotOf, h_v_guess_town_row, h_v_guess_town_standsOn⟩
      · refine ok_if (fun c_4 => ?_) (fun c_4 => ?_)
        · refine ok_g (ng6 (by grind)) ?_
          exact ok_s ⟨h_v_trade_pointsTo, h_v_guess_town_houses, h_v_guess_town_front, h_v_guess_town_plotOf, h_v_guess_town_row, h_v_guess_town_standsOn⟩
        · refine ok_if (fun c_5 => ?_) (fun c_5 => ?_)
          · refine ok_b (tX6_placeInRow hN h_v_now_town_houses h_v_now_town_row) (fun x_104 hx => ?_)
            exact ok_s ⟨h_v_trade_pointsTo, h_v_guess_town_houses, h_v_guess_town_front, h_v_guess_town_plotOf, h_v_guess_town_row, h_v_guess_town_standsOn⟩
          · refine ok_if (fun c_6 => ?_) (fun c_6 => ?_)
            · refine ok_g (ng6 (by grind)) ?_
              exact ok_s ⟨h_v_trade_pointsTo, h_v_guess_town_houses, h_v_guess_town_front, h_v_guess_town_plotOf, h_v_guess_town_row, h_v_guess_town_standsOn⟩
            · refine ok_if (fun c_7 => ?_) (fun c_7 => ?_)
              · refine ok_b (tX1_kindsOf hN h_v_now_seen_size h_v_now_seen_night (by grind) h_v_now_town_front h_v_now_town_plotOf h_v_now_town_row h_v_now_town_standsOn h_v_now_seen_house (by grind) h_v_guess_town_houses h_v_guess_town_front h_v_guess_town_plotOf h_v_guess_town_row h_v_guess_town_standsOn) (fun x_127 hx => ?_)
                obtain ⟨h_x_127_0, h_x_127_1, h_x_127_2, h_x_127_3, h_x_127_4⟩ := hx
                exact ok_s ⟨h_v_trade_pointsTo, h_x_127_0, h_x_127_1, h_x_127_2, h_x_127_3, h_x_127_4⟩
              · refine ok_if (fun c_8 => ?_) (fun c_8 => ?_)
                · refine ok_b (tX1_nightToLook hN (by grind) h_v_now_town_front h_v_now_town_plotOf h_v_now_town_row h_v_now_town_standsOn h_v_now_seen_size h_v_now_seen_house h_v_now_seen_night (by grind) h_v_guess_town_houses h_v_guess_town_front h_v_guess_town_plotOf h_v_guess_town_row h_v_guess_town_standsOn) (fun x_140 hx => ?_)
                  obtain ⟨h_x_140_0, h_x_140_1, h_x_140_2, h_x_140_3, h_x_140_4⟩ := hx
                  exact ok_s ⟨h_v_trade_pointsTo, h_x_140_0, h_x_140_1, h_x_140_2, h_x_140_3, h_x_140_4⟩
                · refine ok_if (fun c_9 => ?_) (fun c_9 => ?_)
                  · refine ok_b (tX7_close hN h_v_now_town_houses h_v_now_town_plotOf h_v_now_town_standsOn h_v_trade_pointsTo) (fun x_159 hx => ?_)
                    obtain ⟨h_x_159_0, h_x_159_1⟩ := hx
                    refine ok_g (ng6 (by grind)) ?_
                    exact ok_s ⟨h_x_159_0, h_v_guess_town_houses, h_v_guess_town_front, h_v_guess_town_plotOf, h_v_guess_town_row, h_v_guess_town_standsOn⟩
                  · exact ok_s ⟨h_v_trade_pointsTo, h_v_guess_town_houses, h_v_guess_town_front, h_v_guess_town_plotOf, h_v_guess_town_row, h_v_guess_town_standsOn⟩
theorem tX8_isKind {N : Nat} {a0 : Int32}  (hN : 49999 < N)   : Ok (fun r => (r = 0 ∧ ¬(0 ≤ a0 ∧ a0 < 5) ∨ r = 1 ∧ 0 ≤ a0 ∧ a0 < 5)) (fX8_isKind N a0) := by
  unfold fX8_isKind
  refine ok_if (fun c_1 => ?_) (fun c_1 => ?_)
  · exact ok_s (by grind)
  · refine ok_if (fun c_2 => ?_) (fun c_2 => ?_)
    · exact ok_s (by grind)
    · exact ok_s (by grind)
theorem tX8_as {N : Nat} {v_ground_houses : Int32} {v_now_town_kindOf : (Nat → Int32)} {a1 : Int32} {a2 : Int32}  (hN : 49999 < N) (h_v_ground_houses : RB 0 6 v_ground_houses)  : Ok (fun r => (r = asF a1 a2 v_ground_houses (v_now_town_kindOf a1.toNatClampNeg))) (fX8_as N v_ground_houses v_now_town_kindOf a1 a2) := by
  unfold fX8_as
  refine ok_b (tX8_isHouse hN h_v_ground_houses) (fun x_2 hx => ?_)
  have h_x_2_0 := hx
  refine ok_if (fun c_1 => ?_) (fun c_1 => ?_)
  · exact ok_s (by unfold asF; grind)
  · refine ok_b (tX8_isKind hN ) (fun x_12 hx => ?_)
    have h_x_12_0 := hx
    refine ok_if (fun c_2 => ?_) (fun c_2 => ?_)
    · exact ok_s (by unfold asF; grind)
    · refine ok_g (ng6 (by grind)) ?_
      refine ok_if (fun c_3 => ?_) (fun c_3 => ?_)
      · exact ok_s (by unfold asF; grind)
      · refine ok_if (fun c_4 => ?_) (fun c_4 => ?_)
        · exact ok_s (by unfold asF; grind)
        · refine ok_if (fun c_5 => ?_) (fun c_5 => ?_)
          · refine ok_if (fun c_6 => ?_) (fun c_6 => ?_)
            · exact ok_s (by unfold asF; grind)
            · exact ok_s (by unfold asF; grind)
          · exact ok_s (by unfold asF; grind)
theorem tX8_hasSquare {N : Nat} {v_ground_houses : Int32}  (hN : 49999 < N) (h_v_ground_houses : RB 0 6 v_ground_houses)  : Ok (fun r => (r = 0 ∧ ¬(0 < v_ground_houses) ∨ r = 1 ∧ 0 < v_ground_houses)) (fX8_hasSquare N v_ground_houses) := by
  unfold fX8_hasSquare
  refine ok_if (fun c_1 => ?_) (fun c_1 => ?_)
  · exact ok_s (by grind)
  · exact ok_s (by grind)
theorem tX8_isPlot {N : Nat} {a0 : Int32}  (hN : 49999 < N)   : Ok (fun r => (r = 0 ∧ ¬(0 ≤ a0 ∧ a0 < 12) ∨ r = 1 ∧ 0 ≤ a0 ∧ a0 < 12)) (fX8_isPlot N a0) := by
  unfold fX8_isPlot
  refine ok_if (fun c_1 => ?_) (fun c_1 => ?_)
  · exact ok_s (by grind)
  · refine ok_if (fun c_2 => ?_) (fun c_2 => ?_)
    · exact ok_s (by grind)
    · exact ok_s (by grind)
theorem tX8_plot {N : Nat} {v_ground_houses : Int32} {v_ground_liked : (Nat → Int32)} {v_now_town_standsOn : (Nat → Int32)} {v_ground_worth : (Nat → Int32)} {a1 : Int32} {a2 : Int32}  (hN : 49999 < N) (h_v_ground_houses : RB 0 6 v_ground_houses) (h_v_now_town_standsOn : RA (-1) 5 v_now_town_standsOn)  : Ok (fun r => ((v_ground_houses = 0 ∨ ¬ (0 ≤ a1 ∧ a1 < 12)) ∧ r = -101 ∨ (v_ground_houses ≠ 0 ∧ 0 ≤ a1 ∧ a1 < 12) ∧ (a2 = 0 ∧ r = v_ground_worth a1.toNatClampNeg ∨ a2 = 1 ∧ r = v_now_town_standsOn a1.toNatClampNeg ∨ a2 = 2 ∧ r = sm (fun k => if v_ground_liked k = a1 then 1 else 0) v_ground_houses.toNatClampNeg ∨ (a2 ≠ 0 ∧ a2 ≠ 1 ∧ a2 ≠ 2) ∧ r = -102))) (fX8_plot N v_ground_houses v_ground_liked v_now_town_standsOn v_ground_worth a1 a2) := by
  unfold fX8_plot
  refine ok_b (tX8_hasSquare hN h_v_ground_houses) (fun x_1 hx => ?_)
  have h_x_1_0 := hx
  refine ok_if (fun c_1 => ?_) (fun c_1 => ?_)
  · exact ok_s (by grind)
  · refine ok_b (tX8_isPlot hN ) (fun x_8 hx => ?_)
    have h_x_8_0 := hx
    refine ok_if (fun c_2 => ?_) (fun c_2 => ?_)
    · exact ok_s (by grind)
    · refine ok_if (fun c_3 => ?_) (fun c_3 => ?_)
      · refine ok_g (ng12 (by grind)) ?_
        exact ok_s (by grind)
      · refine ok_if (fun c_4 => ?_) (fun c_4 => ?_)
        · refine ok_g (ng12 (by grind)) ?_
          exact ok_s (by have := h_v_now_town_standsOn ((a1).toNatClampNeg); grind)
        · refine ok_if (fun c_5 => ?_) (fun c_5 => ?_)
          · refine ok_b (tX0_likersOf hN h_v_ground_houses) (fun x_72 hx => ?_)
            have h_x_72_0 := hx
            exact ok_s (by grind)
          · exact ok_s (by grind)
theorem tX8_night {N : Nat} {v_ground_houses : Int32} {v_now_town_houses : Int32} {v_now_town_kindOf : (Nat → Int32)} {v_ground_worth : (Nat → Int32)} {v_now_nights : Int32} {v_now_town_front : Int32} {v_now_town_downFor : Int32} {v_now_town_row : (Nat → Int32)} {v_now_town_plotOf : (Nat → Int32)} {v_now_town_standsOn : (Nat → Int32)} {v_now_had : (Nat → Int32)}  (hN : 49999 < N) (h_v_ground_houses : RB 0 6 v_ground_houses) (h_v_now_town_houses : RB 0 6 v_now_town_houses) (h_v_now_nights : RB 0 999 v_now_nights) (h_v_now_town_front : RB 0 11 v_now_town_front) (h_v_now_town_row : RA 0 5 v_now_town_row) (h_v_now_town_plotOf : RA (-1) 11 v_now_town_plotOf) (h_v_now_town_standsOn : RA (-1) 5 v_now_town_standsOn) (e_0 : v_now_town_houses = v_ground_houses)  : Ok (fun r => RB 0 999 r.2.1 ∧ RB 0 11 r.2.2.1 ∧ RA 0 5 r.2.2.2.2.1 ∧ RA (-1) 11 r.2.2.2.2.2.1 ∧ RA (-1) 5 r.2.2.2.2.2.2.1 ∧ (v_ground_houses = 0 ∧ r.1 = -103 ∧ r.2.1 = v_now_nights ∨ v_ground_houses ≠ 0 ∧ v_now_nights < 999 ∧ r.2.1 = v_now_nights + 1 ∨ v_ground_houses ≠ 0 ∧ ¬ v_now_nights < 999 ∧ r.1 = -104 ∧ r.2.1 = v_now_nights) ∧ (v_ground_houses ≠ 0 → v_now_nights < 999 → TWN v_now_town_houses v_now_town_kindOf v_now_town_downFor v_now_town_row v_now_town_plotOf v_now_town_standsOn → r.1 = tnM v_now_town_kindOf v_now_town_downFor v_now_town_row ∧ (r.2.2.1, r.2.2.2.1, r.2.2.2.2.1, r.2.2.2.2.2.1) = tnS v_now_town_houses v_now_town_kindOf (v_now_town_front, v_now_town_downFor, v_now_town_row, v_now_town_plotOf) ∧ TWN v_now_town_houses v_now_town_kindOf r.2.2.2.1 r.2.2.2.2.1 r.2.2.2.2.2.1 r.2.2.2.2.2.2.1) ∧ (v_ground_houses ≠ 0 → v_now_nights < 999 → r.2.2.2.2.2.2.2 = hdp v_now_town_houses v_ground_worth r.2.2.2.2.2.1 v_now_had) ∧ ((v_ground_houses = 0 ∨ ¬ v_now_nights < 999) → r.2.2.1 = v_now_town_front ∧ r.2.2.2.1 = v_now_town_downFor ∧ r.2.2.2.2.1 = v_now_town_row ∧ r.2.2.2.2.2.1 = v_now_town_plotOf ∧ r.2.2.2.2.2.2.1 = v_now_town_standsOn ∧ r.2.2.2.2.2.2.2 = v_now_had)) (fX8_night N v_ground_houses v_now_town_houses v_now_town_kindOf v_ground_worth v_now_nights v_now_town_front v_now_town_downFor v_now_town_row v_now_town_plotOf v_now_town_standsOn v_now_had) := by
  unfold fX8_night
  refine ok_b (tX8_hasSquare hN h_v_ground_houses) (fun x_1 hx => ?_)
  have h_x_1_0 := hx
  refine ok_if (fun c_1 => ?_) (fun c_1 => ?_)
  · exact ok_s ⟨h_v_now_nights, h_v_now_town_front, h_v_now_town_row, h_v_now_town_plotOf, h_v_now_town_standsOn, (by grind), (by first | exact fun _ _ T => h_x_33_4 T | exact fun w _ _ => absurd w (by grind) | exact fun _ w _ => absurd w (by grind)), (by first | exact fun _ _ => h_x_45_1 | exact fun w _ => absurd w (by grind) | exact fun _ w => absurd w (by grind)), (by grind)⟩
  · refine ok_if (fun c_2 => ?_) (fun c_2 => ?_)
    · refine ok_b (tX6_turn hN (by grind) h_v_now_town_front h_v_now_town_row h_v_now_town_plotOf h_v_now_town_standsOn) (fun x_33 hx => ?_)
      obtain ⟨h_x_33_0, h_x_33_1, h_x_33_2, h_x_33_3, h_x_33_4⟩ := hx
      refine ok_b (tX5_endNight hN h_v_now_town_houses h_x_33_2) (fun x_45 hx => ?_)
      obtain ⟨h_x_45_0, h_x_45_1⟩ := hx
      exact ok_s ⟨(by grind), h_x_33_0, h_x_33_1, h_x_33_2, h_x_33_3, (by grind), (by first | exact fun _ _ T => h_x_33_4 T | exact fun w _ _ => absurd w (by grind) | exact fun _ w _ => absurd w (by grind)), (by first | exact fun _ _ => h_x_45_1 | exact fun w _ => absurd w (by grind) | exact fun _ w => absurd w (by grind)), (by grind)⟩
    · exact ok_s ⟨h_v_now_nights, h_v_now_town_front, h_v_now_town_row, h_v_now_town_plotOf, h_v_now_town_standsOn, (by grind), (by first | exact fun _ _ T => h_x_33_4 T | exact fun w _ _ => absurd w (by grind) | exact fun _ w _ => absurd w (by grind)), (by first | exact fun _ _ => h_x_45_1 | exact fun w _ => absurd w (by grind) | exact fun _ w => absurd w (by grind)), (by grind)⟩
theorem tX8_snow {N : Nat} {v_ground_houses : Int32} {v_now_town_houses : Int32} {v_now_town_plotOf : (Nat → Int32)} {v_ground_worth : (Nat → Int32)} {v_now_nights : Int32} {v_now_had : (Nat → Int32)}  (hN : 49999 < N) (h_v_ground_houses : RB 0 6 v_ground_houses) (h_v_now_town_houses : RB 0 6 v_now_town_houses) (h_v_now_town_plotOf : RA (-1) 11 v_now_town_plotOf) (h_v_now_nights : RB 0 999 v_now_nights) (e_0 : v_now_town_houses = v_ground_houses)  : Ok (fun r => RB 0 999 r.2.1 ∧ (v_ground_houses = 0 ∧ r.1 = -103 ∧ r.2.1 = v_now_nights ∨ v_ground_houses ≠ 0 ∧ v_now_nights < 999 ∧ r.1 = v_now_nights + 1 ∧ r.2.1 = v_now_nights + 1 ∨ v_ground_houses ≠ 0 ∧ ¬ v_now_nights < 999 ∧ r.1 = -104 ∧ r.2.1 = v_now_nights) ∧ (v_ground_houses ≠ 0 → v_now_nights < 999 → r.2.2 = hdp v_now_town_houses v_ground_worth v_now_town_plotOf v_now_had) ∧ ((v_ground_houses = 0 ∨ ¬ v_now_nights < 999) → r.2.2 = v_now_had)) (fX8_snow N v_ground_houses v_now_town_houses v_now_town_plotOf v_ground_worth v_now_nights v_now_had) := by
  unfold fX8_snow
  refine ok_b (tX8_hasSquare hN h_v_ground_houses) (fun x_1 hx => ?_)
  have h_x_1_0 := hx
  refine ok_if (fun c_1 => ?_) (fun c_1 => ?_)
  · exact ok_s ⟨h_v_now_nights, (by grind), (by grind), (by grind)⟩
  · refine ok_if (fun c_2 => ?_) (fun c_2 => ?_)
    · refine ok_b (tX5_endNight hN h_v_now_town_houses h_v_now_town_plotOf) (fun x_34 hx => ?_)
      obtain ⟨h_x_34_0, h_x_34_1⟩ := hx
      exact ok_s ⟨(by grind), (by grind), (by grind), (by grind)⟩
    · exact ok_s ⟨h_v_now_nights, (by grind), (by grind), (by grind)⟩
theorem tX8_build {N : Nat} {v_ground_houses : Int32} {v_now_town_plotOf : (Nat → Int32)} {a1 : Int32} {a2 : Int32} {v_now_town_kindOf : (Nat → Int32)}  (hN : 49999 < N) (h_v_ground_houses : RB 0 6 v_ground_houses) (h_v_now_town_plotOf : RA (-1) 11 v_now_town_plotOf)  : Ok (fun r => (¬ (0 ≤ a1 ∧ a1 < v_ground_houses) ∧ r.1 = -101 ∧ r.2 = v_now_town_kindOf ∨ (0 ≤ a1 ∧ a1 < v_ground_houses) ∧ ¬ (0 ≤ a2 ∧ a2 < 5) ∧ r.1 = -102 ∧ r.2 = v_now_town_kindOf ∨ (0 ≤ a1 ∧ a1 < v_ground_houses) ∧ (0 ≤ a2 ∧ a2 < 5) ∧ v_now_town_plotOf a1.toNatClampNeg = -1 ∧ r.1 = -103 ∧ r.2 = v_now_town_kindOf ∨ (0 ≤ a1 ∧ a1 < v_ground_houses) ∧ (0 ≤ a2 ∧ a2 < 5) ∧ ¬ v_now_town_plotOf a1.toNatClampNeg = -1 ∧ r.1 = v_now_town_kindOf a1.toNatClampNeg ∧ r.2 = upd v_now_town_kindOf a1.toNatClampNeg a2)) (fX8_build N v_ground_houses v_now_town_plotOf a1 a2 v_now_town_kindOf) := by
  unfold fX8_build
  refine ok_b (tX8_isHouse hN h_v_ground_houses) (fun x_2 hx => ?_)
  have h_x_2_0 := hx
  refine ok_if (fun c_1 => ?_) (fun c_1 => ?_)
  · exact ok_s (by grind)
  · refine ok_b (tX8_isKind hN ) (fun x_12 hx => ?_)
    have h_x_12_0 := hx
    refine ok_if (fun c_2 => ?_) (fun c_2 => ?_)
    · exact ok_s (by grind)
    · refine ok_b (tX6_isDown hN h_v_now_town_plotOf (by grind)) (fun x_29 hx => ?_)
      have h_x_29_0 := hx
      refine ok_if (fun c_3 => ?_) (fun c_3 => ?_)
      · refine ok_g (ng6 (by grind)) ?_
        refine ok_g (ng6 (by grind)) ?_
        exact ok_s (by grind)
      · exact ok_s (by grind)
theorem tX8_areTwoHouses {N : Nat} {v_ground_houses : Int32} {a1 : Int32} {a2 : Int32}  (hN : 49999 < N) (h_v_ground_houses : RB 0 6 v_ground_houses)  : Ok (fun r => (r = 0 ∧ ¬(0 ≤ a1 ∧ a1 < v_ground_houses ∧ 0 ≤ a2 ∧ a2 < v_ground_houses ∧ a1 ≠ a2) ∨ r = 1 ∧ 0 ≤ a1 ∧ a1 < v_ground_houses ∧ 0 ≤ a2 ∧ a2 < v_ground_houses ∧ a1 ≠ a2)) (fX8_areTwoHouses N v_ground_houses a1 a2) := by
  unfold fX8_areTwoHouses
  refine ok_b (tX8_isHouse hN h_v_ground_houses) (fun x_2 hx => ?_)
  have h_x_2_0 := hx
  refine ok_if (fun c_1 => ?_) (fun c_1 => ?_)
  · exact ok_s (by grind)
  · refine ok_b (tX8_isHouse hN h_v_ground_houses) (fun x_10 hx => ?_)
    have h_x_10_0 := hx
    refine ok_if (fun c_2 => ?_) (fun c_2 => ?_)
    · exact ok_s (by grind)
    · refine ok_if (fun c_3 => ?_) (fun c_3 => ?_)
      · exact ok_s (by grind)
      · exact ok_s (by grind)
theorem tX8_swap {N : Nat} {v_ground_houses : Int32} {a1 : Int32} {a2 : Int32} {v_now_town_plotOf : (Nat → Int32)} {v_now_town_standsOn : (Nat → Int32)}  (hN : 49999 < N) (h_v_ground_houses : RB 0 6 v_ground_houses) (h_v_now_town_plotOf : RA (-1) 11 v_now_town_plotOf) (h_v_now_town_standsOn : RA (-1) 5 v_now_town_standsOn)  : Ok (fun r => RA (-1) 11 r.2.1 ∧ RA (-1) 5 r.2.2 ∧ (¬ (0 ≤ a1 ∧ a1 < v_ground_houses ∧ 0 ≤ a2 ∧ a2 < v_ground_houses ∧ a1 ≠ a2) ∧ r.1 = -101 ∧ r.2.1 = v_now_town_plotOf ∧ r.2.2 = v_now_town_standsOn ∨ (0 ≤ a1 ∧ a1 < v_ground_houses ∧ 0 ≤ a2 ∧ a2 < v_ground_houses ∧ a1 ≠ a2) ∧ (v_now_town_plotOf a1.toNatClampNeg = -1 ∨ v_now_town_plotOf a2.toNatClampNeg = -1) ∧ r.1 = -103 ∧ r.2.1 = v_now_town_plotOf ∧ r.2.2 = v_now_town_standsOn ∨ (0 ≤ a1 ∧ a1 < v_ground_houses ∧ 0 ≤ a2 ∧ a2 < v_ground_houses ∧ a1 ≠ a2) ∧ ¬ (v_now_town_plotOf a1.toNatClampNeg = -1 ∨ v_now_town_plotOf a2.toNatClampNeg = -1) ∧ r.1 = v_now_town_plotOf a2.toNatClampNeg ∧ r.2.1 = upd (upd v_now_town_plotOf a1.toNatClampNeg (v_now_town_plotOf a2.toNatClampNeg)) a2.toNatClampNeg (v_now_town_plotOf a1.toNatClampNeg) ∧ r.2.2 = upd (upd v_now_town_standsOn (v_now_town_plotOf a2.toNatClampNeg).toNatClampNeg a1) (v_now_town_plotOf a1.toNatClampNeg).toNatClampNeg a2)) (fX8_swap N v_ground_houses a1 a2 v_now_town_plotOf v_now_town_standsOn) := by
  unfold fX8_swap
  refine ok_b (tX8_areTwoHouses hN h_v_ground_houses) (fun x_3 hx => ?_)
  have h_x_3_0 := hx
  refine ok_if (fun c_1 => ?_) (fun c_1 => ?_)
  · exact ok_s ⟨h_v_now_town_plotOf, h_v_now_town_standsOn, (by first | (rw [h_x_52_2, h_x_52_3]; have q1 := (sw_at (a := v_now_town_plotOf) (tn_ne (a := a1) (b := a2) (by grind) (by grind) (by grind))).1; show _ ∨ _ ∨ _ ∧ _ ∧ (upd (upd v_now_town_plotOf a1.toNatClampNeg (v_now_town_plotOf a2.toNatClampNeg)) a2.toNatClampNeg (v_now_town_plotOf a1.toNatClampNeg)) a1.toNatClampNeg = _ ∧ _; rw [q1]; grind) | grind)⟩
  · refine ok_b (tX6_isDown hN h_v_now_town_plotOf (by grind)) (fun x_20 hx => ?_)
    have h_x_20_0 := hx
    refine ok_if (fun c_2 => ?_) (fun c_2 => ?_)
    · refine ok_b (tX6_isDown hN h_v_now_town_plotOf (by grind)) (fun x_34 hx => ?_)
      have h_x_34_0 := hx
      refine ok_if (fun c_3 => ?_) (fun c_3 => ?_)
      · refine ok_b (tX6_exchange hN (by grind) (by grind) h_v_now_town_plotOf h_v_now_town_standsOn (by grind) (by grind) (by grind)) (fun x_52 hx => ?_)
        obtain ⟨h_x_52_0, h_x_52_1, h_x_52_2, h_x_52_3⟩ := hx
        refine ok_g (ng6 (by grind)) ?_
        exact ok_s ⟨h_x_52_0, h_x_52_1, (by first | (rw [h_x_52_2, h_x_52_3]; have q1 := (sw_at (a := v_now_town_plotOf) (tn_ne (a := a1) (b := a2) (by grind) (by grind) (by grind))).1; show _ ∨ _ ∨ _ ∧ _ ∧ (upd (upd v_now_town_plotOf a1.toNatClampNeg (v_now_town_plotOf a2.toNatClampNeg)) a2.toNatClampNeg (v_now_town_plotOf a1.toNatClampNeg)) a1.toNatClampNeg = _ ∧ _; rw [q1]; grind) | grind)⟩
      · exact ok_s ⟨h_v_now_town_plotOf, h_v_now_town_standsOn, (by first | (rw [h_x_52_2, h_x_52_3]; have q1 := (sw_at (a := v_now_town_plotOf) (tn_ne (a := a1) (b := a2) (by grind) (by grind) (by grind))).1; show _ ∨ _ ∨ _ ∧ _ ∧ (upd (upd v_now_town_plotOf a1.toNatClampNeg (v_now_town_plotOf a2.toNatClampNeg)) a2.toNatClampNeg (v_now_town_plotOf a1.toNatClampNeg)) a1.toNatClampNeg = _ ∧ _; rw [q1]; grind) | grind)⟩
    · exact ok_s ⟨h_v_now_town_plotOf, h_v_now_town_standsOn, (by first | (rw [h_x_52_2, h_x_52_3]; have q1 := (sw_at (a := v_now_town_plotOf) (tn_ne (a := a1) (b := a2) (by grind) (by grind) (by grind))).1; show _ ∨ _ ∨ _ ∧ _ ∧ (upd (upd v_now_town_plotOf a1.toNatClampNeg (v_now_town_plotOf a2.toNatClampNeg)) a2.toNatClampNeg (v_now_town_plotOf a1.toNatClampNeg)) a1.toNatClampNeg = _ ∧ _; rw [q1]; grind) | grind)⟩
theorem sX8_where_41 {N : Nat} {v_ground_houses : Int32} {v_now_town_houses : Int32} {v_now_town_front : Int32} {v_now_town_downFor : Int32} {v_now_town_kindOf : (Nat → Int32)} {v_now_town_plotOf : (Nat → Int32)} {v_now_town_row : (Nat → Int32)} {v_now_town_standsOn : (Nat → Int32)} {a1 : Int32} {a2 : Int32} {K_41 : Int32 → Int32 → Int32 → Int32 → (Nat → Int32) → (Nat → Int32) → (Nat → Int32) → (Nat → Int32) → Option (Int32 × Int32 × Int32 × Int32 × (Nat → Int32) × (Nat → Int32) × (Nat → Int32) × (Nat → Int32))} {l3 : Int32} {v_ahead_houses : Int32} {v_ahead_front : Int32} {v_ahead_downFor : Int32} {v_ahead_kindOf : (Nat → Int32)} {v_ahead_plotOf : (Nat → Int32)} {v_ahead_row : (Nat → Int32)} {v_ahead_standsOn : (Nat → Int32)}  {m_41 : Int32} (hN : 49999 < N) (h_v_ground_houses : RB 0 6 v_ground_houses) (h_v_now_town_houses : RB 0 6 v_now_town_houses) (h_v_now_town_front : RB 0 11 v_now_town_front) (h_v_now_town_plotOf : RA (-1) 11 v_now_town_plotOf) (h_v_now_town_row : RA 0 5 v_now_town_row) (h_v_now_town_standsOn : RA (-1) 5 v_now_town_standsOn) (h_a1 : RB 0 5 a1) (h_a2 : RB 0 400 a2) (hK_41 : ∀ (l3 : Int32) (v_ahead_houses : Int32) (v_ahead_front : Int32) (v_ahead_downFor : Int32) (v_ahead_kindOf : (Nat → Int32)) (v_ahead_plotOf : (Nat → Int32)) (v_ahead_row : (Nat → Int32)) (v_ahead_standsOn : (Nat → Int32)), RB 1 6 v_ahead_houses ∧ RB 0 11 v_ahead_front ∧ RA (-1) 11 v_ahead_plotOf ∧ RA 0 5 v_ahead_row ∧ RA (-1) 5 v_ahead_standsOn ∧ 0 ≤ l3 ∧ (v_ahead_houses = v_now_town_houses) ∧ (TWN v_now_town_houses v_now_town_kindOf v_now_town_downFor v_now_town_row v_now_town_plotOf v_now_town_standsOn → TWN v_ahead_houses v_ahead_kindOf v_ahead_downFor v_ahead_row v_ahead_plotOf v_ahead_standsOn ∧ N6 v_ahead_kindOf = N6 v_now_town_kindOf) ∧ (TWN v_now_town_houses v_now_town_kindOf v_now_town_downFor v_now_town_row v_now_town_plotOf v_now_town_standsOn → rn v_now_town_houses (N6 v_now_town_kindOf) (a2 - l3).toNatClampNeg (v_ahead_front, v_ahead_downFor, N6 v_ahead_row, N6 v_ahead_plotOf) = rn v_now_town_houses (N6 v_now_town_kindOf) a2.toNatClampNeg (v_now_town_front, v_now_town_downFor, N6 v_now_town_row, N6 v_now_town_plotOf)) ∧ ((0 ≤ a1 ∧ a1 < v_ground_houses) ∧ (0 ≤ a2 ∧ a2 ≤ 400)) → (a2 - l3) < m_41 → 0 < m_41 → Ok (fun r => RB 0 6 r.2.1 ∧ RB 0 11 r.2.2.1 ∧ RA (-1) 11 r.2.2.2.2.2.1 ∧ RA 0 5 r.2.2.2.2.2.2.1 ∧ RA (-1) 5 r.2.2.2.2.2.2.2 ∧ (¬ (0 ≤ a1 ∧ a1 < v_ground_houses) ∧ r.1 = -101 ∨ ((0 ≤ a1 ∧ a1 < v_ground_houses) ∧ ¬ (0 ≤ a2 ∧ a2 ≤ 400)) ∧ r.1 = -102 ∨ ((0 ≤ a1 ∧ a1 < v_ground_houses) ∧ (0 ≤ a2 ∧ a2 ≤ 400)) ∧ (TWN v_now_town_houses v_now_town_kindOf v_now_town_downFor v_now_town_row v_now_town_plotOf v_now_town_standsOn → r.1 = (rn v_now_town_houses (N6 v_now_town_kindOf) a2.toNatClampNeg (v_now_town_front, v_now_town_downFor, N6 v_now_town_row, N6 v_now_town_plotOf)).2.2.2 a1.toNatClampNeg))) (K_41 l3 v_ahead_houses v_ahead_front v_ahead_downFor v_ahead_kindOf v_ahead_plotOf v_ahead_row v_ahead_standsOn)) (hI : RB 1 6 v_ahead_houses ∧ RB 0 11 v_ahead_front ∧ RA (-1) 11 v_ahead_plotOf ∧ RA 0 5 v_ahead_row ∧ RA (-1) 5 v_ahead_standsOn ∧ 0 ≤ l3 ∧ (v_ahead_houses = v_now_town_houses) ∧ (TWN v_now_town_houses v_now_town_kindOf v_now_town_downFor v_now_town_row v_now_town_plotOf v_now_town_standsOn → TWN v_ahead_houses v_ahead_kindOf v_ahead_downFor v_ahead_row v_ahead_plotOf v_ahead_standsOn ∧ N6 v_ahead_kindOf = N6 v_now_town_kindOf) ∧ (TWN v_now_town_houses v_now_town_kindOf v_now_town_downFor v_now_town_row v_now_town_plotOf v_now_town_standsOn → rn v_now_town_houses (N6 v_now_town_kindOf) (a2 - l3).toNatClampNeg (v_ahead_front, v_ahead_downFor, N6 v_ahead_row, N6 v_ahead_plotOf) = rn v_now_town_houses (N6 v_now_town_kindOf) a2.toNatClampNeg (v_now_town_front, v_now_town_downFor, N6 v_now_town_row, N6 v_now_town_plotOf)) ∧ ((0 ≤ a1 ∧ a1 < v_ground_houses) ∧ (0 ≤ a2 ∧ a2 ≤ 400))) (hm_41 : (a2 - l3) = m_41) : Ok (fun r => RB 0 6 r.2.1 ∧ RB 0 11 r.2.2.1 ∧ RA (-1) 11 r.2.2.2.2.2.1 ∧ RA 0 5 r.2.2.2.2.2.2.1 ∧ RA (-1) 5 r.2.2.2.2.2.2.2 ∧ (¬ (0 ≤ a1 ∧ a1 < v_ground_houses) ∧ r.1 = -101 ∨ ((0 ≤ a1 ∧ a1 < v_ground_houses) ∧ ¬ (0 ≤ a2 ∧ a2 ≤ 400)) ∧ r.1 = -102 ∨ ((0 ≤ a1 ∧ a1 < v_ground_houses) ∧ (0 ≤ a2 ∧ a2 ≤ 400)) ∧ (TWN v_now_town_houses v_now_town_kindOf v_now_town_downFor v_now_town_row v_now_town_plotOf v_now_town_standsOn → r.1 = (rn v_now_town_houses (N6 v_now_town_kindOf) a2.toNatClampNeg (v_now_town_front, v_now_town_downFor, N6 v_now_town_row, N6 v_now_town_plotOf)).2.2.2 a1.toNatClampNeg))) (fX8_where_41 N v_ground_houses v_now_town_houses v_now_town_front v_now_town_downFor v_now_town_kindOf v_now_town_plotOf v_now_town_row v_now_town_standsOn a1 a2 K_41 l3 v_ahead_houses v_ahead_front v_ahead_downFor v_ahead_kindOf v_ahead_plotOf v_ahead_row v_ahead_standsOn) := by
  obtain ⟨h_v_ahead_houses, h_v_ahead_front, h_v_ahead_plotOf, h_v_ahead_row, h_v_ahead_standsOn, h_l3, e_0, e_1, e_2, e_3⟩ := hI
  unfold fX8_where_41
  refine ok_if (fun c_1 => ?_) (fun c_1 => ?_)
  · refine ok_g (ng6 (by clear hm_41 hK_41 e_1 e_2; grind)) ?_
    exact ok_s ⟨(by clear hm_41 hK_41 e_1 e_2; grind), h_v_ahead_front, h_v_ahead_plotOf, h_v_ahead_row, h_v_ahead_standsOn, (Or.inr (Or.inr ⟨e_3, fun T => by rw [← rn_end (e_2 T) c_1 (by clear hm_41 hK_41 e_1 e_2; grind) (by clear hm_41 hK_41 e_1 e_2; grind)]; exact (N6_at (rb_lt6 h_a1)).symm⟩))⟩
  · refine ok_b (tX6_turn hN h_v_ahead_houses h_v_ahead_front h_v_ahead_row h_v_ahead_plotOf h_v_ahead_standsOn) (fun x_50 hx => ?_)
    obtain ⟨h_x_50_0, h_x_50_1, h_x_50_2, h_x_50_3, h_x_50_4⟩ := hx
    exact hK_41 _ _ _ _ _ _ _ _ ⟨h_v_ahead_houses, h_x_50_0, h_x_50_2, h_x_50_1, h_x_50_3, (by clear hm_41 hK_41 e_1 e_2; grind), (by clear hm_41 hK_41 e_1 e_2; grind), (fun T => ⟨(h_x_50_4 (e_1 T).1).2.2, (e_1 T).2⟩), (fun T => rn_step (e_2 T) (cur_step e_0 h_v_ahead_houses h_v_ahead_front h_v_ahead_row (e_1 T).2 (h_x_50_4 (e_1 T).1).2.1) (by clear hm_41 hK_41 e_1 e_2; grind) (by clear hm_41 hK_41 e_1 e_2; grind)), (by clear hm_41 hK_41 e_1 e_2; grind)⟩ (by clear hK_41 e_1 e_2; grind) (by clear hK_41 e_1 e_2; grind)
theorem lX8_where_41 {N : Nat} {v_ground_houses : Int32} {v_now_town_houses : Int32} {v_now_town_front : Int32} {v_now_town_downFor : Int32} {v_now_town_kindOf : (Nat → Int32)} {v_now_town_plotOf : (Nat → Int32)} {v_now_town_row : (Nat → Int32)} {v_now_town_standsOn : (Nat → Int32)} {a1 : Int32} {a2 : Int32}  (hN : 49999 < N) (h_v_ground_houses : RB 0 6 v_ground_houses) (h_v_now_town_houses : RB 0 6 v_now_town_houses) (h_v_now_town_front : RB 0 11 v_now_town_front) (h_v_now_town_plotOf : RA (-1) 11 v_now_town_plotOf) (h_v_now_town_row : RA 0 5 v_now_town_row) (h_v_now_town_standsOn : RA (-1) 5 v_now_town_standsOn) (h_a1 : RB 0 5 a1) (h_a2 : RB 0 400 a2)  : ∀ (l3 : Int32) (v_ahead_houses : Int32) (v_ahead_front : Int32) (v_ahead_downFor : Int32) (v_ahead_kindOf : (Nat → Int32)) (v_ahead_plotOf : (Nat → Int32)) (v_ahead_row : (Nat → Int32)) (v_ahead_standsOn : (Nat → Int32)), RB 1 6 v_ahead_houses ∧ RB 0 11 v_ahead_front ∧ RA (-1) 11 v_ahead_plotOf ∧ RA 0 5 v_ahead_row ∧ RA (-1) 5 v_ahead_standsOn ∧ 0 ≤ l3 ∧ (v_ahead_houses = v_now_town_houses) ∧ (TWN v_now_town_houses v_now_town_kindOf v_now_town_downFor v_now_town_row v_now_town_plotOf v_now_town_standsOn → TWN v_ahead_houses v_ahead_kindOf v_ahead_downFor v_ahead_row v_ahead_plotOf v_ahead_standsOn ∧ N6 v_ahead_kindOf = N6 v_now_town_kindOf) ∧ (TWN v_now_town_houses v_now_town_kindOf v_now_town_downFor v_now_town_row v_now_town_plotOf v_now_town_standsOn → rn v_now_town_houses (N6 v_now_town_kindOf) (a2 - l3).toNatClampNeg (v_ahead_front, v_ahead_downFor, N6 v_ahead_row, N6 v_ahead_plotOf) = rn v_now_town_houses (N6 v_now_town_kindOf) a2.toNatClampNeg (v_now_town_front, v_now_town_downFor, N6 v_now_town_row, N6 v_now_town_plotOf)) ∧ ((0 ≤ a1 ∧ a1 < v_ground_houses) ∧ (0 ≤ a2 ∧ a2 ≤ 400)) → (a2 - l3) ≤ 49999 → Ok (fun r => RB 0 6 r.2.1 ∧ RB 0 11 r.2.2.1 ∧ RA (-1) 11 r.2.2.2.2.2.1 ∧ RA 0 5 r.2.2.2.2.2.2.1 ∧ RA (-1) 5 r.2.2.2.2.2.2.2 ∧ (¬ (0 ≤ a1 ∧ a1 < v_ground_houses) ∧ r.1 = -101 ∨ ((0 ≤ a1 ∧ a1 < v_ground_houses) ∧ ¬ (0 ≤ a2 ∧ a2 ≤ 400)) ∧ r.1 = -102 ∨ ((0 ≤ a1 ∧ a1 < v_ground_houses) ∧ (0 ≤ a2 ∧ a2 ≤ 400)) ∧ (TWN v_now_town_houses v_now_town_kindOf v_now_town_downFor v_now_town_row v_now_town_plotOf v_now_town_standsOn → r.1 = (rn v_now_town_houses (N6 v_now_town_kindOf) a2.toNatClampNeg (v_now_town_front, v_now_town_downFor, N6 v_now_town_row, N6 v_now_town_plotOf)).2.2.2 a1.toNatClampNeg))) (lfix (fun (K : Int32 × Int32 × Int32 × Int32 × (Nat → Int32) × (Nat → Int32) × (Nat → Int32) × (Nat → Int32) → Option (Int32 × Int32 × Int32 × Int32 × (Nat → Int32) × (Nat → Int32) × (Nat → Int32) × (Nat → Int32))) (a : Int32 × Int32 × Int32 × Int32 × (Nat → Int32) × (Nat → Int32) × (Nat → Int32) × (Nat → Int32)) => fX8_where_41 N v_ground_houses v_now_town_houses v_now_town_front v_now_town_downFor v_now_town_kindOf v_now_town_plotOf v_now_town_row v_now_town_standsOn a1 a2 (fun (l3 : Int32) (v_ahead_houses : Int32) (v_ahead_front : Int32) (v_ahead_downFor : Int32) (v_ahead_kindOf : (Nat → Int32)) (v_ahead_plotOf : (Nat → Int32)) (v_ahead_row : (Nat → Int32)) (v_ahead_standsOn : (Nat → Int32)) => K (l3, v_ahead_houses, v_ahead_front, v_ahead_downFor, v_ahead_kindOf, v_ahead_plotOf, v_ahead_row, v_ahead_standsOn)) a.1 a.2.1 a.2.2.1 a.2.2.2.1 a.2.2.2.2.1 a.2.2.2.2.2.1 a.2.2.2.2.2.2.1 a.2.2.2.2.2.2.2) N (l3, v_ahead_houses, v_ahead_front, v_ahead_downFor, v_ahead_kindOf, v_ahead_plotOf, v_ahead_row, v_ahead_standsOn)) := by
  intro l3 v_ahead_houses v_ahead_front v_ahead_downFor v_ahead_kindOf v_ahead_plotOf v_ahead_row v_ahead_standsOn hI hM
  exact ok_l (I := fun (a : Int32 × Int32 × Int32 × Int32 × (Nat → Int32) × (Nat → Int32) × (Nat → Int32) × (Nat → Int32)) => (RB 1 6 a.2.1 ∧ RB 0 11 a.2.2.1 ∧ RA (-1) 11 a.2.2.2.2.2.1 ∧ RA 0 5 a.2.2.2.2.2.2.1 ∧ RA (-1) 5 a.2.2.2.2.2.2.2 ∧ 0 ≤ a.1 ∧ (a.2.1 = v_now_town_houses) ∧ (TWN v_now_town_houses v_now_town_kindOf v_now_town_downFor v_now_town_row v_now_town_plotOf v_now_town_standsOn → TWN a.2.1 a.2.2.2.2.1 a.2.2.2.1 a.2.2.2.2.2.2.1 a.2.2.2.2.2.1 a.2.2.2.2.2.2.2 ∧ N6 a.2.2.2.2.1 = N6 v_now_town_kindOf) ∧ (TWN v_now_town_houses v_now_town_kindOf v_now_town_downFor v_now_town_row v_now_town_plotOf v_now_town_standsOn → rn v_now_town_houses (N6 v_now_town_kindOf) (a2 - a.1).toNatClampNeg (a.2.2.1, a.2.2.2.1, N6 a.2.2.2.2.2.2.1, N6 a.2.2.2.2.2.1) = rn v_now_town_houses (N6 v_now_town_kindOf) a2.toNatClampNeg (v_now_town_front, v_now_town_downFor, N6 v_now_town_row, N6 v_now_town_plotOf)) ∧ ((0 ≤ a1 ∧ a1 < v_ground_houses) ∧ (0 ≤ a2 ∧ a2 ≤ 400)))) (M := fun (a : Int32 × Int32 × Int32 × Int32 × (Nat → Int32) × (Nat → Int32) × (Nat → Int32) × (Nat → Int32)) => (a2 - a.1)) (fun K a hI hK => sX8_where_41  hN h_v_ground_houses h_v_now_town_houses h_v_now_town_front h_v_now_town_plotOf h_v_now_town_row h_v_now_town_standsOn h_a1 h_a2  (fun l3 v_ahead_houses v_ahead_front v_ahead_downFor v_ahead_kindOf v_ahead_plotOf v_ahead_row v_ahead_standsOn hI2  hlt hp => hK (l3, v_ahead_houses, v_ahead_front, v_ahead_downFor, v_ahead_kindOf, v_ahead_plotOf, v_ahead_row, v_ahead_standsOn) hI2 hlt hp) hI  rfl) N _ hI hN hM
theorem tX8_where {N : Nat} {v_ground_houses : Int32} {v_now_town_houses : Int32} {v_now_town_front : Int32} {v_now_town_downFor : Int32} {v_now_town_kindOf : (Nat → Int32)} {v_now_town_plotOf : (Nat → Int32)} {v_now_town_row : (Nat → Int32)} {v_now_town_standsOn : (Nat → Int32)} {a1 : Int32} {a2 : Int32} {v_ahead_houses : Int32} {v_ahead_front : Int32} {v_ahead_downFor : Int32} {v_ahead_kindOf : (Nat → Int32)} {v_ahead_plotOf : (Nat → Int32)} {v_ahead_row : (Nat → Int32)} {v_ahead_standsOn : (Nat → Int32)}  (hN : 49999 < N) (h_v_ground_houses : RB 0 6 v_ground_houses) (h_v_now_town_houses : RB 0 6 v_now_town_houses) (h_v_now_town_front : RB 0 11 v_now_town_front) (h_v_now_town_plotOf : RA (-1) 11 v_now_town_plotOf) (h_v_now_town_row : RA 0 5 v_now_town_row) (h_v_now_town_standsOn : RA (-1) 5 v_now_town_standsOn) (h_v_ahead_houses : RB 0 6 v_ahead_houses) (h_v_ahead_front : RB 0 11 v_ahead_front) (h_v_ahead_plotOf : RA (-1) 11 v_ahead_plotOf) (h_v_ahead_row : RA 0 5 v_ahead_row) (h_v_ahead_standsOn : RA (-1) 5 v_ahead_standsOn) (e_0 : v_now_town_houses = v_ground_houses)  : Ok (fun r => RB 0 6 r.2.1 ∧ RB 0 11 r.2.2.1 ∧ RA (-1) 11 r.2.2.2.2.2.1 ∧ RA 0 5 r.2.2.2.2.2.2.1 ∧ RA (-1) 5 r.2.2.2.2.2.2.2 ∧ (¬ (0 ≤ a1 ∧ a1 < v_ground_houses) ∧ r.1 = -101 ∨ ((0 ≤ a1 ∧ a1 < v_ground_houses) ∧ ¬ (0 ≤ a2 ∧ a2 ≤ 400)) ∧ r.1 = -102 ∨ ((0 ≤ a1 ∧ a1 < v_ground_houses) ∧ (0 ≤ a2 ∧ a2 ≤ 400)) ∧ (TWN v_now_town_houses v_now_town_kindOf v_now_town_downFor v_now_town_row v_now_town_plotOf v_now_town_standsOn → r.1 = (rn v_now_town_houses (N6 v_now_town_kindOf) a2.toNatClampNeg (v_now_town_front, v_now_town_downFor, N6 v_now_town_row, N6 v_now_town_plotOf)).2.2.2 a1.toNatClampNeg))) (fX8_where N v_ground_houses v_now_town_houses v_now_town_front v_now_town_downFor v_now_town_kindOf v_now_town_plotOf v_now_town_row v_now_town_standsOn a1 a2 v_ahead_houses v_ahead_front v_ahead_downFor v_ahead_kindOf v_ahead_plotOf v_ahead_row v_ahead_standsOn) := by
  unfold fX8_where
  refine ok_b (tX8_isHouse hN h_v_ground_houses) (fun x_2 hx => ?_)
  have h_x_2_0 := hx
  refine ok_if (fun c_1 => ?_) (fun c_1 => ?_)
  · exact ok_s ⟨h_v_ahead_houses, h_v_ahead_front, h_v_ahead_plotOf, h_v_ahead_row, h_v_ahead_standsOn, (by grind)⟩
  · refine ok_if (fun c_2 => ?_) (fun c_2 => ?_)
    · exact ok_s ⟨h_v_ahead_houses, h_v_ahead_front, h_v_ahead_plotOf, h_v_ahead_row, h_v_ahead_standsOn, (by grind)⟩
    · refine ok_if (fun c_3 => ?_) (fun c_3 => ?_)
      · refine ok_b (tX6_copyFrom hN h_v_now_town_houses h_v_now_town_front h_v_now_town_plotOf h_v_now_town_row h_v_now_town_standsOn h_v_ahead_houses h_v_ahead_front h_v_ahead_plotOf h_v_ahead_row h_v_ahead_standsOn) (fun x_36 hx => ?_)
        obtain ⟨h_x_36_0, h_x_36_1, h_x_36_2, h_x_36_3, h_x_36_4, h_x_36_5, h_x_36_6, h_x_36_7, h_x_36_8⟩ := hx
        exact lX8_where_41  hN h_v_ground_houses h_v_now_town_houses h_v_now_town_front h_v_now_town_plotOf h_v_now_town_row h_v_now_town_standsOn (by grind) (by grind)  _ _ _ _ _ _ _ _ ⟨(by grind), h_x_36_1, h_x_36_2, h_x_36_3, h_x_36_4, (by grind), (by grind), (fun T => by rw [h_x_36_5, h_x_36_6.2]; exact ⟨twn_cong (by grind) h_x_36_7.1 h_x_36_7.2.2 h_x_36_7.2.1 h_x_36_8 T, h_x_36_7.1⟩), (fun _ => by rw [sub_0, h_x_36_6.1, h_x_36_6.2, h_x_36_7.2.2, h_x_36_7.2.1]), (by grind)⟩  (by grind)
      · exact ok_s ⟨h_v_ahead_houses, h_v_ahead_front, h_v_ahead_plotOf, h_v_ahead_row, h_v_ahead_standsOn, (by grind)⟩
