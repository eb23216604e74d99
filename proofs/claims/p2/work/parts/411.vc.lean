theorem sX1_follow_11 {N : Nat} {w2_houses : Int32} {w2_front : Int32} {w2_downFor : Int32} {w2_kindOf : (Nat → Int32)} {w2_plotOf : (Nat → Int32)} {w2_row : (Nat → Int32)} {w2_standsOn : (Nat → Int32)} {a1 : Int32} {a3 : Int32} {K_11 : Int32 → Int32 → Int32 → Int32 → Int32 → (Nat → Int32) → (Nat → Int32) → (Nat → Int32) → (Nat → Int32) → (Nat → Int32) → (Nat → Int32) → (Nat → Int32) → (Nat → Int32) → (Nat → Int32) → Option (Int32 × Int32 × Int32 × (Nat → Int32) × (Nat → Int32) × (Nat → Int32) × (Nat → Int32) × (Nat → Int32) × (Nat → Int32) × (Nat → Int32) × (Nat → Int32) × (Nat → Int32))} {l4 : Int32} {l5 : Int32} {v_town_houses : Int32} {v_town_front : Int32} {v_town_downFor : Int32} {v_town_kindOf : (Nat → Int32)} {v_town_plotOf : (Nat → Int32)} {v_town_row : (Nat → Int32)} {v_town_standsOn : (Nat → Int32)} {v_track_0 : (Nat → Int32)} {v_track_1 : (Nat → Int32)} {v_track_2 : (Nat → Int32)} {v_track_3 : (Nat → Int32)} {v_track_4 : (Nat → Int32)}  {m_11 : Int32} (hN : 49999 < N) (h_w2_houses : RB 1 6 w2_houses) (h_w2_front : RB 0 11 w2_front) (h_w2_plotOf : RA (-1) 11 w2_plotOf) (h_w2_row : RA 0 5 w2_row) (h_w2_standsOn : RA (-1) 5 w2_standsOn) (h_a1 : RB 0 5 a1) (h_a3 : RB 0 40 a3) (hK_11 : ∀ (l4 : Int32) (l5 : Int32) (v_town_houses : Int32) (v_town_front : Int32) (v_town_downFor : Int32) (v_town_kindOf : (Nat → Int32)) (v_town_plotOf : (Nat → Int32)) (v_town_row : (Nat → Int32)) (v_town_standsOn : (Nat → Int32)) (v_track_0 : (Nat → Int32)) (v_track_1 : (Nat → Int32)) (v_track_2 : (Nat → Int32)) (v_track_3 : (Nat → Int32)) (v_track_4 : (Nat → Int32)), RB 0 40 l4 ∧ RB 0 6 v_town_houses ∧ RB 0 11 v_town_front ∧ RA (-1) 11 v_town_plotOf ∧ RA 0 5 v_town_row ∧ RA (-1) 5 v_town_standsOn ∧ 0 ≤ l5 → ((5 : Int32) - l5) < m_11 → 0 < m_11 → Ok (fun r => RB 0 6 r.1 ∧ RB 0 11 r.2.1 ∧ RA (-1) 11 r.2.2.2.2.1 ∧ RA 0 5 r.2.2.2.2.2.1 ∧ RA (-1) 5 r.2.2.2.2.2.2.1) (K_11 l4 l5 v_town_houses v_town_front v_town_downFor v_town_kindOf v_town_plotOf v_town_row v_town_standsOn v_track_0 v_track_1 v_track_2 v_track_3 v_track_4)) (hI : RB 0 40 l4 ∧ RB 0 6 v_town_houses ∧ RB 0 11 v_town_front ∧ RA (-1) 11 v_town_plotOf ∧ RA 0 5 v_town_row ∧ RA (-1) 5 v_town_standsOn ∧ 0 ≤ l5) (hm_11 : ((5 : Int32) - l5) = m_11) : Ok (fun r => RB 0 6 r.1 ∧ RB 0 11 r.2.1 ∧ RA (-1) 11 r.2.2.2.2.1 ∧ RA 0 5 r.2.2.2.2.2.1 ∧ RA (-1) 5 r.2.2.2.2.2.2.1) (fX1_follow_11 N w2_houses w2_front w2_downFor w2_kindOf w2_plotOf w2_row w2_standsOn a1 a3 K_11 l4 l5 v_town_houses v_town_front v_town_downFor v_town_kindOf v_town_plotOf v_town_row v_town_standsOn v_track_0 v_track_1 v_track_2 v_track_3 v_track_4) := by
  obtain ⟨h_l4, h_v_town_houses, h_v_town_front, h_v_town_plotOf, h_v_town_row, h_v_town_standsOn, h_l5⟩ := hI
  unfold fX1_follow_11
  refine ok_if (fun c_1 => ?_) (fun c_1 => ?_)
  · exact ok_s ⟨h_v_town_houses, h_v_town_front, h_v_town_plotOf, h_v_town_row, h_v_town_standsOn⟩
  · refine ok_b (tX6_copyFrom hN (by clear hm_11 hK_11; grind) h_w2_front h_w2_plotOf h_w2_row h_w2_standsOn h_v_town_houses h_v_town_front h_v_town_plotOf h_v_town_row h_v_town_standsOn) (fun x_22 hx => ?_)
    obtain ⟨h_x_22_0, h_x_22_1, h_x_22_2, h_x_22_3, h_x_22_4, h_x_22_5⟩ := hx
    refine ok_g (ng6 (by clear hm_11 hK_11; grind)) ?_
    exact lX1_follow_39  hN h_w2_houses h_w2_front h_w2_plotOf h_w2_row h_w2_standsOn h_a1 h_a3 hK_11 _ _ _ _ _ _ _ _ _ _ _ _ _ _ _ ⟨h_l4, (by clear hm_11 hK_11; grind), (by clear hm_11 hK_11; grind), (by clear hm_11 hK_11; grind), h_x_22_1, h_x_22_2, h_x_22_3, h_x_22_4⟩ (by clear hK_11; grind) (by clear hm_11 hK_11; grind)
theorem lX1_follow_11 {N : Nat} {w2_houses : Int32} {w2_front : Int32} {w2_downFor : Int32} {w2_kindOf : (Nat → Int32)} {w2_plotOf : (Nat → Int32)} {w2_row : (Nat → Int32)} {w2_standsOn : (Nat → Int32)} {a1 : Int32} {a3 : Int32}  (hN : 49999 < N) (h_w2_houses : RB 1 6 w2_houses) (h_w2_front : RB 0 11 w2_front) (h_w2_plotOf : RA (-1) 11 w2_plotOf) (h_w2_row : RA 0 5 w2_row) (h_w2_standsOn : RA (-1) 5 w2_standsOn) (h_a1 : RB 0 5 a1) (h_a3 : RB 0 40 a3)  : ∀ (l4 : Int32) (l5 : Int32) (v_town_houses : Int32) (v_town_front : Int32) (v_town_downFor : Int32) (v_town_kindOf : (Nat → Int32)) (v_town_plotOf : (Nat → Int32)) (v_town_row : (Nat → Int32)) (v_town_standsOn : (Nat → Int32)) (v_track_0 : (Nat → Int32)) (v_track_1 : (Nat → Int32)) (v_track_2 : (Nat → Int32)) (v_track_3 : (Nat → Int32)) (v_track_4 : (Nat → Int32)), RB 0 40 l4 ∧ RB 0 6 v_town_houses ∧ RB 0 11 v_town_front ∧ RA (-1) 11 v_town_plotOf ∧ RA 0 5 v_town_row ∧ RA (-1) 5 v_town_standsOn ∧ 0 ≤ l5 → ((5 : Int32) - l5) ≤ 49999 → Ok (fun r => RB 0 6 r.1 ∧ RB 0 11 r.2.1 ∧ RA (-1) 11 r.2.2.2.2.1 ∧ RA 0 5 r.2.2.2.2.2.1 ∧ RA (-1) 5 r.2.2.2.2.2.2.1) (lfix (fun (K : Int32 × Int32 × Int32 × Int32 × Int32 × (Nat → Int32) × (Nat → Int32) × (Nat → Int32) × (Nat → Int32) × (Nat → Int32) × (Nat → Int32) × (Nat → Int32) × (Nat → Int32) × (Nat → Int32) → Option (Int32 × Int32 × Int32 × (Nat → Int32) × (Nat → Int32) × (Nat → Int32) × (Nat → Int32) × (Nat → Int32) × (Nat → Int32) × (Nat → Int32) × (Nat → Int32) × (Nat → Int32))) (a : Int32 × Int32 × Int32 × Int32 × Int32 × (Nat → Int32) × (Nat → Int32) × (Nat → Int32) × (Nat → Int32) × (Nat → Int32) × (Nat → Int32) × (Nat → Int32) × (Nat → Int32) × (Nat → Int32)) => fX1_follow_11 N w2_houses w2_front w2_downFor w2_kindOf w2_plotOf w2_row w2_standsOn a1 a3 (fun (l4 : Int32) (l5 : Int32) (v_town_houses : Int32) (v_town_front : Int32) (v_town_downFor : Int32) (v_town_kindOf : (Nat → Int32)) (v_town_plotOf : (Nat → Int32)) (v_town_row : (Nat → Int32)) (v_town_standsOn : (Nat → Int32)) (v_track_0 : (Nat → Int32)) (v_track_1 : (Nat → Int32)) (v_track_2 : (Nat → Int32)) (v_track_3 : (Nat → Int32)) (v_track_4 : (Nat → Int32)) => K (l4, l5, v_town_houses, v_town_front, v_town_downFor, v_town_kindOf, v_town_plotOf, v_town_row, v_town_standsOn, v_track_0, v_track_1, v_track_2, v_track_3, v_track_4)) a.1 a.2.1 a.2.2.1 a.2.2.2.1 a.2.2.2.2.1 a.2.2.2.2.2.1 a.2.2.2.2.2.2.1 a.2.2.2.2.2.2.2.1 a.2.2.2.2.2.2.2.2.1 a.2.2.2.2.2.2.2.2.2.1 a.2.2.2.2.2.2.2.2.2.2.1 a.2.2.2.2.2.2.2.2.2.2.2.1 a.2.2.2.2.2.2.2.2.2.2.2.2.1 a.2.2.2.2.2.2.2.2.2.2.2.2.2) N (l4, l5, v_town_houses, v_town_front, v_town_downFor, v_town_kindOf, v_town_plotOf, v_town_row, v_town_standsOn, v_track_0, v_track_1, v_track_2, v_track_3, v_track_4)) := by
  intro l4 l5 v_town_houses v_town_front v_town_downFor v_town_kindOf v_town_plotOf v_town_row v_town_standsOn v_track_0 v_track_1 v_track_2 v_track_3 v_track_4 hI hM
  exact ok_l (I := fun (a : Int32 × Int32 × Int32 × Int32 × Int32 × (Nat → Int32) × (Nat → Int32) × (Nat → Int32) × (Nat → Int32) × (Nat → Int32) × (Nat → Int32) × (Nat → Int32) × (Nat → Int32) × (Nat → Int32)) => (RB 0 40 a.1 ∧ RB 0 6 a.2.2.1 ∧ RB 0 11 a.2.2.2.1 ∧ RA (-1) 11 a.2.2.2.2.2.2.1 ∧ RA 0 5 a.2.2.2.2.2.2.2.1 ∧ RA (-1) 5 a.2.2.2.2.2.2.2.2.1 ∧ 0 ≤ a.2.1)) (M := fun (a : Int32 × Int32 × Int32 × Int32 × Int32 × (Nat → Int32) × (Nat → Int32) × (Nat → Int32) × (Nat → Int32) × (Nat → Int32) × (Nat → Int32) × (Nat → Int32) × (Nat → Int32) × (Nat → Int32)) => ((5 : Int32) - a.2.1)) (fun K a hI hK => sX1_follow_11  hN h_w2_houses h_w2_front h_w2_plotOf h_w2_row h_w2_standsOn h_a1 h_a3  (fun l4 l5 v_town_houses v_town_front v_town_downFor v_town_kindOf v_town_plotOf v_town_row v_town_standsOn v_track_0 v_track_1 v_track_2 v_track_3 v_track_4 hI2  hlt hp => hK (l4, l5, v_town_houses, v_town_front, v_town_downFor, v_town_kindOf, v_town_plotOf, v_town_row, v_town_standsOn, v_track_0, v_track_1, v_track_2, v_track_3, v_track_4) hI2 hlt hp) hI  rfl) N _ hI hN hM
theorem tX1_follow {N : Nat} {w2_houses : Int32} {w2_front : Int32} {w2_downFor : Int32} {w2_kindOf : (Nat → Int32)} {w2_plotOf : (Nat → Int32)} {w2_row : (Nat → Int32)} {w2_standsOn : (Nat → Int32)} {a1 : Int32} {a3 : Int32} {v_town_houses : Int32} {v_town_front : Int32} {v_town_downFor : Int32} {v_town_kindOf : (Nat → Int32)} {v_town_plotOf : (Nat → Int32)} {v_town_row : (Nat → Int32)} {v_town_standsOn : (Nat → Int32)} {v_track_0 : (Nat → Int32)} {v_track_1 : (Nat → Int32)} {v_track_2 : (Nat → Int32)} {v_track_3 : (Nat → Int32)} {v_track_4 : (Nat → Int32)}  (hN : 49999 < N) (h_w2_houses : RB 1 6 w2_houses) (h_w2_front : RB 0 11 w2_front) (h_w2_plotOf : RA (-1) 11 w2_plotOf) (h_w2_row : RA 0 5 w2_row) (h_w2_standsOn : RA (-1) 5 w2_standsOn) (h_a1 : RB 0 5 a1) (h_a3 : RB 0 40 a3) (h_v_town_houses : RB 0 6 v_town_houses) (h_v_town_front : RB 0 11 v_town_front) (h_v_town_plotOf : RA (-1) 11 v_town_plotOf) (h_v_town_row : RA 0 5 v_town_row) (h_v_town_standsOn : RA (-1) 5 v_town_standsOn)  : Ok (fun r => RB 0 6 r.1 ∧ RB 0 11 r.2.1 ∧ RA (-1) 11 r.2.2.2.2.1 ∧ RA 0 5 r.2.2.2.2.2.1 ∧ RA (-1) 5 r.2.2.2.2.2.2.1) (fX1_follow N w2_houses w2_front w2_downFor w2_kindOf w2_plotOf w2_row w2_standsOn a1 a3 v_town_houses v_town_front v_town_downFor v_town_kindOf v_town_plotOf v_town_row v_town_standsOn v_track_0 v_track_1 v_track_2 v_track_3 v_track_4) := by
  unfold fX1_follow
  exact lX1_follow_11  hN h_w2_houses h_w2_front h_w2_plotOf h_w2_row h_w2_standsOn h_a1 h_a3  _ _ _ _ _ _ _ _ _ _ _ _ _ _ ⟨(by grind), h_v_town_houses, h_v_town_front, h_v_town_plotOf, h_v_town_row, h_v_town_standsOn, (by grind)⟩  (by grind)
theorem sX1_agrees_3 {N : Nat} {n_a3 : Nat} {w3_size : Int32} {w3_house : (Nat → Int32)} {v_track_0 : (Nat → Int32)} {v_track_1 : (Nat → Int32)} {v_track_2 : (Nat → Int32)} {v_track_3 : (Nat → Int32)} {v_track_4 : (Nat → Int32)} {w3_night : (Nat → Int32)} {w3_plot : (Nat → Int32)} {a1 : Int32} {a2 : Int32} {K_3 : Int32 → Option (Int32)} {l4 : Int32}  {m_3 : Int32} (hN : 49999 < N) (f_0 : NZ n_a3 w3_size) (h_w3_size : RB 0 6 w3_size) (h_w3_house : RA 0 5 w3_house) (h_w3_night : RA 0 40 w3_night) (h_a1 : RB 0 4 a1) (hK_3 : ∀ (l4 : Int32), 0 ≤ l4 → (w3_size - l4) < m_3 → 0 < m_3 → Ok (fun r => True) (K_3 l4)) (hI : 0 ≤ l4) (hm_3 : (w3_size - l4) = m_3) : Ok (fun r => True) (fX1_agrees_3 N n_a3 w3_size w3_house v_track_0 v_track_1 v_track_2 v_track_3 v_track_4 w3_night w3_plot a1 a2 K_3 l4) := by
  have h_l4 := hI
  have fz_0 := f_0.le
  have fy_0 := f_0.2.1
  unfold fX1_agrees_3
  refine ok_if (fun c_1 => ?_) (fun c_1 => ?_)
  · exact ok_s trivial
  · refine ok_g (ngz f_0 (by clear hm_3 hK_3; grind)) ?_
    refine ok_if (fun c_2 => ?_) (fun c_2 => ?_)
    · refine ok_g (ng5 (by clear hm_3 hK_3; grind)) ?_
      refine ok_if (fun c_3 => ?_) (fun c_3 => ?_)
      · refine ok_g (ngz f_0 (by clear hm_3 hK_3; grind)) ?_
        refine ok_g (ng41 (by clear hm_3 hK_3; have := h_w3_night ((l4).toNatClampNeg); grind)) ?_
        refine ok_g (ngz f_0 (by clear hm_3 hK_3; grind)) ?_
        refine ok_if (fun c_4 => ?_) (fun c_4 => ?_)
        · exact hK_3 _ (by clear hm_3 hK_3; grind) (by clear hK_3; grind) (by clear hK_3; grind)
        · exact ok_s trivial
      · refine ok_if (fun c_5 => ?_) (fun c_5 => ?_)
        · refine ok_g (ngz f_0 (by clear hm_3 hK_3; grind)) ?_
          refine ok_g (ng41 (by clear hm_3 hK_3; have := h_w3_night ((l4).toNatClampNeg); grind)) ?_
          refine ok_g (ngz f_0 (by clear hm_3 hK_3; grind)) ?_
          refine ok_if (fun c_6 => ?_) (fun c_6 => ?_)
          · exact hK_3 _ (by clear hm_3 hK_3; grind) (by clear hK_3; grind) (by clear hK_3; grind)
          · exact ok_s trivial
        · refine ok_if (fun c_7 => ?_) (fun c_7 => ?_)
          · refine ok_g (ngz f_0 (by clear hm_3 hK_3; grind)) ?_
            refine ok_g (ng41 (by clear hm_3 hK_3; have := h_w3_night ((l4).toNatClampNeg); grind)) ?_
            refine ok_g (ngz f_0 (by clear hm_3 hK_3; grind)) ?_
            refine ok_if (fun c_8 => ?_) (fun c_8 => ?_)
            · exact hK_3 _ (by clear hm_3 hK_3; grind) (by clear hK_3; grind) (by clear hK_3; grind)
            · exact ok_s trivial
          · refine ok_if (fun c_9 => ?_) (fun c_9 => ?_)
            · refine ok_g (ngz f_0 (by clear hm_3 hK_3; grind)) ?_
              refine ok_g (ng41 (by clear hm_3 hK_3; have := h_w3_night ((l4).toNatClampNeg); grind)) ?_
              refine ok_g (ngz f_0 (by clear hm_3 hK_3; grind)) ?_
              refine ok_if (fun c_10 => ?_) (fun c_10 => ?_)
              · exact hK_3 _ (by clear hm_3 hK_3; grind) (by clear hK_3; grind) (by clear hK_3; grind)
              · exact ok_s trivial
            · refine ok_n (by clear hm_3 hK_3; grind) ?_
              refine ok_g (ngz f_0 (by clear hm_3 hK_3; grind)) ?_
              refine ok_g (ng41 (by clear hm_3 hK_3; have := h_w3_night ((l4).toNatClampNeg); grind)) ?_
              refine ok_g (ngz f_0 (by clear hm_3 hK_3; grind)) ?_
              refine ok_if (fun c_11 => ?_) (fun c_11 => ?_)
              · exact hK_3 _ (by clear hm_3 hK_3; grind) (by clear hK_3; grind) (by clear hK_3; grind)
              · exact ok_s trivial
    · exact hK_3 _ (by clear hm_3 hK_3; grind) (by clear hK_3; grind) (by clear hK_3; grind)
theorem lX1_agrees_3 {N : Nat} {n_a3 : Nat} {w3_size : Int32} {w3_house : (Nat → Int32)} {v_track_0 : (Nat → Int32)} {v_track_1 : (Nat → Int32)} {v_track_2 : (Nat → Int32)} {v_track_3 : (Nat → Int32)} {v_track_4 : (Nat → Int32)} {w3_night : (Nat → Int32)} {w3_plot : (Nat → Int32)} {a1 : Int32} {a2 : Int32}  (hN : 49999 < N) (f_0 : NZ n_a3 w3_size) (h_w3_size : RB 0 6 w3_size) (h_w3_house : RA 0 5 w3_house) (h_w3_night : RA 0 40 w3_night) (h_a1 : RB 0 4 a1)  : ∀ (l4 : Int32), 0 ≤ l4 → (w3_size - l4) ≤ 49999 → Ok (fun r => True) (lfix (fun (K : Int32 → Option (Int32)) (a : Int32) => fX1_agrees_3 N n_a3 w3_size w3_house v_track_0 v_track_1 v_track_2 v_track_3 v_track_4 w3_night w3_plot a1 a2 (fun (l4 : Int32) => K l4) a) N (l4)) := by
  intro l4 hI hM
  exact ok_l (I := fun (a : Int32) => (0 ≤ a)) (M := fun (a : Int32) => (w3_size - a)) (fun K a hI hK => sX1_agrees_3  hN f_0 h_w3_size h_w3_house h_w3_night h_a1  (fun l4 hI2  hlt hp => hK (l4) hI2 hlt hp) hI  rfl) N _ hI hN hM
theorem tX1_agrees {N : Nat} {n_a3 : Nat} {w3_size : Int32} {w3_house : (Nat → Int32)} {v_track_0 : (Nat → Int32)} {v_track_1 : (Nat → Int32)} {v_track_2 : (Nat → Int32)} {v_track_3 : (Nat → Int32)} {v_track_4 : (Nat → Int32)} {w3_night : (Nat → Int32)} {w3_plot : (Nat → Int32)} {a1 : Int32} {a2 : Int32}  (hN : 49999 < N) (f_0 : NZ n_a3 w3_size) (h_w3_size : RB 0 6 w3_size) (h_w3_house : RA 0 5 w3_house) (h_w3_night : RA 0 40 w3_night) (h_a1 : RB 0 4 a1)  : Ok (fun r => True) (fX1_agrees N n_a3 w3_size w3_house v_track_0 v_track_1 v_track_2 v_track_3 v_track_4 w3_night w3_plot a1 a2) := by
  have fz_0 := f_0.le
  have fy_0 := f_0.2.1
  unfold fX1_agrees
  exact lX1_agrees_3  hN f_0 h_w3_size h_w3_house h_w3_night h_a1  _ (by grind)  (by grind)
theorem sX1_kindsByTracks_5 {N : Nat} {n_a2 : Nat} {w2_size : Int32} {w2_house : (Nat → Int32)} {v_track_0 : (Nat → Int32)} {v_track_1 : (Nat → Int32)} {v_track_2 : (Nat → Int32)} {v_track_3 : (Nat → Int32)} {v_track_4 : (Nat → Int32)} {w2_night : (Nat → Int32)} {w2_plot : (Nat → Int32)} {a1 : Int32} {K_5 : Int32 → Int32 → Option (Int32)} {l3 : Int32} {l4 : Int32}  {m_5 : Int32} (hN : 49999 < N) (f_0 : NZ n_a2 w2_size) (h_w2_size : RB 0 6 w2_size) (h_w2_house : RA 0 5 w2_house) (h_w2_night : RA 0 40 w2_night) (hK_5 : ∀ (l3 : Int32) (l4 : Int32), 0 ≤ l4 → ((5 : Int32) - l4) < m_5 → 0 < m_5 → Ok (fun r => True) (K_5 l3 l4)) (hI : 0 ≤ l4) (hm_5 : ((5 : Int32) - l4) = m_5) : Ok (fun r => True) (fX1_kindsByTracks_5 N n_a2 w2_size w2_house v_track_0 v_track_1 v_track_2 v_track_3 v_track_4 w2_night w2_plot a1 K_5 l3 l4) := by
  have h_l4 := hI
  have fz_0 := f_0.le
  have fy_0 := f_0.2.1
  unfold fX1_kindsByTracks_5
  refine ok_if (fun c_1 => ?_) (fun c_1 => ?_)
  · exact ok_s trivial
  · refine ok_b (tX1_agrees hN f_0 h_w2_size h_w2_house h_w2_night (by clear hm_5 hK_5; grind)) (fun x_16 hx => ?_)
    refine ok_if (fun c_2 => ?_) (fun c_2 => ?_)
    · exact hK_5 _ _ (by clear hm_5 hK_5; grind) (by clear hK_5; grind) (by clear hK_5; grind)
    · exact hK_5 _ _ (by clear hm_5 hK_5; grind) (by clear hK_5; grind) (by clear hK_5; grind)
theorem lX1_kindsByTracks_5 {N : Nat} {n_a2 : Nat} {w2_size : Int32} {w2_house : (Nat → Int32)} {v_track_0 : (Nat → Int32)} {v_track_1 : (Nat → Int32)} {v_track_2 : (Nat → Int32)} {v_track_3 : (Nat → Int32)} {v_track_4 : (Nat → Int32)} {w2_night : (Nat → Int32)} {w2_plot : (Nat → Int32)} {a1 : Int32}  (hN : 49999 < N) (f_0 : NZ n_a2 w2_size) (h_w2_size : RB 0 6 w2_size) (h_w2_house : RA 0 5 w2_house) (h_w2_night : RA 0 40 w2_night)  : ∀ (l3 : Int32) (l4 : Int32), 0 ≤ l4 → ((5 : Int32) - l4) ≤ 49999 → Ok (fun r => True) (lfix (fun (K : Int32 × Int32 → Option (Int32)) (a : Int32 × Int32) => fX1_kindsByTracks_5 N n_a2 w2_size w2_house v_track_0 v_track_1 v_track_2 v_track_3 v_track_4 w2_night w2_plot a1 (fun (l3 : Int32) (l4 : Int32) => K (l3, l4)) a.1 a.2) N (l3, l4)) := by
  intro l3 l4 hI hM
  exact ok_l (I := fun (a : Int32 × Int32) => (0 ≤ a.2)) (M := fun (a : Int32 × Int32) => ((5 : Int32) - a.2)) (fun K a hI hK => sX1_kindsByTracks_5  hN f_0 h_w2_size h_w2_house h_w2_night  (fun l3 l4 hI2  hlt hp => hK (l3, l4) hI2 hlt hp) hI  rfl) N _ hI hN hM
theorem tX1_kindsByTracks {N : Nat} {n_a2 : Nat} {w2_size : Int32} {w2_house : (Nat → Int32)} {v_track_0 : (Nat → Int32)} {v_track_1 : (Nat → Int32)} {v_track_2 : (Nat → Int32)} {v_track_3 : (Nat → Int32)} {v_track_4 : (Nat → Int32)} {w2_night : (Nat → Int32)} {w2_plot : (Nat → Int32)} {a1 : Int32}  (hN : 49999 < N) (f_0 : NZ n_a2 w2_size) (h_w2_size : RB 0 6 w2_size) (h_w2_house : RA 0 5 w2_house) (h_w2_night : RA 0 40 w2_night)  : Ok (fun r => True) (fX1_kindsByTracks N n_a2 w2_size w2_house v_track_0 v_track_1 v_track_2 v_track_3 v_track_4 w2_night w2_plot a1) := by
  have fz_0 := f_0.le
  have fy_0 := f_0.2.1
  unfold fX1_kindsByTracks
  exact lX1_kindsByTracks_5  hN f_0 h_w2_size h_w2_house h_w2_night  _ _ (by grind)  (by grind)
theorem tX1_kindsOf {N : Nat} {w2_seen_size : Int32} {w2_seen_night : (Nat → Int32)} {w2_town_houses : Int32} {w2_town_front : Int32} {w2_town_downFor : Int32} {w2_town_kindOf : (Nat → Int32)} {w2_town_plotOf : (Nat → Int32)} {w2_town_row : (Nat → Int32)} {w2_town_standsOn : (Nat → Int32)} {w2_seen_house : (Nat → Int32)} {w2_seen_plot : (Nat → Int32)} {a1 : Int32} {v_town_houses : Int32} {v_town_front : Int32} {v_town_downFor : Int32} {v_town_kindOf : (Nat → Int32)} {v_town_plotOf : (Nat → Int32)} {v_town_row : (Nat → Int32)} {v_town_standsOn : (Nat → Int32)} {v_track_0 : (Nat → Int32)} {v_track_1 : (Nat → Int32)} {v_track_2 : (Nat → Int32)} {v_track_3 : (Nat → Int32)} {v_track_4 : (Nat → Int32)}  (hN : 49999 < N) (h_w2_seen_size : RB 0 6 w2_seen_size) (h_w2_seen_night : RA 0 40 w2_seen_night) (h_w2_town_houses : RB 1 6 w2_town_houses) (h_w2_town_front : RB 0 11 w2_town_front) (h_w2_town_plotOf : RA (-1) 11 w2_town_plotOf) (h_w2_town_row : RA 0 5 w2_town_row) (h_w2_town_standsOn : RA (-1) 5 w2_town_standsOn) (h_w2_seen_house : RA 0 5 w2_seen_house) (h_a1 : RB 0 5 a1) (h_v_town_houses : RB 0 6 v_town_houses) (h_v_town_front : RB 0 11 v_town_front) (h_v_town_plotOf : RA (-1) 11 v_town_plotOf) (h_v_town_row : RA 0 5 v_town_row) (h_v_town_standsOn : RA (-1) 5 v_town_standsOn)  : Ok (fun r => RB 0 6 r.2.1 ∧ RB 0 11 r.2.2.1 ∧ RA (-1) 11 r.2.2.2.2.2.1 ∧ RA 0 5 r.2.2.2.2.2.2.1 ∧ RA (-1) 5 r.2.2.2.2.2.2.2.1) (fX1_kindsOf N w2_seen_size w2_seen_night w2_town_houses w2_town_front w2_town_downFor w2_town_kindOf w2_town_plotOf w2_town_row w2_town_standsOn w2_seen_house w2_seen_plot a1 v_town_houses v_town_front v_town_downFor v_town_kindOf v_town_plotOf v_town_row v_town_standsOn v_track_0 v_track_1 v_track_2 v_track_3 v_track_4) := by
  unfold fX1_kindsOf
  refine ok_b (tX2_lastNight hN (nz6 (by grind)) h_w2_seen_night) (fun x_10 hx => ?_)
  have h_x_10_0 := hx
  refine ok_b (tX1_follow hN h_w2_town_houses h_w2_town_front h_w2_town_plotOf h_w2_town_row h_w2_town_standsOn h_a1 h_x_10_0 h_v_town_houses h_v_town_front h_v_town_plotOf h_v_town_row h_v_town_standsOn) (fun x_13 hx => ?_)
  obtain ⟨h_x_13_0, h_x_13_1, h_x_13_2, h_x_13_3, h_x_13_4⟩ := hx
  refine ok_b (tX1_kindsByTracks hN (nz6 (by grind)) h_w2_seen_size h_w2_seen_house h_w2_seen_night) (fun x_22 hx => ?_)
  exact ok_s ⟨h_x_13_0, h_x_13_1, h_x_13_2, h_x_13_3, h_x_13_4⟩
theorem tX1_has {N : Nat} {a0 : Int32} {a1 : Int32}  (hN : 49999 < N)   : Ok (fun r => True) (fX1_has N a0 a1) := by
  unfold fX1_has
  refine ok_if (fun c_1 => ?_) (fun c_1 => ?_)
  · exact ok_s trivial
  · exact ok_s trivial
theorem sX1_seenAlike_6 {N : Nat} {v_track_0 : (Nat → Int32)} {v_track_1 : (Nat → Int32)} {v_track_2 : (Nat → Int32)} {v_track_3 : (Nat → Int32)} {v_track_4 : (Nat → Int32)} {a1 : Int32} {a2 : Int32} {a3 : Int32} {K_6 : Int32 → Int32 → Option (Int32)} {l4 : Int32} {l5 : Int32}  {m_6 : Int32} (hN : 49999 < N) (h_a2 : RB 0 4 a2) (h_a3 : RB 0 40 a3) (hK_6 : ∀ (l4 : Int32) (l5 : Int32), 0 ≤ l5 → ((5 : Int32) - l5) < m_6 → 0 < m_6 → Ok (fun r => True) (K_6 l4 l5)) (hI : 0 ≤ l5) (hm_6 : ((5 : Int32) - l5) = m_6) : Ok (fun r => True) (fX1_seenAlike_6 N v_track_0 v_track_1 v_track_2 v_track_3 v_track_4 a1 a2 a3 K_6 l4 l5) := by
  have h_l5 := hI
  unfold fX1_seenAlike_6
  refine ok_if (fun c_1 => ?_) (fun c_1 => ?_)
  · exact ok_s trivial
  · refine ok_b (tX1_has hN ) (fun x_15 hx => ?_)
    refine ok_if (fun c_2 => ?_) (fun c_2 => ?_)
    · exact hK_6 _ _ (by clear hm_6 hK_6; grind) (by clear hK_6; grind) (by clear hK_6; grind)
    · refine ok_g (ng5 (by clear hm_6 hK_6; grind)) ?_
      refine ok_if (fun c_3 => ?_) (fun c_3 => ?_)
      · refine ok_g (ng41 (by clear hm_6 hK_6; grind)) ?_
        refine ok_g (ng5 (by clear hm_6 hK_6; grind)) ?_
        refine ok_if (fun c_4 => ?_) (fun c_4 => ?_)
        · refine ok_g (ng41 (by clear hm_6 hK_6; grind)) ?_
          refine ok_if (fun c_5 => ?_) (fun c_5 => ?_)
          · exact hK_6 _ _ (by clear hm_6 hK_6; grind) (by clear hK_6; grind) (by clear hK_6; grind)
          · exact hK_6 _ _ (by clear hm_6 hK_6; grind) (by clear hK_6; grind) (by clear hK_6; grind)
        · refine ok_if (fun c_6 => ?_) (fun c_6 => ?_)
          · refine ok_g (ng41 (by clear hm_6 hK_6; grind)) ?_
            refine ok_if (fun c_7 => ?_) (fun c_7 => ?_)
            · exact hK_6 _ _ (by clear hm_6 hK_6; grind) (by clear hK_6; grind) (by clear hK_6; grind)
            · exact hK_6 _ _ (by clear hm_6 hK_6; grind) (by clear hK_6; grind) (by clear hK_6; grind)
          · refine ok_if (fun c_8 => ?_) (fun c_8 => ?_)
            · refine ok_g (ng41 (by clear hm_6 hK_6; grind)) ?_
              refine ok_if (fun c_9 => ?_) (fun c_9 => ?_)
              · exact hK_6 _ _ (by clear hm_6 hK_6; grind) (by clear hK_6; grind) (by clear hK_6; grind)
              · exact hK_6 _ _ (by clear hm_6 hK_6; grind) (by clear hK_6; grind) (by clear hK_6; grind)
            · refine ok_if (fun c_10 => ?_) (fun c_10 => ?_)
              · refine ok_g (ng41 (by clear hm_6 hK_6; grind)) ?_
                refine ok_if (fun c_11 => ?_) (fun c_11 => ?_)
                · exact hK_6 _ _ (by clear hm_6 hK_6; grind) (by clear hK_6; grind) (by clear hK_6; grind)
                · exact hK_6 _ _ (by clear hm_6 hK_6; grind) (by clear hK_6; grind) (by clear hK_6; grind)
              · refine ok_n (by clear hm_6 hK_6; grind) ?_
                refine ok_g (ng41 (by clear hm_6 hK_6; grind)) ?_
                refine ok_if (fun c_12 => ?_) (fun c_12 => ?_)
                · exact hK_6 _ _ (by clear hm_6 hK_6; grind) (by clear hK_6; grind) (by clear hK_6; grind)
                · exact hK_6 _ _ (by clear hm_6 hK_6; grind) (by clear hK_6; grind) (by clear hK_6; grind)
      · refine ok_if (fun c_13 => ?_) (fun c_13 => ?_)
        · refine ok_g (ng41 (by clear hm_6 hK_6; grind)) ?_
          refine ok_g (ng5 (by clear hm_6 hK_6; grind)) ?_
          refine ok_if (fun c_14 => ?_) (fun c_14 => ?_)
          · refine ok_g (ng41 (by clear hm_6 hK_6; grind)) ?_
            refine ok_if (fun c_15 => ?_) (fun c_15 => ?_)
            · exact hK_6 _ _ (by clear hm_6 hK_6; grind) (by clear hK_6; grind) (by clear hK_6; grind)
            · exact hK_6 _ _ (by clear hm_6 hK_6; grind) (by clear hK_6; grind) (by clear hK_6; grind)
          · refine ok_if (fun c_16 => ?_) (fun c_16 => ?_)
            · refine ok_g (ng41 (by clear hm_6 hK_6; grind)) ?_
              refine ok_if (fun c_17 => ?_) (fun c_17 => ?_)
              · exact hK_6 _ _ (by clear hm_6 hK_6; grind) (by clear hK_6; grind) (by clear hK_6; grind)
              · exact hK_6 _ _ (by clear hm_6 hK_6; grind) (by clear hK_6; grind) (by clear hK_6; grind)
            · refine ok_if (fun c_18 => ?_) (fun c_18 => ?_)
              · refine ok_g (ng41 (by clear hm_6 hK_6; grind)) ?_
                refine ok_if (fun c_19 => ?_) (fun c_19 => ?_)
                · exact hK_6 _ _ (by clear hm_6 hK_6; grind) (by clear hK_6; grind) (by clear hK_6; grind)
                · exact hK_6 _ _ (by clear hm_6 hK_6; grind) (by clear hK_6; grind) (by clear hK_6; grind)
              · refine ok_if (fun c_20 => ?_) (fun c_20 => ?_)
                · refine ok_g (ng41 (by clear hm_6 hK_6; grind)) ?_
                  refine ok_if (fun c_21 => ?_) (fun c_21 => ?_)
                  · exact hK_6 _ _ (by clear hm_6 hK_6; grind) (by clear hK_6; grind) (by clear hK_6; grind)
                  · exact hK_6 _ _ (by clear hm_6 hK_6; grind) (by clear hK_6; grind) (by clear hK_6; grind)
                · refine ok_n (by clear hm_6 hK_6; grind) ?_
                  refine ok_g (ng41 (by clear hm_6 hK_6; grind)) ?_
                  refine ok_if (fun c_22 => ?_) (fun c_22 => ?_)
                  · exact hK_6 _ _ (by clear hm_6 hK_6; grind) (by clear hK_6; grind) (by clear hK_6; grind)
                  · exact hK_6 _ _ (by clear hm_6 hK_6; grind) (by clear hK_6; grind) (by clear hK_6; grind)
        · refine ok_if (fun c_23 => ?_) (fun c_23 => ?_)
          · refine ok_g (ng41 (by clear hm_6 hK_6; grind)) ?_
            refine ok_g (ng5 (by clear hm_6 hK_6; grind)) ?_
            refine ok_if (fun c_24 => ?_) (fun c_24 => ?_)
            · refine ok_g (ng41 (by clear hm_6 hK_6; grind)) ?_
              refine ok_if (fun c_25 => ?_) (fun c_25 => ?_)
              · exact hK_6 _ _ (by clear hm_6 hK_6; grind) (by clear hK_6; grind) (by clear hK_6; grind)
              · exact hK_6 _ _ (by clear hm_6 hK_6; grind) (by clear hK_6; grind) (by clear hK_6; grind)
            · refine ok_if (fun c_26 => ?_) (fun c_26 => ?_)
              · refine ok_g (ng41 (by clear hm_6 hK_6; grind)) ?_
                refine ok_if (fun c_27 => ?_) (fun c_27 => ?_)
                · exact hK_6 _ _ (by clear hm_6 hK_6; grind) (by clear hK_6; grind) (by clear hK_6; grind)
                · exact hK_6 _ _ (by clear hm_6 hK_6; grind) (by clear hK_6; grind) (by clear hK_6; grind)
              · refine ok_if (fun c_28 => ?_) (fun c_28 => ?_)
                · refine ok_g (ng41 (by clear hm_6 hK_6; grind)) ?_
                  refine ok_if (fun c_29 => ?_) (fun c_29 => ?_)
                  · exact hK_6 _ _ (by clear hm_6 hK_6; grind) (by clear hK_6; grind) (by clear hK_6; grind)
                  · exact hK_6 _ _ (by clear hm_6 hK_6; grind) (by clear hK_6; grind) (by clear hK_6; grind)
                · refine ok_if (fun c_30 => ?_) (fun c_30 => ?_)
                  · refine ok_g (ng41 (by clear hm_6 hK_6; grind)) ?_
                    refine ok_if (fun c_31 => ?_) (fun c_31 => ?_)
                    · exact hK_6 _ _ (by clear hm_6 hK_6; grind) (by clear hK_6; grind) (by clear hK_6; grind)
                    · exact hK_6 _ _ (by clear hm_6 hK_6; grind) (by clear hK_6; grind) (by clear hK_6; grind)
                  · refine ok_n (by clear hm_6 hK_6; grind) ?_
                    refine ok_g (ng41 (by clear hm_6 hK_6; grind)) ?_
                    refine ok_if (fun c_32 => ?_) (fun c_32 => ?_)
                    · exact hK_6 _ _ (by clear hm_6 hK_6; grind) (by clear hK_6; grind) (by clear hK_6; grind)
                    · exact hK_6 _ _ (by clear hm_6 hK_6; grind) (by clear hK_6; grind) (by clear hK_6; grind)
          · refine ok_if (fun c_33 => ?_) (fun c_33 => ?_)
            · refine ok_g (ng41 (by clear hm_6 hK_6; grind)) ?_
              refine ok_g (ng5 (by clear hm_6 hK_6; grind)) ?_
              refine ok_if (fun c_34 => ?_) (fun c_34 => ?_)
              · refine ok_g (ng41 (by clear hm_6 hK_6; grind)) ?_
                refine ok_if (fun c_35 => ?_) (fun c_35 => ?_)
                · exact hK_6 _ _ (by clear hm_6 hK_6; grind) (by clear hK_6; grind) (by clear hK_6; grind)
                · exact hK_6 _ _ (by clear hm_6 hK_6; grind) (by clear hK_6; grind) (by clear hK_6; grind)
              · refine ok_if (fun c_36 => ?_) (fun c_36 => ?_)
                · refine ok_g (ng41 (by clear hm_6 hK_6; grind)) ?_
                  refine ok_if (fun c_37 => ?_) (fun c_37 => ?_)
                  · exact hK_6 _ _ (by clear hm_6 hK_6; grind) (by clear hK_6; grind) (by clear hK_6; grind)
                  · exact hK_6 _ _ (by clear hm_6 hK_6; grind) (by clear hK_6; grind) (by clear hK_6; grind)
                · refine ok_if (fun c_38 => ?_) (fun c_38 => ?_)
                  · refine ok_g (ng41 (by clear hm_6 hK_6; grind)) ?_
                    refine ok_if (fun c_39 => ?_) (fun c_39 => ?_)
                    · exact hK_6 _ _ (by clear hm_6 hK_6; grind) (by clear hK_6; grind) (by clear hK_6; grind)
                    · exact hK_6 _ _ (by clear hm_6 hK_6; grind) (by clear hK_6; grind) (by clear hK_6; grind)
                  · refine ok_if (fun c_40 => ?_) (fun c_40 => ?_)
                    · refine ok_g (ng41 (by clear hm_6 hK_6; grind)) ?_
                      refine ok_if (fun c_41 => ?_) (fun c_41 => ?_)
                      · exact hK_6 _ _ (by clear hm_6 hK_6; grind) (by clear hK_6; grind) (by clear hK_6; grind)
                      · exact hK_6 _ _ (by clear hm_6 hK_6; grind) (by clear hK_6; grind) (by clear hK_6; grind)
                    · refine ok_n (by clear hm_6 hK_6; grind) ?_
                      refine ok_g (ng41 (by clear hm_6 hK_6; grind)) ?_
                      refine ok_if (fun c_42 => ?_) (fun c_42 => ?_)
                      · exact hK_6 _ _ (by clear hm_6 hK_6; grind) (by clear hK_6; grind) (by clear hK_6; grind)
                      · exact hK_6 _ _ (by clear hm_6 hK_6; grind) (by clear hK_6; grind) (by clear hK_6; grind)
            · refine ok_n (by clear hm_6 hK_6; grind) ?_
              refine ok_g (ng41 (by clear hm_6 hK_6; grind)) ?_
              refine ok_g (ng5 (by clear hm_6 hK_6; grind)) ?_
              refine ok_if (fun c_43 => ?_) (fun c_43 => ?_)
              · refine ok_g (ng41 (by clear hm_6 hK_6; grind)) ?_
                refine ok_if (fun c_44 => ?_) (fun c_44 => ?_)
                · exact hK_6 _ _ (by clear hm_6 hK_6; grind) (by clear hK_6; grind) (by clear hK_6; grind)
                · exact hK_6 _ _ (by clear hm_6 hK_6; grind) (by clear hK_6; grind) (by clear hK_6; grind)
              · refine ok_if (fun c_45 => ?_) (fun c_45 => ?_)
                · refine ok_g (ng41 (by clear hm_6 hK_6; grind)) ?_
                  refine ok_if (fun c_46 => ?_) (fun c_46 => ?_)
                  · exact hK_6 _ _ (by clear hm_6 hK_6; grind) (by clear hK_6; grind) (by clear hK_6; grind)
                  · exact hK_6 _ _ (by clear hm_6 hK_6; grind) (by clear hK_6; grind) (by clear hK_6; grind)
                · refine ok_if (fun c_47 => ?_) (fun c_47 => ?_)
                  · refine ok_g (ng41 (by clear hm_6 hK_6; grind)) ?_
                    refine ok_if (fun c_48 => ?_) (fun c_48 => ?_)
                    · exact hK_6 _ _ (by clear hm_6 hK_6; grind) (by clear hK_6; grind) (by clear hK_6; grind)
                    · exact hK_6 _ _ (by clear hm_6 hK_6; grind) (by clear hK_6; grind) (by clear hK_6; grind)
                  · refine ok_if (fun c_49 => ?_) (fun c_49 => ?_)
                    · refine ok_g (ng41 (by clear hm_6 hK_6; grind)) ?_
                      refine ok_if (fun c_50 => ?_) (fun c_50 => ?_)
                      · exact hK_6 _ _ (by clear hm_6 hK_6; grind) (by clear hK_6; grind) (by clear hK_6; grind)
                      · exact hK_6 _ _ (by clear hm_6 hK_6; grind) (by clear hK_6; grind) (by clear hK_6; grind)
                    · refine ok_n (by clear hm_6 hK_6; grind) ?_
                      refine ok_g (ng41 (by clear hm_6 hK_6; grind)) ?_
                      refine ok_if (fun c_51 => ?_) (fun c_51 => ?_)
                      · exact hK_6 _ _ (by clear hm_6 hK_6; grind) (by clear hK_6; grind) (by clear hK_6; grind)
                      · exact hK_6 _ _ (by clear hm_6 hK_6; grind) (by clear hK_6; grind) (by clear hK_6; grind)
theorem lX1_seenAlike_6 {N : Nat} {v_track_0 : (Nat → Int32)} {v_track_1 : (Nat → Int32)} {v_track_2 : (Nat → Int32)} {v_track_3 : (Nat → Int32)} {v_track_4 : (Nat → Int32)} {a1 : Int32} {a2 : Int32} {a3 : Int32}  (hN : 49999 < N) (h_a2 : RB 0 4 a2) (h_a3 : RB 0 40 a3)  : ∀ (l4 : Int32) (l5 : Int32), 0 ≤ l5 → ((5 : Int32) - l5) ≤ 49999 → Ok (fun r => True) (lfix (fun (K : Int32 × Int32 → Option (Int32)) (a : Int32 × Int32) => fX1_seenAlike_6 N v_track_0 v_track_1 v_track_2 v_track_3 v_track_4 a1 a2 a3 (fun (l4 : Int32) (l5 : Int32) => K (l4, l5)) a.1 a.2) N (l4, l5)) := by
  intro l4 l5 hI hM
  exact ok_l (I := fun (a : Int32 × Int32) => (0 ≤ a.2)) (M := fun (a : Int32 × Int32) => ((5 : Int32) - a.2)) (fun K a hI hK => sX1_seenAlike_6  hN h_a2 h_a3  (fun l4 l5 hI2  hlt hp => hK (l4, l5) hI2 hlt hp) hI  rfl) N _ hI hN hM
theorem tX1_seenAlike {N : Nat} {v_track_0 : (Nat → Int32)} {v_track_1 : (Nat → Int32)} {v_track_2 : (Nat → Int32)} {v_track_3 : (Nat → Int32)} {v_track_4 : (Nat → Int32)} {a1 : Int32} {a2 : Int32} {a3 : Int32}  (hN : 49999 < N) (h_a2 : RB 0 4 a2) (h_a3 : RB 0 40 a3)  : Ok (fun r => True) (fX1_seenAlike N v_track_0 v_track_1 v_track_2 v_track_3 v_track_4 a1 a2 a3) := by
  unfold fX1_seenAlike
  exact lX1_seenAlike_6  hN h_a2 h_a3  _ _ (by grind)  (by grind)
theorem sX1_leftAtWorst_5 {N : Nat} {v_track_0 : (Nat → Int32)} {v_track_1 : (Nat → Int32)} {v_track_2 : (Nat → Int32)} {v_track_3 : (Nat → Int32)} {v_track_4 : (Nat → Int32)} {a1 : Int32} {a2 : Int32} {K_5 : Int32 → Int32 → Option (Int32)} {l3 : Int32} {l4 : Int32}  {m_5 : Int32} (hN : 49999 < N) (h_a2 : RB 0 40 a2) (hK_5 : ∀ (l3 : Int32) (l4 : Int32), 0 ≤ l4 → ((5 : Int32) - l4) < m_5 → 0 < m_5 → Ok (fun r => True) (K_5 l3 l4)) (hI : 0 ≤ l4) (hm_5 : ((5 : Int32) - l4) = m_5) : Ok (fun r => True) (fX1_leftAtWorst_5 N v_track_0 v_track_1 v_track_2 v_track_3 v_track_4 a1 a2 K_5 l3 l4) := by
  have h_l4 := hI
  unfold fX1_leftAtWorst_5
  refine ok_if (fun c_1 => ?_) (fun c_1 => ?_)
  · exact ok_s trivial
  · refine ok_b (tX1_has hN ) (fun x_14 hx => ?_)
    refine ok_if (fun c_2 => ?_) (fun c_2 => ?_)
    · exact hK_5 _ _ (by clear hm_5 hK_5; grind) (by clear hK_5; grind) (by clear hK_5; grind)
    · refine ok_b (tX1_seenAlike hN (by clear hm_5 hK_5; grind) h_a2) (fun x_26 hx => ?_)
      exact hK_5 _ _ (by clear hm_5 hK_5; grind) (by clear hK_5; grind) (by clear hK_5; grind)
theorem lX1_leftAtWorst_5 {N : Nat} {v_track_0 : (Nat → Int32)} {v_track_1 : (Nat → Int32)} {v_track_2 : (Nat → Int32)} {v_track_3 : (Nat → Int32)} {v_track_4 : (Nat → Int32)} {a1 : Int32} {a2 : Int32}  (hN : 49999 < N) (h_a2 : RB 0 40 a2)  : ∀ (l3 : Int32) (l4 : Int32), 0 ≤ l4 → ((5 : Int32) - l4) ≤ 49999 → Ok (fun r => True) (lfix (fun (K : Int32 × Int32 → Option (Int32)) (a : Int32 × Int32) => fX1_leftAtWorst_5 N v_track_0 v_track_1 v_track_2 v_track_3 v_track_4 a1 a2 (fun (l3 : Int32) (l4 : Int32) => K (l3, l4)) a.1 a.2) N (l3, l4)) := by
  intro l3 l4 hI hM
  exact ok_l (I := fun (a : Int32 × Int32) => (0 ≤ a.2)) (M := fun (a : Int32 × Int32) => ((5 : Int32) - a.2)) (fun K a hI hK => sX1_leftAtWorst_5  hN h_a2  (fun l3 l4 hI2  hlt hp => hK (l3, l4) hI2 hlt hp) hI  rfl) N _ hI hN hM
theorem tX1_leftAtWorst {N : Nat} {v_track_0 : (Nat → Int32)} {v_track_1 : (Nat → Int32)} {v_track_2 : (Nat → Int32)} {v_track_3 : (Nat → Int32)} {v_track_4 : (Nat → Int32)} {a1 : Int32} {a2 : Int32}  (hN : 49999 < N) (h_a2 : RB 0 40 a2)  : Ok (fun r => True) (fX1_leftAtWorst N v_track_0 v_track_1 v_track_2 v_track_3 v_track_4 a1 a2) := by
  unfold fX1_leftAtWorst
  exact lX1_leftAtWorst_5  hN h_a2  _ _ (by grind)  (by grind)
theorem sX1_nightToLook_37 {N : Nat} {w2_town_houses : Int32} {w2_town_front : Int32} {w2_town_downFor : Int32} {w2_town_kindOf : (Nat → Int32)} {w2_town_plotOf : (Nat → Int32)} {w2_town_row : (Nat → Int32)} {w2_town_standsOn : (Nat → Int32)} {w2_seen_size : Int32} {w2_seen_house : (Nat → Int32)} {w2_seen_night : (Nat → Int32)} {w2_seen_plot : (Nat → Int32)} {a1 : Int32} {K_37 : Int32 → Int32 → Int32 → Int32 → Int32 → Int32 → Int32 → (Nat → Int32) → (Nat → Int32) → (Nat → Int32) → (Nat → Int32) → (Nat → Int32) → (Nat → Int32) → (Nat → Int32) → (Nat → Int32) → (Nat → Int32) → Option (Int32 × Int32 × Int32 × Int32 × (Nat → Int32) × (Nat → Int32) × (Nat → Int32) × (Nat → Int32) × (Nat → Int32) × (Nat → Int32) × (Nat → Int32) × (Nat → Int32) × (Nat → Int32))} {l3 : Int32} {l4 : Int32} {l5 : Int32} {l6 : Int32} {v_town_houses : Int32} {v_town_front : Int32} {v_town_downFor : Int32} {v_town_kindOf : (Nat → Int32)} {v_town_plotOf : (Nat → Int32)} {v_town_row : (Nat → Int32)} {v_town_standsOn : (Nat → Int32)} {v_track_0 : (Nat → Int32)} {v_track_1 : (Nat → Int32)} {v_track_2 : (Nat → Int32)} {v_track_3 : (Nat → Int32)} {v_track_4 : (Nat → Int32)}  {m_37 : Int32} (hN : 49999 < N) (h_w2_town_houses : RB 1 6 w2_town_houses) (h_w2_town_front : RB 0 11 w2_town_front) (h_w2_town_plotOf : RA (-1) 11 w2_town_plotOf) (h_w2_town_row : RA 0 5 w2_town_row) (h_w2_town_standsOn : RA (-1) 5 w2_town_standsOn) (h_w2_seen_size : RB 0 6 w2_seen_size) (h_w2_seen_house : RA 0 5 w2_seen_house) (h_w2_seen_night : RA 0 40 w2_seen_night) (h_a1 : RB 0 5 a1) (hK_37 : ∀ (l3 : Int32) (l4 : Int32) (l5 : Int32) (l6 : Int32) (v_town_houses : Int32) (v_town_front : Int32) (v_town_downFor : Int32) (v_town_kindOf : (Nat → Int32)) (v_town_plotOf : (Nat → Int32)) (v_town_row : (Nat → Int32)) (v_town_standsOn : (Nat → Int32)) (v_track_0 : (Nat → Int32)) (v_track_1 : (Nat → Int32)) (v_track_2 : (Nat → Int32)) (v_track_3 : (Nat → Int32)) (v_track_4 : (Nat → Int32)), RB 0 6 v_town_houses ∧ RB 0 11 v_town_front ∧ RA (-1) 11 v_town_plotOf ∧ RA 0 5 v_town_row ∧ RA (-1) 5 v_town_standsOn ∧ 0 ≤ l6 → ((40 : Int32) + 1 - l6) < m_37 → 0 < m_37 → Ok (fun r => RB 0 6 r.2.1 ∧ RB 0 11 r.2.2.1 ∧ RA (-1) 11 r.2.2.2.2.2.1 ∧ RA 0 5 r.2.2.2.2.2.2.1 ∧ RA (-1) 5 r.2.2.2.2.2.2.2.1) (K_37 l3 l4 l5 l6 v_town_houses v_town_front v_town_downFor v_town_kindOf v_town_plotOf v_town_row v_town_standsOn v_track_0 v_track_1 v_track_2 v_track_3 v_track_4)) (hI : RB 0 6 v_town_houses ∧ RB 0 11 v_town_front ∧ RA (-1) 11 v_town_plotOf ∧ RA 0 5 v_town_row ∧ RA (-1) 5 v_town_standsOn ∧ 0 ≤ l6) (hm_37 : ((40 : Int32) + 1 - l6) = m_37) : Ok (fun r => RB 0 6 r.2.1 ∧ RB 0 11 r.2.2.1 ∧ RA (-1) 11 r.2.2.2.2.2.1 ∧ RA 0 5 r.2.2.2.2.2.2.1 ∧ RA (-1) 5 r.2.2.2.2.2.2.2.1) (fX1_nightToLook_37 N w2_town_houses w2_town_front w2_town_downFor w2_town_kindOf w2_town_plotOf w2_town_row w2_town_standsOn w2_seen_size w2_seen_house w2_seen_night w2_seen_plot a1 K_37 l3 l4 l5 l6 v_town_houses v_town_front v_town_downFor v_town_kindOf v_town_plotOf v_town_row v_town_standsOn v_track_0 v_track_1 v_track_2 v_track_3 v_track_4) := by
  obtain ⟨h_v_town_houses, h_v_town_front, h_v_town_plotOf, h_v_town_row, h_v_town_standsOn, h_l6⟩ := hI
  unfold fX1_nightToLook_37
  refine ok_if (fun c_1 => ?_) (fun c_1 => ?_)
  · exact ok_s ⟨h_v_town_houses, h_v_town_front, h_v_town_plotOf, h_v_town_row, h_v_town_standsOn⟩
  · refine ok_b (tX1_leftAtWorst hN (by clear hm_37 hK_37; grind)) (fun x_48 hx => ?_)
    refine ok_if (fun c_2 => ?_) (fun c_2 => ?_)
    · exact hK_37 _ _ _ _ _ _ _ _ _ _ _ _ _ _ _ _ ⟨h_v_town_houses, h_v_town_front, h_v_town_plotOf, h_v_town_row, h_v_town_standsOn, (by clear hm_37 hK_37; grind)⟩ (by clear hK_37; grind) (by clear hK_37; grind)
    · exact hK_37 _ _ _ _ _ _ _ _ _ _ _ _ _ _ _ _ ⟨h_v_town_houses, h_v_town_front, h_v_town_plotOf, h_v_town_row, h_v_town_standsOn, (by clear hm_37 hK_37; grind)⟩ (by clear hK_37; grind) (by clear hK_37; grind)
theorem lX1_nightToLook_37 {N : Nat} {w2_town_houses : Int32} {w2_town_front : Int32} {w2_town_downFor : Int32} {w2_town_kindOf : (Nat → Int32)} {w2_town_plotOf : (Nat → Int32)} {w2_town_row : (Nat → Int32)} {w2_town_standsOn : (Nat → Int32)} {w2_seen_size : Int32} {w2_seen_house : (Nat → Int32)} {w2_seen_night : (Nat → Int32)} {w2_seen_plot : (Nat → Int32)} {a1 : Int32}  (hN : 49999 < N) (h_w2_town_houses : RB 1 6 w2_town_houses) (h_w2_town_front : RB 0 11 w2_town_front) (h_w2_town_plotOf : RA (-1) 11 w2_town_plotOf) (h_w2_town_row : RA 0 5 w2_town_row) (h_w2_town_standsOn : RA (-1) 5 w2_town_standsOn) (h_w2_seen_size : RB 0 6 w2_seen_size) (h_w2_seen_house : RA 0 5 w2_seen_house) (h_w2_seen_night : RA 0 40 w2_seen_night) (h_a1 : RB 0 5 a1)  : ∀ (l3 : Int32) (l4 : Int32) (l5 : Int32) (l6 : Int32) (v_town_houses : Int32) (v_town_front : Int32) (v_town_downFor : Int32) (v_town_kindOf : (Nat → Int32)) (v_town_plotOf : (Nat → Int32)) (v_town_row : (Nat → Int32)) (v_town_standsOn : (Nat → Int32)) (v_track_0 : (Nat → Int32)) (v_track_1 : (Nat → Int32)) (v_track_2 : (Nat → Int32)) (v_track_3 : (Nat → Int32)) (v_track_4 : (Nat → Int32)), RB 0 6 v_town_houses ∧ RB 0 11 v_town_front ∧ RA (-1) 11 v_town_plotOf ∧ RA 0 5 v_town_row ∧ RA (-1) 5 v_town_standsOn ∧ 0 ≤ l6 → ((40 : Int32) + 1 - l6) ≤ 49999 → Ok (fun r => RB 0 6 r.2.1 ∧ RB 0 11 r.2.2.1 ∧ RA (-1) 11 r.2.2.2.2.2.1 ∧ RA 0 5 r.2.2.2.2.2.2.1 ∧ RA (-1) 5 r.2.2.2.2.2.2.2.1) (lfix (fun (K : Int32 × Int32 × Int32 × Int32 × Int32 × Int32 × Int32 × (Nat → Int32) × (Nat → Int32) × (Nat → Int32) × (Nat → Int32) × (Nat → Int32) × (Nat → Int32) × (Nat → Int32) × (Nat → Int32) × (Nat → Int32) → Option (Int32 × Int32 × Int32 × Int32 × (Nat → Int32) × (Nat → Int32) × (Nat → Int32) × (Nat → Int32) × (Nat → Int32) × (Nat → Int32) × (Nat → Int32) × (Nat → Int32) × (Nat → Int32))) (a : Int32 × Int32 × Int32 × Int32 × Int32 × Int32 × Int32 × (Nat → Int32) × (Nat → Int32) × (Nat → Int32) × (Nat → Int32) × (Nat → Int32) × (Nat → Int32) × (Nat → Int32) × (Nat → Int32) × (Nat → Int32)) => fX1_nightToLook_37 N w2_town_houses w2_town_front w2_town_downFor w2_town_kindOf w2_town_plotOf w2_town_row w2_town_standsOn w2_seen_size w2_seen_house w2_seen_night w2_seen_plot a1 (fun (l3 : Int32) (l4 : Int32) (l5 : Int32) (l6 : Int32) (v_town_houses : Int32) (v_town_front : Int32) (v_town_downFor : Int32) (v_town_kindOf : (Nat → Int32)) (v_town_plotOf : (Nat → Int32)) (v_town_row : (Nat → Int32)) (v_town_standsOn : (Nat → Int32)) (v_track_0 : (Nat → Int32)) (v_track_1 : (Nat → Int32)) (v_track_2 : (Nat → Int32)) (v_track_3 : (Nat → Int32)) (v_track_4 : (Nat → Int32)) => K (l3, l4, l5, l6, v_town_houses, v_town_front, v_town_downFor, v_town_kindOf, v_town_plotOf, v_town_row, v_town_standsOn, v_track_0, v_track_1, v_track_2, v_track_3, v_track_4)) a.1 a.2.1 a.2.2.1 a.2.2.2.1 a.2.2.2.2.1 a.2.2.2.2.2.1 a.2.2.2.2.2.2.1 a.2.2.2.2.2.2.2.1 a.2.2.2.2.2.2.2.2.1 a.2.2.2.2.2.2.2.2.2.1 a.2.2.2.2.2.2.2.2.2.2.1 a.2.2.2.2.2.2.2.2.2.2.2.1 a.2.2.2.2.2.2.2.2.2.2.2.2.1 a.2.2.2.2.2.2.2.2.2.2.2.2.2.1 a.2.2.2.2.2.2.2.2.2.2.2.2.2.2.1 a.2.2.2.2.2.2.2.2.2.2.2.2.2.2.2) N (l3, l4, l5, l6, v_town_houses, v_town_front, v_town_downFor, v_town_kindOf, v_town_plotOf, v_town_row, v_town_standsOn, v_track_0, v_track_1, v_track_2, v_track_3, v_track_4)) := by
  intro l3 l4 l5 l6 v_town_houses v_town_front v_town_downFor v_town_kindOf v_town_plotOf v_town_row v_town_standsOn v_track_0 v_track_1 v_track_2 v_track_3 v_track_4 hI hM
  exact ok_l (I := fun (a : Int32 × Int32 × Int32 × Int32 × Int32 × Int32 × Int32 × (Nat → Int32) × (Nat → Int32) × (Nat → Int32) × (Nat → Int32) × (Nat → Int32) × (Nat → Int32) × (Nat → Int32) × (Nat → Int32) × (Nat → Int32)) => (RB 0 6 a.2.2.2.2.1 ∧ RB 0 11 a.2.2.2.2.2.1 ∧ RA (-1) 11 a.2.2.2.2.2.2.2.2.1 ∧ RA 0 5 a.2.2.2.2.2.2.2.2.2.1 ∧ RA (-1) 5 a.2.2.2.2.2.2.2.2.2.2.1 ∧ 0 ≤ a.2.2.2.1)) (M := fun (a : Int32 × Int32 × Int32 × Int32 × Int32 × Int32 × Int32 × (Nat → Int32) × (Nat → Int32) × (Nat → Int32) × (Nat → Int32) × (Nat → Int32) × (Nat → Int32) × (Nat → Int32) × (Nat → Int32) × (Nat → Int32)) => ((40 : Int32) + 1 - a.2.2.2.1)) (fun K a hI hK => sX1_nightToLook_37  hN h_w2_town_houses h_w2_town_front h_w2_town_plotOf h_w2_town_row h_w2_town_standsOn h_w2_seen_size h_w2_seen_house h_w2_seen_night h_a1  (fun l3 l4 l5 l6 v_town_houses v_town_front v_town_downFor v_town_kindOf v_town_plotOf v_town_row v_town_standsOn v_track_0 v_track_1 v_track_2 v_track_3 v_track_4 hI2  hlt hp => hK (l3, l4, l5, l6, v_town_houses, v_town_front, v_town_downFor, v_town_kindOf, v_town_plotOf, v_town_row, v_town_standsOn, v_track_0, v_track_1, v_track_2, v_track_3, v_track_4) hI2 hlt hp) hI  rfl) N _ hI hN hM
