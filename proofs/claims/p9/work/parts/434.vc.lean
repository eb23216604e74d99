theorem tX9_tellHouse {N : Nat} {v_houses : Int32} {v_front : Int32} {v_down : Int32} {v_seenMany : Int32} {v_plots : (Nat → Int32)} {v_likes : (Nat → Int32)} {v_row : (Nat → Int32)} {v_sights : (Nat → Int32)} {v_had : (Nat → Int32)} {a1 : Int32} {a2 : Int32} {v_frontThen : Int32} {v_downThen : Int32} {v_ringsMany : Int32} {v_traded : (Nat → Int32)} {v_points : (Nat → Int32)} {v_ringLong : (Nat → Int32)} {v_kinds : (Nat → Int32)} {v_plotsThen : (Nat → Int32)} {v_rowThen : (Nat → Int32)} {v_ways : (Nat → Int32)}  (hN : 49999 < N) (h_v_houses : RB 1 6 v_houses) (h_v_front : RB 0 11 v_front) (h_v_seenMany : RB 0 6 v_seenMany) (h_v_plots : RA (-1) 11 v_plots) (h_v_row : RA 0 5 v_row) (h_a1 : RB 0 5 a1) (h_v_frontThen : RB 0 11 v_frontThen) (h_v_points : RA 0 5 v_points) (h_v_plotsThen : RA (-1) 11 v_plotsThen) (h_v_rowThen : RA 0 5 v_rowThen) (e_0 : SG v_seenMany v_sights) (e_1 : SJ v_houses v_row) (e_2 : a1 < v_houses)  : Ok (fun r => RB 0 11 r.2.1 ∧ RA 0 5 r.2.2.2.2.2.1 ∧ RA (-1) 11 r.2.2.2.2.2.2.2.2.1 ∧ RA 0 5 r.2.2.2.2.2.2.2.2.2.1 ∧ (r.2.2.2.2.2.2.2.1 = v_kinds)) (fX9_tellHouse N v_houses v_front v_down v_seenMany v_plots v_likes v_row v_sights v_had a1 a2 v_frontThen v_downThen v_ringsMany v_traded v_points v_ringLong v_kinds v_plotsThen v_rowThen v_ways) := by
  unfold fX9_tellHouse
  refine ok_if (fun c_1 => ?_) (fun c_1 => ?_)
  · refine ok_g (ng6 (by grind)) ?_
    exact ok_s ⟨h_v_frontThen, h_v_points, h_v_plotsThen, h_v_rowThen, (by grind)⟩
  · refine ok_if (fun c_2 => ?_) (fun c_2 => ?_)
    · refine ok_g (ng6 (by grind)) ?_
      exact ok_s ⟨h_v_frontThen, h_v_points, h_v_plotsThen, h_v_rowThen, (by grind)⟩
    · refine ok_if (fun c_3 => ?_) (fun c_3 => ?_)
      · refine ok_g (ng6 (by grind)) ?_
        exact ok_s ⟨h_v_frontThen, h_v_points, h_v_plotsThen, h_v_rowThen, (by grind)⟩
      · refine ok_if (fun c_4 => ?_) (fun c_4 => ?_)
        · refine ok_b (tX9_placeOf hN h_v_row h_a1 (by obtain ⟨k, hk, e⟩ := e_1 a1 (by grind) (by grind); exact ⟨k, ⟨hk.1, by grind⟩, e⟩)) (fun x_71 hx => ?_)
          exact ok_s ⟨h_v_frontThen, h_v_points, h_v_plotsThen, h_v_rowThen, (by grind)⟩
        · refine ok_if (fun c_5 => ?_) (fun c_5 => ?_)
          · refine ok_g (ng6 (by grind)) ?_
            exact ok_s ⟨h_v_frontThen, h_v_points, h_v_plotsThen, h_v_rowThen, (by grind)⟩
          · refine ok_if (fun c_6 => ?_) (fun c_6 => ?_)
            · refine ok_b (tX9_kindsOf hN h_v_houses h_v_front h_v_seenMany h_v_plots h_v_row h_a1 h_v_frontThen h_v_plotsThen h_v_rowThen (by grind)) (fun x_84 hx => ?_)
              obtain ⟨h_x_84_0, h_x_84_1, h_x_84_2, h_x_84_3⟩ := hx
              exact ok_s ⟨h_x_84_0, h_v_points, h_x_84_1, h_x_84_2, (by grind)⟩
            · refine ok_if (fun c_7 => ?_) (fun c_7 => ?_)
              · refine ok_b (tX9_lookOf hN h_v_houses h_v_front h_v_seenMany h_v_plots h_v_row h_a1 h_v_frontThen h_v_plotsThen h_v_rowThen (by grind)) (fun x_90 hx => ?_)
                obtain ⟨h_x_90_0, h_x_90_1, h_x_90_2, h_x_90_3⟩ := hx
                exact ok_s ⟨h_x_90_0, h_v_points, h_x_90_1, h_x_90_2, (by grind)⟩
              · refine ok_if (fun c_8 => ?_) (fun c_8 => ?_)
                · refine ok_b (tX9_trade hN (by grind) h_v_plots h_v_points) (fun x_95 hx => ?_)
                  have h_x_95_0 := hx
                  refine ok_g (ng6 (by grind)) ?_
                  exact ok_s ⟨h_v_frontThen, h_x_95_0, h_v_plotsThen, h_v_rowThen, (by grind)⟩
                · exact ok_s ⟨h_v_frontThen, h_v_points, h_v_plotsThen, h_v_rowThen, (by grind)⟩
theorem tX9_house {N : Nat} {v_houses : Int32} {v_front : Int32} {v_down : Int32} {v_seenMany : Int32} {v_plots : (Nat → Int32)} {v_likes : (Nat → Int32)} {v_row : (Nat → Int32)} {v_sights : (Nat → Int32)} {v_had : (Nat → Int32)} {a1 : Int32} {a2 : Int32} {v_frontThen : Int32} {v_downThen : Int32} {v_ringsMany : Int32} {v_traded : (Nat → Int32)} {v_points : (Nat → Int32)} {v_ringLong : (Nat → Int32)} {v_kinds : (Nat → Int32)} {v_plotsThen : (Nat → Int32)} {v_rowThen : (Nat → Int32)} {v_ways : (Nat → Int32)}  (hN : 49999 < N) (h_v_houses : RB 0 6 v_houses) (h_v_front : RB 0 11 v_front) (h_v_seenMany : RB 0 6 v_seenMany) (h_v_plots : RA (-1) 11 v_plots) (h_v_row : RA 0 5 v_row) (h_v_frontThen : RB 0 11 v_frontThen) (h_v_points : RA 0 5 v_points) (h_v_plotsThen : RA (-1) 11 v_plotsThen) (h_v_rowThen : RA 0 5 v_rowThen) (e_0 : SG v_seenMany v_sights) (e_1 : SJ v_houses v_row)  : Ok (fun r => RB 0 11 r.2.1 ∧ RA 0 5 r.2.2.2.2.2.1 ∧ RA (-1) 11 r.2.2.2.2.2.2.2.2.1 ∧ RA 0 5 r.2.2.2.2.2.2.2.2.2.1 ∧ (r.2.2.2.2.2.2.2.1 = v_kinds)) (fX9_house N v_houses v_front v_down v_seenMany v_plots v_likes v_row v_sights v_had a1 a2 v_frontThen v_downThen v_ringsMany v_traded v_points v_ringLong v_kinds v_plotsThen v_rowThen v_ways) := by
  unfold fX9_house
  refine ok_b (tX9_isHouse hN h_v_houses) (fun x_2 hx => ?_)
  have h_x_2_0 := hx
  refine ok_if (fun c_1 => ?_) (fun c_1 => ?_)
  · exact ok_s ⟨h_v_frontThen, h_v_points, h_v_plotsThen, h_v_rowThen, (by grind)⟩
  · refine ok_b (tX9_tellHouse hN (by grind) h_v_front h_v_seenMany h_v_plots h_v_row (by grind) h_v_frontThen h_v_points h_v_plotsThen h_v_rowThen (by grind) (by grind) (by grind)) (fun x_11 hx => ?_)
    obtain ⟨h_x_11_0, h_x_11_1, h_x_11_2, h_x_11_3, h_x_11_4⟩ := hx
    exact ok_s ⟨h_x_11_0, h_x_11_1, h_x_11_2, h_x_11_3, (by grind)⟩
theorem tX9_as {N : Nat} {v_houses : Int32} {v_kinds : (Nat → Int32)} {a1 : Int32} {a2 : Int32}  (hN : 49999 < N) (h_v_houses : RB 0 6 v_houses)  : Ok (fun r => (r = asF a1 a2 v_houses (v_kinds a1.toNatClampNeg))) (fX9_as N v_houses v_kinds a1 a2) := by
  unfold fX9_as
  refine ok_b (tX9_isHouse hN h_v_houses) (fun x_2 hx => ?_)
  have h_x_2_0 := hx
  refine ok_if (fun c_1 => ?_) (fun c_1 => ?_)
  · exact ok_s (by unfold asF; grind)
  · refine ok_b (in_ok (a := (a2)) (lo := (0 : Int32)) (hi := (4 : Int32)) rfl rfl) (fun x_17 hx => ?_)
    have h_x_17 := hx
    refine ok_if (fun c_2 => ?_) (fun c_2 => ?_)
    · exact ok_s (by unfold asF; grind)
    · refine ok_if (fun c_3 => ?_) (fun c_3 => ?_)
      · exact ok_s (by unfold asF; grind)
      · refine ok_g (ng6 (by grind)) ?_
        refine ok_if (fun c_4 => ?_) (fun c_4 => ?_)
        · exact ok_s (by unfold asF; grind)
        · refine ok_if (fun c_5 => ?_) (fun c_5 => ?_)
          · refine ok_g (ng6 (by grind)) ?_
            refine ok_if (fun c_6 => ?_) (fun c_6 => ?_)
            · exact ok_s (by unfold asF; grind)
            · exact ok_s (by unfold asF; grind)
          · exact ok_s (by unfold asF; grind)
theorem sX9_standsOn_2 {N : Nat} {v_houses : Int32} {v_plots : (Nat → Int32)} {a1 : Int32} {K_2 : Int32 → Option (Int32)} {l2 : Int32}  {m_2 : Int32} (hN : 49999 < N) (h_v_houses : RB 0 6 v_houses) (h_v_plots : RA (-1) 11 v_plots) (h_a1 : RB 0 11 a1) (hK_2 : ∀ (l2 : Int32), 0 ≤ l2 ∧ (FR l2 v_plots a1) → (v_houses - l2) < m_2 → 0 < m_2 → Ok (fun r => (r = -1 ∧ FR v_houses v_plots a1 ∨ (0 ≤ r ∧ r < v_houses) ∧ v_plots r.toNatClampNeg = a1)) (K_2 l2)) (hI : 0 ≤ l2 ∧ (FR l2 v_plots a1)) (hm_2 : (v_houses - l2) = m_2) : Ok (fun r => (r = -1 ∧ FR v_houses v_plots a1 ∨ (0 ≤ r ∧ r < v_houses) ∧ v_plots r.toNatClampNeg = a1)) (fX9_standsOn_2 N v_houses v_plots a1 K_2 l2) := by
  obtain ⟨h_l2, e_0⟩ := hI
  unfold fX9_standsOn_2
  refine ok_if (fun c_1 => ?_) (fun c_1 => ?_)
  · exact ok_s (by clear hm_2 hK_2; first | exact Or.inl ⟨rfl, fr_end e_0 (by assumption)⟩ | exact Or.inr ⟨by clear e_0; grind, by assumption⟩)
  · refine ok_g (ng6 (by clear hm_2 hK_2; grind)) ?_
    refine ok_if (fun c_2 => ?_) (fun c_2 => ?_)
    · exact ok_s (by clear hm_2 hK_2; first | exact Or.inl ⟨rfl, fr_end e_0 (by assumption)⟩ | exact Or.inr ⟨by clear e_0; grind, by assumption⟩)
    · exact hK_2 _ ⟨(by clear hm_2 hK_2; grind), (fr_step e_0 (by assumption) (by clear hm_2 hK_2 e_0; grind))⟩ (by clear hK_2; grind) (by clear hK_2; grind)
theorem lX9_standsOn_2 {N : Nat} {v_houses : Int32} {v_plots : (Nat → Int32)} {a1 : Int32}  (hN : 49999 < N) (h_v_houses : RB 0 6 v_houses) (h_v_plots : RA (-1) 11 v_plots) (h_a1 : RB 0 11 a1)  : ∀ (l2 : Int32), 0 ≤ l2 ∧ (FR l2 v_plots a1) → (v_houses - l2) ≤ 49999 → Ok (fun r => (r = -1 ∧ FR v_houses v_plots a1 ∨ (0 ≤ r ∧ r < v_houses) ∧ v_plots r.toNatClampNeg = a1)) (lfix (fun (K : Int32 → Option (Int32)) (a : Int32) => fX9_standsOn_2 N v_houses v_plots a1 (fun (l2 : Int32) => K l2) a) N (l2)) := by
  intro l2 hI hM
  exact ok_l (I := fun (a : Int32) => (0 ≤ a ∧ (FR a v_plots a1))) (M := fun (a : Int32) => (v_houses - a)) (fun K a hI hK => sX9_standsOn_2  hN h_v_houses h_v_plots h_a1  (fun l2 hI2  hlt hp => hK (l2) hI2 hlt hp) hI  rfl) N _ hI hN hM
theorem tX9_standsOn {N : Nat} {v_houses : Int32} {v_plots : (Nat → Int32)} {a1 : Int32}  (hN : 49999 < N) (h_v_houses : RB 0 6 v_houses) (h_v_plots : RA (-1) 11 v_plots) (h_a1 : RB 0 11 a1)  : Ok (fun r => (r = -1 ∧ FR v_houses v_plots a1 ∨ (0 ≤ r ∧ r < v_houses) ∧ v_plots r.toNatClampNeg = a1)) (fX9_standsOn N v_houses v_plots a1) := by
  unfold fX9_standsOn
  exact lX9_standsOn_2  hN h_v_houses h_v_plots h_a1  _ ⟨(by grind), fr_0⟩  (by grind)
theorem sX9_likeIt_4 {N : Nat} {v_houses : Int32} {v_likes : (Nat → Int32)} {a1 : Int32} {K_4 : Int32 → Int32 → Option (Int32)} {l2 : Int32} {l3 : Int32}  {m_4 : Int32} (hN : 49999 < N) (h_v_houses : RB 0 6 v_houses) (h_a1 : RB 0 11 a1) (hK_4 : ∀ (l2 : Int32) (l3 : Int32), 0 ≤ l3 ∧ (l2 = sm (fun k => if v_likes k = a1 then 1 else 0) l3.toNatClampNeg) ∧ (l3 ≤ v_houses) → (v_houses - l3) < m_4 → 0 < m_4 → Ok (fun r => (r = sm (fun k => if v_likes k = a1 then 1 else 0) v_houses.toNatClampNeg)) (K_4 l2 l3)) (hI : 0 ≤ l3 ∧ (l2 = sm (fun k => if v_likes k = a1 then 1 else 0) l3.toNatClampNeg) ∧ (l3 ≤ v_houses)) (hm_4 : (v_houses - l3) = m_4) : Ok (fun r => (r = sm (fun k => if v_likes k = a1 then 1 else 0) v_houses.toNatClampNeg)) (fX9_likeIt_4 N v_houses v_likes a1 K_4 l2 l3) := by
  obtain ⟨h_l3, e_0, e_1⟩ := hI
  unfold fX9_likeIt_4
  refine ok_if (fun c_1 => ?_) (fun c_1 => ?_)
  · exact ok_s (sm_end e_0 (by clear hm_4 hK_4 e_0; grind))
  · refine ok_g (ng6 (by clear hm_4 hK_4; grind)) ?_
    refine ok_if (fun c_2 => ?_) (fun c_2 => ?_)
    · exact hK_4 _ _ ⟨(by clear hm_4 hK_4; grind), (by clear hm_4 hK_4; first | exact sm_step e_0 (if_pos (by clear e_0; grind)).symm (by clear e_0; grind) | exact sm_step e_0 (if_neg (by clear e_0; grind)).symm (by clear e_0; grind)), (by clear hm_4 hK_4; grind)⟩ (by clear hK_4; grind) (by clear hK_4; grind)
    · exact hK_4 _ _ ⟨(by clear hm_4 hK_4; grind), (by clear hm_4 hK_4; first | exact sm_step e_0 (if_pos (by clear e_0; grind)).symm (by clear e_0; grind) | exact sm_step e_0 (if_neg (by clear e_0; grind)).symm (by clear e_0; grind)), (by clear hm_4 hK_4; grind)⟩ (by clear hK_4; grind) (by clear hK_4; grind)
theorem lX9_likeIt_4 {N : Nat} {v_houses : Int32} {v_likes : (Nat → Int32)} {a1 : Int32}  (hN : 49999 < N) (h_v_houses : RB 0 6 v_houses) (h_a1 : RB 0 11 a1)  : ∀ (l2 : Int32) (l3 : Int32), 0 ≤ l3 ∧ (l2 = sm (fun k => if v_likes k = a1 then 1 else 0) l3.toNatClampNeg) ∧ (l3 ≤ v_houses) → (v_houses - l3) ≤ 49999 → Ok (fun r => (r = sm (fun k => if v_likes k = a1 then 1 else 0) v_houses.toNatClampNeg)) (lfix (fun (K : Int32 × Int32 → Option (Int32)) (a : Int32 × Int32) => fX9_likeIt_4 N v_houses v_likes a1 (fun (l2 : Int32) (l3 : Int32) => K (l2, l3)) a.1 a.2) N (l2, l3)) := by
  intro l2 l3 hI hM
  exact ok_l (I := fun (a : Int32 × Int32) => (0 ≤ a.2 ∧ (a.1 = sm (fun k => if v_likes k = a1 then 1 else 0) a.2.toNatClampNeg) ∧ (a.2 ≤ v_houses))) (M := fun (a : Int32 × Int32) => (v_houses - a.2)) (fun K a hI hK => sX9_likeIt_4  hN h_v_houses h_a1  (fun l2 l3 hI2  hlt hp => hK (l2, l3) hI2 hlt hp) hI  rfl) N _ hI hN hM
theorem tX9_likeIt {N : Nat} {v_houses : Int32} {v_likes : (Nat → Int32)} {a1 : Int32}  (hN : 49999 < N) (h_v_houses : RB 0 6 v_houses) (h_a1 : RB 0 11 a1)  : Ok (fun r => (r = sm (fun k => if v_likes k = a1 then 1 else 0) v_houses.toNatClampNeg)) (fX9_likeIt N v_houses v_likes a1) := by
  unfold fX9_likeIt
  exact lX9_likeIt_4  hN h_v_houses h_a1  _ _ ⟨(by grind), rfl, (by grind)⟩  (by grind)
theorem tX9_tellPlot {N : Nat} {v_houses : Int32} {v_likes : (Nat → Int32)} {v_plots : (Nat → Int32)} {v_worths : (Nat → Int32)} {a1 : Int32} {a2 : Int32}  (hN : 49999 < N) (h_v_houses : RB 0 6 v_houses) (h_v_plots : RA (-1) 11 v_plots) (h_a1 : RB 0 11 a1)  : Ok (fun r => (a2 = 0 ∧ r = v_worths a1.toNatClampNeg ∨ a2 = 1 ∧ (r = -1 ∧ FR v_houses v_plots a1 ∨ (0 ≤ r ∧ r < v_houses) ∧ v_plots r.toNatClampNeg = a1) ∨ a2 = 2 ∧ r = sm (fun k => if v_likes k = a1 then 1 else 0) v_houses.toNatClampNeg ∨ (a2 ≠ 0 ∧ a2 ≠ 1 ∧ a2 ≠ 2) ∧ r = -102)) (fX9_tellPlot N v_houses v_likes v_plots v_worths a1 a2) := by
  unfold fX9_tellPlot
  refine ok_if (fun c_1 => ?_) (fun c_1 => ?_)
  · refine ok_g (ng12 (by grind)) ?_
    exact ok_s (by grind)
  · refine ok_if (fun c_2 => ?_) (fun c_2 => ?_)
    · refine ok_b (tX9_standsOn hN h_v_houses h_v_plots h_a1) (fun x_37 hx => ?_)
      have h_x_37_0 := hx
      exact ok_s (by grind)
    · refine ok_if (fun c_3 => ?_) (fun c_3 => ?_)
      · refine ok_b (tX9_likeIt hN h_v_houses h_a1) (fun x_43 hx => ?_)
        have h_x_43_0 := hx
        exact ok_s (by grind)
      · exact ok_s (by grind)
theorem tX9_plot {N : Nat} {v_houses : Int32} {v_likes : (Nat → Int32)} {v_plots : (Nat → Int32)} {v_worths : (Nat → Int32)} {a1 : Int32} {a2 : Int32}  (hN : 49999 < N) (h_v_houses : RB 0 6 v_houses) (h_v_plots : RA (-1) 11 v_plots)  : Ok (fun r => ((v_houses = 0 ∨ ¬ (0 ≤ a1 ∧ a1 < 12)) ∧ r = -101 ∨ (v_houses ≠ 0 ∧ 0 ≤ a1 ∧ a1 < 12) ∧ (a2 = 0 ∧ r = v_worths a1.toNatClampNeg ∨ a2 = 1 ∧ (r = -1 ∧ FR v_houses v_plots a1 ∨ (0 ≤ r ∧ r < v_houses) ∧ v_plots r.toNatClampNeg = a1) ∨ a2 = 2 ∧ r = sm (fun k => if v_likes k = a1 then 1 else 0) v_houses.toNatClampNeg ∨ (a2 ≠ 0 ∧ a2 ≠ 1 ∧ a2 ≠ 2) ∧ r = -102))) (fX9_plot N v_houses v_likes v_plots v_worths a1 a2) := by
  unfold fX9_plot
  refine ok_b (tX9_lacks hN h_v_houses) (fun x_1 hx => ?_)
  have h_x_1_0 := hx
  refine ok_if (fun c_1 => ?_) (fun c_1 => ?_)
  · refine ok_b (tX9_isPlot hN ) (fun x_8 hx => ?_)
    have h_x_8_0 := hx
    refine ok_if (fun c_2 => ?_) (fun c_2 => ?_)
    · exact ok_s (by grind)
    · refine ok_b (tX9_tellPlot hN h_v_houses h_v_plots (by grind)) (fun x_17 hx => ?_)
      have h_x_17_0 := hx
      exact ok_s (by grind)
  · exact ok_s (by grind)
theorem sX9_goNights_6 {N : Nat} {v_houses : Int32} {v_front : Int32} {v_down : Int32} {v_plots : (Nat → Int32)} {v_row : (Nat → Int32)} {v_kinds : (Nat → Int32)} {a1 : Int32} {K_6 : Int32 → Int32 → Int32 → (Nat → Int32) → (Nat → Int32) → Option (Int32 × Int32 × (Nat → Int32) × (Nat → Int32))} {l2 : Int32} {v_frontThen : Int32} {v_downThen : Int32} {v_plotsThen : (Nat → Int32)} {v_rowThen : (Nat → Int32)}  {m_6 : Int32} (hN : 49999 < N) (h_v_houses : RB 1 6 v_houses) (h_v_front : RB 0 11 v_front) (h_v_plots : RA (-1) 11 v_plots) (h_v_row : RA 0 5 v_row) (h_a1 : RB 0 400 a1) (hK_6 : ∀ (l2 : Int32) (v_frontThen : Int32) (v_downThen : Int32) (v_plotsThen : (Nat → Int32)) (v_rowThen : (Nat → Int32)), RB 0 11 v_frontThen ∧ RA (-1) 11 v_plotsThen ∧ RA 0 5 v_rowThen ∧ 0 ≤ l2 → (a1 - l2) < m_6 → 0 < m_6 → Ok (fun r => RB 0 11 r.1 ∧ RA (-1) 11 r.2.2.1 ∧ RA 0 5 r.2.2.2) (K_6 l2 v_frontThen v_downThen v_plotsThen v_rowThen)) (hI : RB 0 11 v_frontThen ∧ RA (-1) 11 v_plotsThen ∧ RA 0 5 v_rowThen ∧ 0 ≤ l2) (hm_6 : (a1 - l2) = m_6) : Ok (fun r => RB 0 11 r.1 ∧ RA (-1) 11 r.2.2.1 ∧ RA 0 5 r.2.2.2) (fX9_goNights_6 N v_houses v_front v_down v_plots v_row v_kinds a1 K_6 l2 v_frontThen v_downThen v_plotsThen v_rowThen) := by
  obtain ⟨h_v_frontThen, h_v_plotsThen, h_v_rowThen, h_l2⟩ := hI
  unfold fX9_goNights_6
  refine ok_if (fun c_1 => ?_) (fun c_1 => ?_)
  · exact ok_s ⟨h_v_frontThen, h_v_plotsThen, h_v_rowThen⟩
  · refine ok_b (tX9_goOn hN h_v_houses h_v_frontThen h_v_rowThen h_v_plotsThen) (fun x_12 hx => ?_)
    obtain ⟨h_x_12_0, h_x_12_1, h_x_12_2, h_x_12_3, h_x_12_4⟩ := hx
    exact hK_6 _ _ _ _ _ ⟨h_x_12_0, h_x_12_2, h_x_12_1, (by clear hm_6 hK_6; grind)⟩ (by clear hK_6; grind) (by clear hK_6; grind)
theorem lX9_goNights_6 {N : Nat} {v_houses : Int32} {v_front : Int32} {v_down : Int32} {v_plots : (Nat → Int32)} {v_row : (Nat → Int32)} {v_kinds : (Nat → Int32)} {a1 : Int32}  (hN : 49999 < N) (h_v_houses : RB 1 6 v_houses) (h_v_front : RB 0 11 v_front) (h_v_plots : RA (-1) 11 v_plots) (h_v_row : RA 0 5 v_row) (h_a1 : RB 0 400 a1)  : ∀ (l2 : Int32) (v_frontThen : Int32) (v_downThen : Int32) (v_plotsThen : (Nat → Int32)) (v_rowThen : (Nat → Int32)), RB 0 11 v_frontThen ∧ RA (-1) 11 v_plotsThen ∧ RA 0 5 v_rowThen ∧ 0 ≤ l2 → (a1 - l2) ≤ 49999 → Ok (fun r => RB 0 11 r.1 ∧ RA (-1) 11 r.2.2.1 ∧ RA 0 5 r.2.2.2) (lfix (fun (K : Int32 × Int32 × Int32 × (Nat → Int32) × (Nat → Int32) → Option (Int32 × Int32 × (Nat → Int32) × (Nat → Int32))) (a : Int32 × Int32 × Int32 × (Nat → Int32) × (Nat → Int32)) => fX9_goNights_6 N v_houses v_front v_down v_plots v_row v_kinds a1 (fun (l2 : Int32) (v_frontThen : Int32) (v_downThen : Int32) (v_plotsThen : (Nat → Int32)) (v_rowThen : (Nat → Int32)) => K (l2, v_frontThen, v_downThen, v_plotsThen, v_rowThen)) a.1 a.2.1 a.2.2.1 a.2.2.2.1 a.2.2.2.2) N (l2, v_frontThen, v_downThen, v_plotsThen, v_rowThen)) := by
  intro l2 v_frontThen v_downThen v_plotsThen v_rowThen hI hM
  exact ok_l (I := fun (a : Int32 × Int32 × Int32 × (Nat → Int32) × (Nat → Int32)) => (RB 0 11 a.2.1 ∧ RA (-1) 11 a.2.2.2.1 ∧ RA 0 5 a.2.2.2.2 ∧ 0 ≤ a.1)) (M := fun (a : Int32 × Int32 × Int32 × (Nat → Int32) × (Nat → Int32)) => (a1 - a.1)) (fun K a hI hK => sX9_goNights_6  hN h_v_houses h_v_front h_v_plots h_v_row h_a1  (fun l2 v_frontThen v_downThen v_plotsThen v_rowThen hI2  hlt hp => hK (l2, v_frontThen, v_downThen, v_plotsThen, v_rowThen) hI2 hlt hp) hI  rfl) N _ hI hN hM
theorem tX9_goNights {N : Nat} {v_houses : Int32} {v_front : Int32} {v_down : Int32} {v_plots : (Nat → Int32)} {v_row : (Nat → Int32)} {v_kinds : (Nat → Int32)} {a1 : Int32} {v_frontThen : Int32} {v_downThen : Int32} {v_plotsThen : (Nat → Int32)} {v_rowThen : (Nat → Int32)}  (hN : 49999 < N) (h_v_houses : RB 1 6 v_houses) (h_v_front : RB 0 11 v_front) (h_v_plots : RA (-1) 11 v_plots) (h_v_row : RA 0 5 v_row) (h_a1 : RB 0 400 a1) (h_v_frontThen : RB 0 11 v_frontThen) (h_v_plotsThen : RA (-1) 11 v_plotsThen) (h_v_rowThen : RA 0 5 v_rowThen)  : Ok (fun r => RB 0 11 r.1 ∧ RA (-1) 11 r.2.2.1 ∧ RA 0 5 r.2.2.2) (fX9_goNights N v_houses v_front v_down v_plots v_row v_kinds a1 v_frontThen v_downThen v_plotsThen v_rowThen) := by
  unfold fX9_goNights
  refine ok_b (tX9_begin hN h_v_front h_v_plots h_v_row h_v_frontThen h_v_plotsThen h_v_rowThen) (fun x_1 hx => ?_)
  obtain ⟨h_x_1_0, h_x_1_1, h_x_1_2, h_x_1_3, h_x_1_4, h_x_1_5⟩ := hx
  exact lX9_goNights_6  hN h_v_houses h_v_front h_v_plots h_v_row h_a1  _ _ _ _ _ ⟨h_x_1_0, h_x_1_1, h_x_1_2, (by grind)⟩  (by grind)
theorem tX9_whereOf {N : Nat} {v_houses : Int32} {v_front : Int32} {v_down : Int32} {v_plots : (Nat → Int32)} {v_row : (Nat → Int32)} {v_kinds : (Nat → Int32)} {a1 : Int32} {a2 : Int32} {v_frontThen : Int32} {v_downThen : Int32} {v_plotsThen : (Nat → Int32)} {v_rowThen : (Nat → Int32)}  (hN : 49999 < N) (h_v_houses : RB 1 6 v_houses) (h_v_front : RB 0 11 v_front) (h_v_plots : RA (-1) 11 v_plots) (h_v_row : RA 0 5 v_row) (h_a1 : RB 0 5 a1) (h_a2 : RB 0 400 a2) (h_v_frontThen : RB 0 11 v_frontThen) (h_v_plotsThen : RA (-1) 11 v_plotsThen) (h_v_rowThen : RA 0 5 v_rowThen)  : Ok (fun r => RB 0 11 r.2.1 ∧ RA (-1) 11 r.2.2.2.1 ∧ RA 0 5 r.2.2.2.2) (fX9_whereOf N v_houses v_front v_down v_plots v_row v_kinds a1 a2 v_frontThen v_downThen v_plotsThen v_rowThen) := by
  unfold fX9_whereOf
  refine ok_b (tX9_goNights hN h_v_houses h_v_front h_v_plots h_v_row h_a2 h_v_frontThen h_v_plotsThen h_v_rowThen) (fun x_2 hx => ?_)
  obtain ⟨h_x_2_0, h_x_2_1, h_x_2_2⟩ := hx
  refine ok_g (ng6 (by grind)) ?_
  exact ok_s ⟨h_x_2_0, h_x_2_1, h_x_2_2⟩
theorem tX9_where {N : Nat} {v_houses : Int32} {v_front : Int32} {v_down : Int32} {v_plots : (Nat → Int32)} {v_row : (Nat → Int32)} {v_kinds : (Nat → Int32)} {a1 : Int32} {a2 : Int32} {v_frontThen : Int32} {v_downThen : Int32} {v_plotsThen : (Nat → Int32)} {v_rowThen : (Nat → Int32)}  (hN : 49999 < N) (h_v_houses : RB 0 6 v_houses) (h_v_front : RB 0 11 v_front) (h_v_plots : RA (-1) 11 v_plots) (h_v_row : RA 0 5 v_row) (h_v_frontThen : RB 0 11 v_frontThen) (h_v_plotsThen : RA (-1) 11 v_plotsThen) (h_v_rowThen : RA 0 5 v_rowThen)  : Ok (fun r => RB 0 11 r.2.1 ∧ RA (-1) 11 r.2.2.2.1 ∧ RA 0 5 r.2.2.2.2) (fX9_where N v_houses v_front v_down v_plots v_row v_kinds a1 a2 v_frontThen v_downThen v_plotsThen v_rowThen) := by
  unfold fX9_where
  refine ok_b (tX9_isHouse hN h_v_houses) (fun x_2 hx => ?_)
  have h_x_2_0 := hx
  refine ok_if (fun c_1 => ?_) (fun c_1 => ?_)
  · exact ok_s ⟨h_v_frontThen, h_v_plotsThen, h_v_rowThen⟩
  · refine ok_b (in_ok (a := (a2)) (lo := (0 : Int32)) (hi := (400 : Int32)) rfl rfl) (fun x_17 hx => ?_)
    have h_x_17 := hx
    refine ok_if (fun c_2 => ?_) (fun c_2 => ?_)
    · exact ok_s ⟨h_v_frontThen, h_v_plotsThen, h_v_rowThen⟩
    · refine ok_b (tX9_whereOf hN (by grind) h_v_front h_v_plots h_v_row (by grind) (by grind) h_v_frontThen h_v_plotsThen h_v_rowThen) (fun x_26 hx => ?_)
      obtain ⟨h_x_26_0, h_x_26_1, h_x_26_2⟩ := hx
      exact ok_s ⟨h_x_26_0, h_x_26_1, h_x_26_2⟩
theorem sX9_when_24 {N : Nat} {v_houses : Int32} {v_front : Int32} {v_down : Int32} {v_plots : (Nat → Int32)} {v_row : (Nat → Int32)} {v_kinds : (Nat → Int32)} {a1 : Int32} {a2 : Int32} {K_24 : Int32 → Int32 → Int32 → (Nat → Int32) → (Nat → Int32) → Option (Int32 × Int32 × Int32 × (Nat → Int32) × (Nat → Int32))} {l3 : Int32} {v_frontThen : Int32} {v_downThen : Int32} {v_plotsThen : (Nat → Int32)} {v_rowThen : (Nat → Int32)}  {m_24 : Int32} (hN : 49999 < N) (h_v_houses : RB 1 6 v_houses) (h_v_front : RB 0 11 v_front) (h_v_plots : RA (-1) 11 v_plots) (h_v_row : RA 0 5 v_row) (h_a1 : RB 0 5 a1) (hK_24 : ∀ (l3 : Int32) (v_frontThen : Int32) (v_downThen : Int32) (v_plotsThen : (Nat → Int32)) (v_rowThen : (Nat → Int32)), RB 0 11 v_frontThen ∧ RA (-1) 11 v_plotsThen ∧ RA 0 5 v_rowThen ∧ 0 ≤ l3 → ((201 : Int32) - l3) < m_24 → 0 < m_24 → Ok (fun r => RB 0 11 r.2.1 ∧ RA (-1) 11 r.2.2.2.1 ∧ RA 0 5 r.2.2.2.2) (K_24 l3 v_frontThen v_downThen v_plotsThen v_rowThen)) (hI : RB 0 11 v_frontThen ∧ RA (-1) 11 v_plotsThen ∧ RA 0 5 v_rowThen ∧ 0 ≤ l3) (hm_24 : ((201 : Int32) - l3) = m_24) : Ok (fun r => RB 0 11 r.2.1 ∧ RA (-1) 11 r.2.2.2.1 ∧ RA 0 5 r.2.2.2.2) (fX9_when_24 N v_houses v_front v_down v_plots v_row v_kinds a1 a2 K_24 l3 v_frontThen v_downThen v_plotsThen v_rowThen) := by
  obtain ⟨h_v_frontThen, h_v_plotsThen, h_v_rowThen, h_l3⟩ := hI
  unfold fX9_when_24
  refine ok_if (fun c_1 => ?_) (fun c_1 => ?_)
  · exact ok_s ⟨h_v_frontThen, h_v_plotsThen, h_v_rowThen⟩
  · refine ok_g (ng6 (by clear hm_24 hK_24; grind)) ?_
    refine ok_if (fun c_2 => ?_) (fun c_2 => ?_)
    · exact ok_s ⟨h_v_frontThen, h_v_plotsThen, h_v_rowThen⟩
    · refine ok_b (tX9_goOn hN h_v_houses h_v_frontThen h_v_rowThen h_v_plotsThen) (fun x_44 hx => ?_)
      obtain ⟨h_x_44_0, h_x_44_1, h_x_44_2, h_x_44_3, h_x_44_4⟩ := hx
      exact hK_24 _ _ _ _ _ ⟨h_x_44_0, h_x_44_2, h_x_44_1, (by clear hm_24 hK_24; grind)⟩ (by clear hK_24; grind) (by clear hK_24; grind)
theorem lX9_when_24 {N : Nat} {v_houses : Int32} {v_front : Int32} {v_down : Int32} {v_plots : (Nat → Int32)} {v_row : (Nat → Int32)} {v_kinds : (Nat → Int32)} {a1 : Int32} {a2 : Int32}  (hN : 49999 < N) (h_v_houses : RB 1 6 v_houses) (h_v_front : RB 0 11 v_front) (h_v_plots : RA (-1) 11 v_plots) (h_v_row : RA 0 5 v_row) (h_a1 : RB 0 5 a1)  : ∀ (l3 : Int32) (v_frontThen : Int32) (v_downThen : Int32) (v_plotsThen : (Nat → Int32)) (v_rowThen : (Nat → Int32)), RB 0 11 v_frontThen ∧ RA (-1) 11 v_plotsThen ∧ RA 0 5 v_rowThen ∧ 0 ≤ l3 → ((201 : Int32) - l3) ≤ 49999 → Ok (fun r => RB 0 11 r.2.1 ∧ RA (-1) 11 r.2.2.2.1 ∧ RA 0 5 r.2.2.2.2) (lfix (fun (K : Int32 × Int32 × Int32 × (Nat → Int32) × (Nat → Int32) → Option (Int32 × Int32 × Int32 × (Nat → Int32) × (Nat → Int32))) (a : Int32 × Int32 × Int32 × (Nat → Int32) × (Nat → Int32)) => fX9_when_24 N v_houses v_front v_down v_plots v_row v_kinds a1 a2 (fun (l3 : Int32) (v_frontThen : Int32) (v_downThen : Int32) (v_plotsThen : (Nat → Int32)) (v_rowThen : (Nat → Int32)) => K (l3, v_frontThen, v_downThen, v_plotsThen, v_rowThen)) a.1 a.2.1 a.2.2.1 a.2.2.2.1 a.2.2.2.2) N (l3, v_frontThen, v_downThen, v_plotsThen, v_rowThen)) := by
  intro l3 v_frontThen v_downThen v_plotsThen v_rowThen hI hM
  exact ok_l (I := fun (a : Int32 × Int32 × Int32 × (Nat → Int32) × (Nat → Int32)) => (RB 0 11 a.2.1 ∧ RA (-1) 11 a.2.2.2.1 ∧ RA 0 5 a.2.2.2.2 ∧ 0 ≤ a.1)) (M := fun (a : Int32 × Int32 × Int32 × (Nat → Int32) × (Nat → Int32)) => ((201 : Int32) - a.1)) (fun K a hI hK => sX9_when_24  hN h_v_houses h_v_front h_v_plots h_v_row h_a1  (fun l3 v_frontThen v_downThen v_plotsThen v_rowThen hI2  hlt hp => hK (l3, v_frontThen, v_downThen, v_plotsThen, v_rowThen) hI2 hlt hp) hI  rfl) N _ hI hN hM
theorem tX9_when {N : Nat} {v_houses : Int32} {v_front : Int32} {v_down : Int32} {v_plots : (Nat → Int32)} {v_row : (Nat → Int32)} {v_kinds : (Nat → Int32)} {a1 : Int32} {a2 : Int32} {v_frontThen : Int32} {v_downThen : Int32} {v_plotsThen : (Nat → Int32)} {v_rowThen : (Nat → Int32)}  (hN : 49999 < N) (h_v_houses : RB 0 6 v_houses) (h_v_front : RB 0 11 v_front) (h_v_plots : RA (-1) 11 v_plots) (h_v_row : RA 0 5 v_row) (h_v_frontThen : RB 0 11 v_frontThen) (h_v_plotsThen : RA (-1) 11 v_plotsThen) (h_v_rowThen : RA 0 5 v_rowThen)  : Ok (fun r => RB 0 11 r.2.1 ∧ RA (-1) 11 r.2.2.2.1 ∧ RA 0 5 r.2.2.2.2) (fX9_when N v_houses v_front v_down v_plots v_row v_kinds a1 a2 v_frontThen v_downThen v_plotsThen v_rowThen) := by
  unfold fX9_when
  refine ok_b (tX9_isHouse hN h_v_houses) (fun x_2 hx => ?_)
  have h_x_2_0 := hx
  refine ok_if (fun c_1 => ?_) (fun c_1 => ?_)
  · exact ok_s ⟨h_v_frontThen, h_v_plotsThen, h_v_rowThen⟩
  · refine ok_b (tX9_isPlot hN ) (fun x_9 hx => ?_)
    have h_x_9_0 := hx
    refine ok_if (fun c_2 => ?_) (fun c_2 => ?_)
    · exact ok_s ⟨h_v_frontThen, h_v_plotsThen, h_v_rowThen⟩
    · refine ok_b (tX9_begin hN h_v_front h_v_plots h_v_row h_v_frontThen h_v_plotsThen h_v_rowThen) (fun x_19 hx => ?_)
      obtain ⟨h_x_19_0, h_x_19_1, h_x_19_2, h_x_19_3, h_x_19_4, h_x_19_5⟩ := hx
      exact lX9_when_24  hN (by grind) h_v_front h_v_plots h_v_row (by grind)  _ _ _ _ _ ⟨h_x_19_0, h_x_19_1, h_x_19_2, (by grind)⟩  (by grind)
theorem sX9_neighbours_18 {N : Nat} {v_houses : Int32} {v_front : Int32} {v_down : Int32} {v_plots : (Nat → Int32)} {v_row : (Nat → Int32)} {v_kinds : (Nat → Int32)} {a1 : Int32} {a2 : Int32} {K_18 : Int32 → Int32 → Int32 → (Nat → Int32) → (Nat → Int32) → Option (Int32 × Int32 × Int32 × (Nat → Int32) × (Nat → Int32))} {l3 : Int32} {v_frontThen : Int32} {v_downThen : Int32} {v_plotsThen : (Nat → Int32)} {v_rowThen : (Nat → Int32)}  {m_18 : Int32} (hN : 49999 < N) (h_v_houses : RB 1 6 v_houses) (h_v_front : RB 0 11 v_front) (h_v_plots : RA (-1) 11 v_plots) (h_v_row : RA 0 5 v_row) (h_a1 : RB 0 5 a1) (h_a2 : RB 0 5 a2) (hK_18 : ∀ (l3 : Int32) (v_frontThen : Int32) (v_downThen : Int32) (v_plotsThen : (Nat → Int32)) (v_rowThen : (Nat → Int32)), RB 0 11 v_frontThen ∧ RA (-1) 11 v_plotsThen ∧ RA 0 5 v_rowThen ∧ 0 ≤ l3 → ((201 : Int32) - l3) < m_18 → 0 < m_18 → Ok (fun r => RB 0 11 r.2.1 ∧ RA (-1) 11 r.2.2.2.1 ∧ RA 0 5 r.2.2.2.2) (K_18 l3 v_frontThen v_downThen v_plotsThen v_rowThen)) (hI : RB 0 11 v_frontThen ∧ RA (-1) 11 v_plotsThen ∧ RA 0 5 v_rowThen ∧ 0 ≤ l3) (hm_18 : ((201 : Int32) - l3) = m_18) : Ok (fun r => RB 0 11 r.2.1 ∧ RA (-1) 11 r.2.2.2.1 ∧ RA 0 5 r.2.2.2.2) (fX9_neighbours_18 N v_houses v_front v_down v_plots v_row v_kinds a1 a2 K_18 l3 v_frontThen v_downThen v_plotsThen v_rowThen) := by
  obtain ⟨h_v_frontThen, h_v_plotsThen, h_v_rowThen, h_l3⟩ := hI
  unfold fX9_neighbours_18
  refine ok_if (fun c_1 => ?_) (fun c_1 => ?_)
  · exact ok_s ⟨h_v_frontThen, h_v_plotsThen, h_v_rowThen⟩
  · refine ok_g (ng6 (by clear hm_18 hK_18; grind)) ?_
    refine ok_if (fun c_2 => ?_) (fun c_2 => ?_)
    · refine ok_b (tX9_goOn hN h_v_houses h_v_frontThen h_v_rowThen h_v_plotsThen) (fun x_67 hx => ?_)
      obtain ⟨h_x_67_0, h_x_67_1, h_x_67_2, h_x_67_3, h_x_67_4⟩ := hx
      exact hK_18 _ _ _ _ _ ⟨h_x_67_0, h_x_67_2, h_x_67_1, (by clear hm_18 hK_18; grind)⟩ (by clear hK_18; grind) (by clear hK_18; grind)
    · refine ok_g (ng6 (by clear hm_18 hK_18; grind)) ?_
      refine ok_if (fun c_3 => ?_) (fun c_3 => ?_)
      · refine ok_b (tX9_goOn hN h_v_houses h_v_frontThen h_v_rowThen h_v_plotsThen) (fun x_67 hx => ?_)
        obtain ⟨h_x_67_0, h_x_67_1, h_x_67_2, h_x_67_3, h_x_67_4⟩ := hx
        exact hK_18 _ _ _ _ _ ⟨h_x_67_0, h_x_67_2, h_x_67_1, (by clear hm_18 hK_18; grind)⟩ (by clear hK_18; grind) (by clear hK_18; grind)
      · refine ok_g (ng6 (by clear hm_18 hK_18; grind)) ?_
        refine ok_g (ng6 (by clear hm_18 hK_18; grind)) ?_
        refine ok_b (tX9_round hN ) (fun x_57 hx => ?_)
        refine ok_if (fun c_4 => ?_) (fun c_4 => ?_)
        · exact ok_s ⟨h_v_frontThen, h_v_plotsThen, h_v_rowThen⟩
        · refine ok_b (tX9_goOn hN h_v_houses h_v_frontThen h_v_rowThen h_v_plotsThen) (fun x_67 hx => ?_)
          obtain ⟨h_x_67_0, h_x_67_1, h_x_67_2, h_x_67_3, h_x_67_4⟩ := hx
          exact hK_18 _ _ _ _ _ ⟨h_x_67_0, h_x_67_2, h_x_67_1, (by clear hm_18 hK_18; grind)⟩ (by clear hK_18; grind) (by clear hK_18; grind)
theorem lX9_neighbours_18 {N : Nat} {v_houses : Int32} {v_front : Int32} {v_down : Int32} {v_plots : (Nat → Int32)} {v_row : (Nat → Int32)} {v_kinds : (Nat → Int32)} {a1 : Int32} {a2 : Int32}  (hN : 49999 < N) (h_v_houses : RB 1 6 v_houses) (h_v_front : RB 0 11 v_front) (h_v_plots : RA (-1) 11 v_plots) (h_v_row : RA 0 5 v_row) (h_a1 : RB 0 5 a1) (h_a2 : RB 0 5 a2)  : ∀ (l3 : Int32) (v_frontThen : Int32) (v_downThen : Int32) (v_plotsThen : (Nat → Int32)) (v_rowThen : (Nat → Int32)), RB 0 11 v_frontThen ∧ RA (-1) 11 v_plotsThen ∧ RA 0 5 v_rowThen ∧ 0 ≤ l3 → ((201 : Int32) - l3) ≤ 49999 → Ok (fun r => RB 0 11 r.2.1 ∧ RA (-1) 11 r.2.2.2.1 ∧ RA 0 5 r.2.2.2.2) (lfix (fun (K : Int32 × Int32 × Int32 × (Nat → Int32) × (Nat → Int32) → Option (Int32 × Int32 × Int32 × (Nat → Int32) × (Nat → Int32))) (a : Int32 × Int32 × Int32 × (Nat → Int32) × (Nat → Int32)) => fX9_neighbours_18 N v_houses v_front v_down v_plots v_row v_kinds a1 a2 (fun (l3 : Int32) (v_frontThen : Int32) (v_downThen : Int32) (v_plotsThen : (Nat → Int32)) (v_rowThen : (Nat → Int32)) => K (l3, v_frontThen, v_downThen, v_plotsThen, v_rowThen)) a.1 a.2.1 a.2.2.1 a.2.2.2.1 a.2.2.2.2) N (l3, v_frontThen, v_downThen, v_plotsThen, v_rowThen)) := by
  intro l3 v_frontThen v_downThen v_plotsThen v_rowThen hI hM
  exact ok_l (I := fun (a : Int32 × Int32 × Int32 × (Nat → Int32) × (Nat → Int32)) => (RB 0 11 a.2.1 ∧ RA (-1) 11 a.2.2.2.1 ∧ RA 0 5 a.2.2.2.2 ∧ 0 ≤ a.1)) (M := fun (a : Int32 × Int32 × Int32 × (Nat → Int32) × (Nat → Int32)) => ((201 : Int32) - a.1)) (fun K a hI hK => sX9_neighbours_18  hN h_v_houses h_v_front h_v_plots h_v_row h_a1 h_a2  (fun l3 v_frontThen v_downThen v_plotsThen v_rowThen hI2  hlt hp => hK (l3, v_frontThen, v_downThen, v_plotsThen, v_rowThen) hI2 hlt hp) hI  rfl) N _ hI hN hM
theorem tX9_neighbours {N : Nat} {v_houses : Int32} {v_front : Int32} {v_down : Int32} {v_plots : (Nat → Int32)} {v_row : (Nat → Int32)} {v_kinds : (Nat → Int32)} {a1 : Int32} {a2 : Int32} {v_frontThen : Int32} {v_downThen : Int32} {v_plotsThen : (Nat → Int32)} {v_rowThen : (Nat → Int32)}  (hN : 49999 < N) (h_v_houses : RB 0 6 v_houses) (h_v_front : RB 0 11 v_front) (h_v_plots : RA (-1) 11 v_plots) (h_v_row : RA 0 5 v_row) (h_v_frontThen : RB 0 11 v_frontThen) (h_v_plotsThen : RA (-1) 11 v_plotsThen) (h_v_rowThen : RA 0 5 v_rowThen)  : Ok (fun r => RB 0 11 r.2.1 ∧ RA (-1) 11 r.2.2.2.1 ∧ RA 0 5 r.2.2.2.2) (fX9_neighbours N v_houses v_front v_down v_plots v_row v_kinds a1 a2 v_frontThen v_downThen v_plotsThen v_rowThen) := by
  unfold fX9_neighbours
  refine ok_b (tX9_areTwo hN h_v_houses) (fun x_3 hx => ?_)
  have h_x_3_0 := hx
  refine ok_if (fun c_1 => ?_) (fun c_1 => ?_)
  · exact ok_s ⟨h_v_frontThen, h_v_plotsThen, h_v_rowThen⟩
  · refine ok_b (tX9_begin hN h_v_front h_v_plots h_v_row h_v_frontThen h_v_plotsThen h_v_rowThen) (fun x_13 hx => ?_)
    obtain ⟨h_x_13_0, h_x_13_1, h_x_13_2, h_x_13_3, h_x_13_4, h_x_13_5⟩ := hx
    exact lX9_neighbours_18  hN (by grind) h_v_front h_v_plots h_v_row (by grind) (by grind)  _ _ _ _ _ ⟨h_x_13_0, h_x_13_1, h_x_13_2, (by grind)⟩  (by grind)
theorem sX9_isAsNow_30 {N : Nat} {v_houses : Int32} {v_front : Int32} {v_down : Int32} {v_frontThen : Int32} {v_downThen : Int32} {v_plotsThen : (Nat → Int32)} {v_plots : (Nat → Int32)} {v_rowThen : (Nat → Int32)} {v_row : (Nat → Int32)} {K_30 : Int32 → Int32 → Option (Int32)} {l1 : Int32} {l2 : Int32}  {m_30 : Int32} (hN : 49999 < N) (h_v_houses : RB 0 6 v_houses) (h_v_front : RB 0 11 v_front) (h_v_frontThen : RB 0 11 v_frontThen) (h_v_plotsThen : RA (-1) 11 v_plotsThen) (h_v_plots : RA (-1) 11 v_plots) (h_v_rowThen : RA 0 5 v_rowThen) (h_v_row : RA 0 5 v_row) (hK_30 : ∀ (l1 : Int32) (l2 : Int32), 0 ≤ l2 ∧ (l1 = 0 ∨ l1 = 1) → (v_houses - l2) < m_30 → 0 < m_30 → Ok (fun r => (r = 0 ∨ r = 1)) (K_30 l1 l2)) (hI : 0 ≤ l2 ∧ (l1 = 0 ∨ l1 = 1)) (hm_30 : (v_houses - l2) = m_30) : Ok (fun r => (r = 0 ∨ r = 1)) (fX9_isAsNow_30 N v_houses v_front v_down v_frontThen v_downThen v_plotsThen v_plots v_rowThen v_row K_30 l1 l2) := by
  obtain ⟨h_l2, e_0⟩ := hI
  unfold fX9_isAsNow_30
  refine ok_if (fun c_1 => ?_) (fun c_1 => ?_)
  · refine ok_g (by clear hm_30 hK_30; grind) ?_
    exact ok_s (by clear hm_30 hK_30; grind)
  · refine ok_if (fun c_2 => ?_) (fun c_2 => ?_)
    · exact hK_30 _ _ ⟨(by clear hm_30 hK_30; grind), (by clear hm_30 hK_30; grind)⟩ (by clear hK_30; grind) (by clear hK_30; grind)
    · refine ok_g (ng6 (by clear hm_30 hK_30; grind)) ?_
      refine ok_g (ng6 (by clear hm_30 hK_30; grind)) ?_
      refine ok_if (fun c_3 => ?_) (fun c_3 => ?_)
      · refine ok_g (ng6 (by clear hm_30 hK_30; grind)) ?_
        refine ok_g (ng6 (by clear hm_30 hK_30; grind)) ?_
        refine ok_if (fun c_4 => ?_) (fun c_4 => ?_)
        · exact hK_30 _ _ ⟨(by clear hm_30 hK_30; grind), (by clear hm_30 hK_30; grind)⟩ (by clear hK_30; grind) (by clear hK_30; grind)
        · exact hK_30 _ _ ⟨(by clear hm_30 hK_30; grind), (by clear hm_30 hK_30; grind)⟩ (by clear hK_30; grind) (by clear hK_30; grind)
      · exact hK_30 _ _ ⟨(by clear hm_30 hK_30; grind), (by clear hm_30 hK_30; grind)⟩ (by clear hK_30; grind) (by clear hK_30; grind)
theorem lX9_isAsNow_30 {N : Nat} {v_houses : Int32} {v_front : Int32} {v_down : Int32} {v_frontThen : Int32} {v_downThen : Int32} {v_plotsThen : (Nat → Int32)} {v_plots : (Nat → Int32)} {v_rowThen : (Nat → Int32)} {v_row : (Nat → Int32)}  (hN : 49999 < N) (h_v_houses : RB 0 6 v_houses) (h_v_front : RB 0 11 v_front) (h_v_frontThen : RB 0 11 v_frontThen) (h_v_plotsThen : RA (-1) 11 v_plotsThen) (h_v_plots : RA (-1) 11 v_plots) (h_v_rowThen : RA 0 5 v_rowThen) (h_v_row : RA 0 5 v_row)  : ∀ (l1 : Int32) (l2 : Int32), 0 ≤ l2 ∧ (l1 = 0 ∨ l1 = 1) → (v_houses - l2) ≤ 49999 → Ok (fun r => (r = 0 ∨ r = 1)) (lfix (fun (K : Int32 × Int32 → Option (Int32)) (a : Int32 × Int32) => fX9_isAsNow_30 N v_houses v_front v_down v_frontThen v_downThen v_plotsThen v_plots v_rowThen v_row (fun (l1 : Int32) (l2 : Int32) => K (l1, l2)) a.1 a.2) N (l1, l2)) := by
  intro l1 l2 hI hM
  exact ok_l (I := fun (a : Int32 × Int32) => (0 ≤ a.2 ∧ (a.1 = 0 ∨ a.1 = 1))) (M := fun (a : Int32 × Int32) => (v_houses - a.2)) (fun K a hI hK => sX9_isAsNow_30  hN h_v_houses h_v_front h_v_frontThen h_v_plotsThen h_v_plots h_v_rowThen h_v_row  (fun l1 l2 hI2  hlt hp => hK (l1, l2) hI2 hlt hp) hI  rfl) N _ hI hN hM
theorem tX9_isAsNow {N : Nat} {v_houses : Int32} {v_front : Int32} {v_down : Int32} {v_frontThen : Int32} {v_downThen : Int32} {v_plotsThen : (Nat → Int32)} {v_plots : (Nat → Int32)} {v_rowThen : (Nat → Int32)} {v_row : (Nat → Int32)}  (hN : 49999 < N) (h_v_houses : RB 0 6 v_houses) (h_v_front : RB 0 11 v_front) (h_v_frontThen : RB 0 11 v_frontThen) (h_v_plotsThen : RA (-1) 11 v_plotsThen) (h_v_plots : RA (-1) 11 v_plots) (h_v_rowThen : RA 0 5 v_rowThen) (h_v_row : RA 0 5 v_row)  : Ok (fun r => (r = 0 ∨ r = 1)) (fX9_isAsNow N v_houses v_front v_down v_frontThen v_downThen v_plotsThen v_plots v_rowThen v_row) := by
  unfold fX9_isAsNow
  refine ok_if (fun c_1 => ?_) (fun c_1 => ?_)
  · refine ok_if (fun c_2 => ?_) (fun c_2 => ?_)
    · exact lX9_isAsNow_30  hN h_v_houses h_v_front h_v_frontThen h_v_plotsThen h_v_plots h_v_rowThen h_v_row  _ _ ⟨(by grind), (by grind)⟩  (by grind)
    · exact lX9_isAsNow_30  hN h_v_houses h_v_front h_v_frontThen h_v_plotsThen h_v_plots h_v_rowThen h_v_row  _ _ ⟨(by grind), (by grind)⟩  (by grind)
  · exact lX9_isAsNow_30  hN h_v_houses h_v_front h_v_frontThen h_v_plotsThen h_v_plots h_v_rowThen h_v_row  _ _ ⟨(by grind), (by grind)⟩  (by grind)
theorem sX9_againOf_6 {N : Nat} {v_houses : Int32} {v_front : Int32} {v_down : Int32} {v_plots : (Nat → Int32)} {v_row : (Nat → Int32)} {v_kinds : (Nat → Int32)} {K_6 : Int32 → Int32 → Int32 → (Nat → Int32) → (Nat → Int32) → Option (Int32 × Int32 × Int32 × (Nat → Int32) × (Nat → Int32))} {l1 : Int32} {v_frontThen : Int32} {v_downThen : Int32} {v_plotsThen : (Nat → Int32)} {v_rowThen : (Nat → Int32)}  {m_6 : Int32} (hN : 49999 < N) (h_v_houses : RB 1 6 v_houses) (h_v_front : RB 0 11 v_front) (h_v_plots : RA (-1) 11 v_plots) (h_v_row : RA 0 5 v_row) (hK_6 : ∀ (l1 : Int32) (v_frontThen : Int32) (v_downThen : Int32) (v_plotsThen : (Nat → Int32)) (v_rowThen : (Nat → Int32)), RB 0 11 v_frontThen ∧ RA (-1) 11 v_plotsThen ∧ RA 0 5 v_rowThen ∧ 0 ≤ l1 → ((401 : Int32) - l1) < m_6 → 0 < m_6 → Ok (fun r => RB 0 11 r.2.1 ∧ RA (-1) 11 r.2.2.2.1 ∧ RA 0 5 r.2.2.2.2) (K_6 l1 v_frontThen v_downThen v_plotsThen v_rowThen)) (hI : RB 0 11 v_frontThen ∧ RA (-1) 11 v_plotsThen ∧ RA 0 5 v_rowThen ∧ 0 ≤ l1) (hm_6 : ((401 : Int32) - l1) = m_6) : Ok (fun r => RB 0 11 r.2.1 ∧ RA (-1) 11 r.2.2.2.1 ∧ RA 0 5 r.2.2.2.2) (fX9_againOf_6 N v_houses v_front v_down v_plots v_row v_kinds K_6 l1 v_frontThen v_downThen v_plotsThen v_rowThen) := by
  obtain ⟨h_v_frontThen, h_v_plotsThen, h_v_rowThen, h_l1⟩ := hI
  unfold fX9_againOf_6
  refine ok_if (fun c_1 => ?_) (fun c_1 => ?_)
  · exact ok_s ⟨h_v_frontThen, h_v_plotsThen, h_v_rowThen⟩
  · refine ok_b (tX9_goOn hN h_v_houses h_v_frontThen h_v_rowThen h_v_plotsThen) (fun x_14 hx => ?_)
    obtain ⟨h_x_14_0, h_x_14_1, h_x_14_2, h_x_14_3, h_x_14_4⟩ := hx
    refine ok_b (tX9_isAsNow hN (by clear hm_6 hK_6; grind) h_v_front h_x_14_0 h_x_14_2 h_v_plots h_x_14_1 h_v_row) (fun x_19 hx => ?_)
    have h_x_19_0 := hx
    refine ok_if (fun c_2 => ?_) (fun c_2 => ?_)
    · exact hK_6 _ _ _ _ _ ⟨h_x_14_0, h_x_14_2, h_x_14_1, (by clear hm_6 hK_6; grind)⟩ (by clear hK_6; grind) (by clear hK_6; grind)
    · exact ok_s ⟨h_x_14_0, h_x_14_2, h_x_14_1⟩
theorem lX9_againOf_6 {N : Nat} {v_houses : Int32} {v_front : Int32} {v_down : Int32} {v_plots : (Nat → Int32)} {v_row : (Nat → Int32)} {v_kinds : (Nat → Int32)}  (hN : 49999 < N) (h_v_houses : RB 1 6 v_houses) (h_v_front : RB 0 11 v_front) (h_v_plots : RA (-1) 11 v_plots) (h_v_row : RA 0 5 v_row)  : ∀ (l1 : Int32) (v_frontThen : Int32) (v_downThen : Int32) (v_plotsThen : (Nat → Int32)) (v_rowThen : (Nat → Int32)), RB 0 11 v_frontThen ∧ RA (-1) 11 v_plotsThen ∧ RA 0 5 v_rowThen ∧ 0 ≤ l1 → ((401 : Int32) - l1) ≤ 49999 → Ok (fun r => RB 0 11 r.2.1 ∧ RA (-1) 11 r.2.2.2.1 ∧ RA 0 5 r.2.2.2.2) (lfix (fun (K : Int32 × Int32 × Int32 × (Nat → Int32) × (Nat → Int32) → Option (Int32 × Int32 × Int32 × (Nat → Int32) × (Nat → Int32))) (a : Int32 × Int32 × Int32 × (Nat → Int32) × (Nat → Int32)) => fX9_againOf_6 N v_houses v_front v_down v_plots v_row v_kinds (fun (l1 : Int32) (v_frontThen : Int32) (v_downThen : Int32) (v_plotsThen : (Nat → Int32)) (v_rowThen : (Nat → Int32)) => K (l1, v_frontThen, v_downThen, v_plotsThen, v_rowThen)) a.1 a.2.1 a.2.2.1 a.2.2.2.1 a.2.2.2.2) N (l1, v_frontThen, v_downThen, v_plotsThen, v_rowThen)) := by
  intro l1 v_frontThen v_downThen v_plotsThen v_rowThen hI hM
  exact ok_l (I := fun (a : Int32 × Int32 × Int32 × (Nat → Int32) × (Nat → Int32)) => (RB 0 11 a.2.1 ∧ RA (-1) 11 a.2.2.2.1 ∧ RA 0 5 a.2.2.2.2 ∧ 0 ≤ a.1)) (M := fun (a : Int32 × Int32 × Int32 × (Nat → Int32) × (Nat → Int32)) => ((401 : Int32) - a.1)) (fun K a hI hK => sX9_againOf_6  hN h_v_houses h_v_front h_v_plots h_v_row  (fun l1 v_frontThen v_downThen v_plotsThen v_rowThen hI2  hlt hp => hK (l1, v_frontThen, v_downThen, v_plotsThen, v_rowThen) hI2 hlt hp) hI  rfl) N _ hI hN hM
theorem tX9_againOf {N : Nat} {v_houses : Int32} {v_front : Int32} {v_down : Int32} {v_plots : (Nat → Int32)} {v_row : (Nat → Int32)} {v_kinds : (Nat → Int32)} {v_frontThen : Int32} {v_downThen : Int32} {v_plotsThen : (Nat → Int32)} {v_rowThen : (Nat → Int32)}  (hN : 49999 < N) (h_v_houses : RB 1 6 v_houses) (h_v_front : RB 0 11 v_front) (h_v_plots : RA (-1) 11 v_plots) (h_v_row : RA 0 5 v_row) (h_v_frontThen : RB 0 11 v_frontThen) (h_v_plotsThen : RA (-1) 11 v_plotsThen) (h_v_rowThen : RA 0 5 v_rowThen)  : Ok (fun r => RB 0 11 r.2.1 ∧ RA (-1) 11 r.2.2.2.1 ∧ RA 0 5 r.2.2.2.2) (fX9_againOf N v_houses v_front v_down v_plots v_row v_kinds v_frontThen v_downThen v_plotsThen v_rowThen) := by
  unfold fX9_againOf
  refine ok_b (tX9_begin hN h_v_front h_v_plots h_v_row h_v_frontThen h_v_plotsThen h_v_rowThen) (fun x_1 hx => ?_)
  obtain ⟨h_x_1_0, h_x_1_1, h_x_1_2, h_x_1_3, h_x_1_4, h_x_1_5⟩ := hx
  exact lX9_againOf_6  hN h_v_houses h_v_front h_v_plots h_v_row  _ _ _ _ _ ⟨h_x_1_0, h_x_1_1, h_x_1_2, (by grind)⟩  (by grind)
theorem tX9_again {N : Nat} {v_houses : Int32} {v_front : Int32} {v_down : Int32} {v_plots : (Nat → Int32)} {v_row : (Nat → Int32)} {v_kinds : (Nat → Int32)} {v_frontThen : Int32} {v_downThen : Int32} {v_plotsThen : (Nat → Int32)} {v_rowThen : (Nat → Int32)}  (hN : 49999 < N) (h_v_houses : RB 0 6 v_houses) (h_v_front : RB 0 11 v_front) (h_v_plots : RA (-1) 11 v_plots) (h_v_row : RA 0 5 v_row) (h_v_frontThen : RB 0 11 v_frontThen) (h_v_plotsThen : RA (-1) 11 v_plotsThen) (h_v_rowThen : RA 0 5 v_rowThen)  : Ok (fun r => RB 0 11 r.2.1 ∧ RA (-1) 11 r.2.2.2.1 ∧ RA 0 5 r.2.2.2.2) (fX9_again N v_houses v_front v_down v_plots v_row v_kinds v_frontThen v_downThen v_plotsThen v_rowThen) := by
  unfold fX9_again
  refine ok_b (tX9_lacks hN h_v_houses) (fun x_1 hx => ?_)
  have h_x_1_0 := hx
  refine ok_if (fun c_1 => ?_) (fun c_1 => ?_)
  · refine ok_b (tX9_againOf hN (by grind) h_v_front h_v_plots h_v_row h_v_frontThen h_v_plotsThen h_v_rowThen) (fun x_13 hx => ?_)
    obtain ⟨h_x_13_0, h_x_13_1, h_x_13_2⟩ := hx
    exact ok_s ⟨h_x_13_0, h_x_13_1, h_x_13_2⟩
  · exact ok_s ⟨h_v_frontThen, h_v_plotsThen, h_v_rowThen⟩
