theorem tX9_square {N : Nat} {v_page : (Nat → Int32)} {v_pageMany : Int32} {v_houses : Int32} {v_nights : Int32} {v_squaresRead : Int32} {v_front : Int32} {v_down : Int32} {v_wishesMany : Int32} {v_seenMany : Int32} {v_worths : (Nat → Int32)} {v_kinds : (Nat → Int32)} {v_likes : (Nat → Int32)} {v_had : (Nat → Int32)} {v_plots : (Nat → Int32)} {v_row : (Nat → Int32)}  (hN : 49999 < N) (h_v_page : RA 0 126 v_page) (h_v_pageMany : RB 0 32 v_pageMany) (h_v_houses : RB 0 6 v_houses) (h_v_nights : RB 0 999 v_nights) (h_v_front : RB 0 11 v_front) (h_v_wishesMany : RB 0 5 v_wishesMany) (h_v_seenMany : RB 0 6 v_seenMany) (h_v_plots : RA (-1) 11 v_plots) (h_v_row : RA 0 5 v_row)  : Ok (fun r => RB 0 32 r.2.1 ∧ RB 0 6 r.2.2.1 ∧ RB 0 999 r.2.2.2.1 ∧ RB 0 11 r.2.2.2.2.2.1 ∧ RB 0 5 r.2.2.2.2.2.2.2.1 ∧ RB 0 6 r.2.2.2.2.2.2.2.2.1 ∧ RA (-1) 11 r.2.2.2.2.2.2.2.2.2.2.2.2.2.1 ∧ RA 0 5 r.2.2.2.2.2.2.2.2.2.2.2.2.2.2 ∧ (¬ SQ v_pageMany v_page ∧ r.1 = -103 ∧ r.2.1 = v_pageMany ∧ r.2.2.2.2.1 = v_squaresRead ∧ r.2.2.1 = v_houses ∧ r.2.2.2.1 = v_nights ∧ r.2.2.2.2.2.2.2.1 = v_wishesMany ∧ r.2.2.2.2.2.2.2.2.1 = v_seenMany ∨ SQ v_pageMany v_page ∧ r.1 = r.2.2.1 ∧ r.2.1 = 0 ∧ r.2.2.2.2.1 = v_squaresRead + 1 ∧ r.2.2.1 = (v_pageMany - 12) / 3 ∧ 2 ≤ r.2.2.1 ∧ r.2.2.2.1 = 0 ∧ r.2.2.2.2.2.2.2.1 = 0 ∧ r.2.2.2.2.2.2.2.2.1 = 0) ∧ (SJ v_houses v_row → SJ r.2.2.1 r.2.2.2.2.2.2.2.2.2.2.2.2.2.2) ∧ (SQ v_pageMany v_page → r.2.2.2.2.2.1 = r.2.2.1 - 1 ∧ r.2.2.2.2.2.2.1 = 0) ∧ (SQ v_pageMany v_page → r.2.2.2.2.2.2.2.2.2.1 = fl 12 (fun k => v_page k - 48) v_worths) ∧ (SQ v_pageMany v_page → r.2.2.2.2.2.2.2.2.2.2.1 = fl r.2.2.1 (fun k => kc (v_page (13 + 3 * k))) v_kinds) ∧ (SQ v_pageMany v_page → r.2.2.2.2.2.2.2.2.2.2.2.1 = fl r.2.2.1 (fun k => v_page (14 + 3 * k) - 97) v_likes) ∧ (SQ v_pageMany v_page → r.2.2.2.2.2.2.2.2.2.2.2.2.1 = fl r.2.2.1 (fun _ => 0) v_had) ∧ (SQ v_pageMany v_page → r.2.2.2.2.2.2.2.2.2.2.2.2.2.1 = fl r.2.2.1 (fun k => nI k) v_plots) ∧ (SQ v_pageMany v_page → r.2.2.2.2.2.2.2.2.2.2.2.2.2.2 = fl r.2.2.1 (fun k => nI k) v_row) ∧ (¬ SQ v_pageMany v_page → r.2.2.2.2.2.1 = v_front ∧ r.2.2.2.2.2.2.1 = v_down ∧ r.2.2.2.2.2.2.2.2.2.1 = v_worths ∧ r.2.2.2.2.2.2.2.2.2.2.1 = v_kinds ∧ r.2.2.2.2.2.2.2.2.2.2.2.1 = v_likes ∧ r.2.2.2.2.2.2.2.2.2.2.2.2.1 = v_had ∧ r.2.2.2.2.2.2.2.2.2.2.2.2.2.1 = v_plots ∧ r.2.2.2.2.2.2.2.2.2.2.2.2.2.2 = v_row)) (fX9_square N v_page v_pageMany v_houses v_nights v_squaresRead v_front v_down v_wishesMany v_seenMany v_worths v_kinds v_likes v_had v_plots v_row) := by
  unfold fX9_square
  refine ok_if (fun c_1 => ?_) (fun c_1 => ?_)
  · exact ok_s ⟨h_v_pageMany, h_v_houses, h_v_nights, h_v_front, h_v_wishesMany, h_v_seenMany, h_v_plots, h_v_row, (by have q : ¬ SQ v_pageMany v_page := (by first | exact sqr_no1 c_1 | exact sqr_no2 h_v_pageMany c_1 c_2 | exact sqr_no3 h_x_19_0 c_3); grind), (fun q => q), (fun w => absurd w (by first | exact sqr_no1 c_1 | exact sqr_no2 h_v_pageMany c_1 c_2 | exact sqr_no3 h_x_19_0 c_3)), (fun w => absurd w (by first | exact sqr_no1 c_1 | exact sqr_no2 h_v_pageMany c_1 c_2 | exact sqr_no3 h_x_19_0 c_3)), (fun w => absurd w (by first | exact sqr_no1 c_1 | exact sqr_no2 h_v_pageMany c_1 c_2 | exact sqr_no3 h_x_19_0 c_3)), (fun w => absurd w (by first | exact sqr_no1 c_1 | exact sqr_no2 h_v_pageMany c_1 c_2 | exact sqr_no3 h_x_19_0 c_3)), (fun w => absurd w (by first | exact sqr_no1 c_1 | exact sqr_no2 h_v_pageMany c_1 c_2 | exact sqr_no3 h_x_19_0 c_3)), (fun w => absurd w (by first | exact sqr_no1 c_1 | exact sqr_no2 h_v_pageMany c_1 c_2 | exact sqr_no3 h_x_19_0 c_3)), (fun w => absurd w (by first | exact sqr_no1 c_1 | exact sqr_no2 h_v_pageMany c_1 c_2 | exact sqr_no3 h_x_19_0 c_3)), (fun _ => ⟨rfl, rfl, rfl, rfl, rfl, rfl, rfl, rfl⟩)⟩
  · refine ok_if (fun c_2 => ?_) (fun c_2 => ?_)
    · refine ok_b (tX9_faultOf hN h_v_pageMany h_v_page) (fun x_19 hx => ?_)
      have h_x_19_0 := hx
      refine ok_if (fun c_3 => ?_) (fun c_3 => ?_)
      · exact lX9_square_47 (g_v_pageMany := v_pageMany) (g_v_squaresRead := v_squaresRead) (g_v_houses := v_houses) (g_v_nights := v_nights) (g_v_wishesMany := v_wishesMany) (g_v_seenMany := v_seenMany) (g_v_row := v_row) (g_v_worths := v_worths) (g_v_kinds := v_kinds) (g_v_likes := v_likes) (g_v_had := v_had) (g_v_plots := v_plots) (g_v_front := v_front) (g_v_down := v_down) hN h_v_page  _ _ _ _ _ _ _ _ _ _ _ _ _ _ _ ⟨h_v_pageMany, (by have := (fun q => dv_h h_v_pageMany q : 18 ≤ v_pageMany → _); grind), h_v_nights, h_v_front, h_v_wishesMany, h_v_seenMany, h_v_plots, h_v_row, (by have := (fun q => dv_h h_v_pageMany q : 18 ≤ v_pageMany → _); grind), (sqr_yes h_v_pageMany c_1 c_2 h_x_19_0 c_3), (by have := (fun q => dv_h h_v_pageMany q : 18 ≤ v_pageMany → _); grind), (by have := (fun q => dv_h h_v_pageMany q : 18 ≤ v_pageMany → _); grind), (by have := (fun q => dv_h h_v_pageMany q : 18 ≤ v_pageMany → _); grind), (fl_0 _ _), (by have := (fun q => dv_h h_v_pageMany q : 18 ≤ v_pageMany → _); grind), (by have := (fun q => dv_h h_v_pageMany q : 18 ≤ v_pageMany → _); grind), (by have := (fun q => dv_h h_v_pageMany q : 18 ≤ v_pageMany → _); grind), (by have := (fun q => dv_h h_v_pageMany q : 18 ≤ v_pageMany → _); grind), (by have := (fun q => dv_h h_v_pageMany q : 18 ≤ v_pageMany → _); grind), (by have := (fun q => dv_h h_v_pageMany q : 18 ≤ v_pageMany → _); grind)⟩  (by have := (fun q => dv_h h_v_pageMany q : 18 ≤ v_pageMany → _); grind)
      · exact ok_s ⟨h_v_pageMany, h_v_houses, h_v_nights, h_v_front, h_v_wishesMany, h_v_seenMany, h_v_plots, h_v_row, (by have q : ¬ SQ v_pageMany v_page := (by first | exact sqr_no1 c_1 | exact sqr_no2 h_v_pageMany c_1 c_2 | exact sqr_no3 h_x_19_0 c_3); grind), (fun q => q), (fun w => absurd w (by first | exact sqr_no1 c_1 | exact sqr_no2 h_v_pageMany c_1 c_2 | exact sqr_no3 h_x_19_0 c_3)), (fun w => absurd w (by first | exact sqr_no1 c_1 | exact sqr_no2 h_v_pageMany c_1 c_2 | exact sqr_no3 h_x_19_0 c_3)), (fun w => absurd w (by first | exact sqr_no1 c_1 | exact sqr_no2 h_v_pageMany c_1 c_2 | exact sqr_no3 h_x_19_0 c_3)), (fun w => absurd w (by first | exact sqr_no1 c_1 | exact sqr_no2 h_v_pageMany c_1 c_2 | exact sqr_no3 h_x_19_0 c_3)), (fun w => absurd w (by first | exact sqr_no1 c_1 | exact sqr_no2 h_v_pageMany c_1 c_2 | exact sqr_no3 h_x_19_0 c_3)), (fun w => absurd w (by first | exact sqr_no1 c_1 | exact sqr_no2 h_v_pageMany c_1 c_2 | exact sqr_no3 h_x_19_0 c_3)), (fun w => absurd w (by first | exact sqr_no1 c_1 | exact sqr_no2 h_v_pageMany c_1 c_2 | exact sqr_no3 h_x_19_0 c_3)), (fun _ => ⟨rfl, rfl, rfl, rfl, rfl, rfl, rfl, rfl⟩)⟩
    · exact ok_s ⟨h_v_pageMany, h_v_houses, h_v_nights, h_v_front, h_v_wishesMany, h_v_seenMany, h_v_plots, h_v_row, (by have q : ¬ SQ v_pageMany v_page := (by first | exact sqr_no1 c_1 | exact sqr_no2 h_v_pageMany c_1 c_2 | exact sqr_no3 h_x_19_0 c_3); grind), (fun q => q), (fun w => absurd w (by first | exact sqr_no1 c_1 | exact sqr_no2 h_v_pageMany c_1 c_2 | exact sqr_no3 h_x_19_0 c_3)), (fun w => absurd w (by first | exact sqr_no1 c_1 | exact sqr_no2 h_v_pageMany c_1 c_2 | exact sqr_no3 h_x_19_0 c_3)), (fun w => absurd w (by first | exact sqr_no1 c_1 | exact sqr_no2 h_v_pageMany c_1 c_2 | exact sqr_no3 h_x_19_0 c_3)), (fun w => absurd w (by first | exact sqr_no1 c_1 | exact sqr_no2 h_v_pageMany c_1 c_2 | exact sqr_no3 h_x_19_0 c_3)), (fun w => absurd w (by first | exact sqr_no1 c_1 | exact sqr_no2 h_v_pageMany c_1 c_2 | exact sqr_no3 h_x_19_0 c_3)), (fun w => absurd w (by first | exact sqr_no1 c_1 | exact sqr_no2 h_v_pageMany c_1 c_2 | exact sqr_no3 h_x_19_0 c_3)), (fun w => absurd w (by first | exact sqr_no1 c_1 | exact sqr_no2 h_v_pageMany c_1 c_2 | exact sqr_no3 h_x_19_0 c_3)), (fun _ => ⟨rfl, rfl, rfl, rfl, rfl, rfl, rfl, rfl⟩)⟩
theorem tX9_lacks {N : Nat} {v_houses : Int32}  (hN : 49999 < N) (h_v_houses : RB 0 6 v_houses)  : Ok (fun r => (r = 0 ∧ ¬(v_houses = 0) ∨ r = 1 ∧ v_houses = 0)) (fX9_lacks N v_houses) := by
  unfold fX9_lacks
  refine ok_if (fun c_1 => ?_) (fun c_1 => ?_)
  · exact ok_s (by grind)
  · exact ok_s (by grind)
theorem tX9_isHouse {N : Nat} {v_houses : Int32} {a1 : Int32}  (hN : 49999 < N) (h_v_houses : RB 0 6 v_houses)  : Ok (fun r => (r = 0 ∧ ¬(0 ≤ a1 ∧ a1 < v_houses) ∨ r = 1 ∧ 0 ≤ a1 ∧ a1 < v_houses)) (fX9_isHouse N v_houses a1) := by
  unfold fX9_isHouse
  refine ok_b (in_ok (a := (a1)) (lo := (0 : Int32)) (hi := ((v_houses - (1 : Int32)))) rfl rfl) (fun x_10 hx => ?_)
  have h_x_10 := hx
  refine ok_g (by grind) ?_
  exact ok_s (by grind)
theorem tX9_areTwo {N : Nat} {v_houses : Int32} {a1 : Int32} {a2 : Int32}  (hN : 49999 < N) (h_v_houses : RB 0 6 v_houses)  : Ok (fun r => (r = 0 ∧ ¬(0 ≤ a1 ∧ a1 < v_houses ∧ 0 ≤ a2 ∧ a2 < v_houses ∧ a1 ≠ a2) ∨ r = 1 ∧ 0 ≤ a1 ∧ a1 < v_houses ∧ 0 ≤ a2 ∧ a2 < v_houses ∧ a1 ≠ a2)) (fX9_areTwo N v_houses a1 a2) := by
  unfold fX9_areTwo
  refine ok_b (tX9_isHouse hN h_v_houses) (fun x_2 hx => ?_)
  have h_x_2_0 := hx
  refine ok_if (fun c_1 => ?_) (fun c_1 => ?_)
  · exact ok_s (by grind)
  · refine ok_b (tX9_isHouse hN h_v_houses) (fun x_10 hx => ?_)
    have h_x_10_0 := hx
    refine ok_if (fun c_2 => ?_) (fun c_2 => ?_)
    · exact ok_s (by grind)
    · refine ok_if (fun c_3 => ?_) (fun c_3 => ?_)
      · exact ok_s (by grind)
      · exact ok_s (by grind)
theorem tX9_isPlot {N : Nat} {a0 : Int32}  (hN : 49999 < N)   : Ok (fun r => (r = 0 ∧ ¬(0 ≤ a0 ∧ a0 < 12) ∨ r = 1 ∧ 0 ≤ a0 ∧ a0 < 12)) (fX9_isPlot N a0) := by
  unfold fX9_isPlot
  refine ok_b (in_ok (a := (a0)) (lo := (0 : Int32)) (hi := (11 : Int32)) rfl rfl) (fun x_6 hx => ?_)
  have h_x_6 := hx
  refine ok_g (by grind) ?_
  exact ok_s (by grind)
theorem tX9_begin {N : Nat} {v_front : Int32} {v_down : Int32} {v_plots : (Nat → Int32)} {v_row : (Nat → Int32)} {v_frontThen : Int32} {v_downThen : Int32} {v_plotsThen : (Nat → Int32)} {v_rowThen : (Nat → Int32)}  (hN : 49999 < N) (h_v_front : RB 0 11 v_front) (h_v_plots : RA (-1) 11 v_plots) (h_v_row : RA 0 5 v_row) (h_v_frontThen : RB 0 11 v_frontThen) (h_v_plotsThen : RA (-1) 11 v_plotsThen) (h_v_rowThen : RA 0 5 v_rowThen)  : Ok (fun r => RB 0 11 r.1 ∧ RA (-1) 11 r.2.2.1 ∧ RA 0 5 r.2.2.2 ∧ (r.2.2.2 = va_cpy v_row v_rowThen 0 0 6) ∧ (r.2.2.1 = va_cpy v_plots v_plotsThen 0 0 6) ∧ (r.1 = v_front ∧ r.2.1 = v_down)) (fX9_begin N v_front v_down v_plots v_row v_frontThen v_downThen v_plotsThen v_rowThen) := by
  unfold fX9_begin
  refine ok_b (cp_ok hN (by decide)) (fun x_8 hx => ?_)
  subst hx
  refine ok_b (cp_ok hN (by decide)) (fun x_19 hx => ?_)
  subst hx
  exact ok_s ⟨h_v_front, (RA.cpy h_v_plots h_v_plotsThen), (RA.cpy h_v_row h_v_rowThen), (by grind), (by grind), (by grind)⟩
theorem tX9_takeThen {N : Nat} {v_frontThen : Int32} {v_downThen : Int32} {v_plotsThen : (Nat → Int32)} {v_rowThen : (Nat → Int32)} {v_front : Int32} {v_down : Int32} {v_plots : (Nat → Int32)} {v_row : (Nat → Int32)}  (hN : 49999 < N) (h_v_frontThen : RB 0 11 v_frontThen) (h_v_plotsThen : RA (-1) 11 v_plotsThen) (h_v_rowThen : RA 0 5 v_rowThen) (h_v_front : RB 0 11 v_front) (h_v_plots : RA (-1) 11 v_plots) (h_v_row : RA 0 5 v_row)  : Ok (fun r => RB 0 11 r.1 ∧ RA (-1) 11 r.2.2.1 ∧ RA 0 5 r.2.2.2 ∧ (r.2.2.2 = va_cpy v_rowThen v_row 0 0 6) ∧ (r.2.2.1 = va_cpy v_plotsThen v_plots 0 0 6 ∧ r.1 = v_frontThen ∧ r.2.1 = v_downThen)) (fX9_takeThen N v_frontThen v_downThen v_plotsThen v_rowThen v_front v_down v_plots v_row) := by
  unfold fX9_takeThen
  refine ok_b (cp_ok hN (by decide)) (fun x_8 hx => ?_)
  subst hx
  refine ok_b (cp_ok hN (by decide)) (fun x_19 hx => ?_)
  subst hx
  exact ok_s ⟨h_v_frontThen, (RA.cpy h_v_plotsThen h_v_plots), (RA.cpy h_v_rowThen h_v_row), (by grind), (by grind)⟩
theorem sX9_onThen_2 {N : Nat} {v_houses : Int32} {v_plotsThen : (Nat → Int32)} {a1 : Int32} {K_2 : Int32 → Option (Int32)} {l2 : Int32}  {m_2 : Int32} (hN : 49999 < N) (h_v_houses : RB 0 6 v_houses) (h_v_plotsThen : RA (-1) 11 v_plotsThen) (hK_2 : ∀ (l2 : Int32), 0 ≤ l2 ∧ (FR l2 v_plotsThen a1) → (v_houses - l2) < m_2 → 0 < m_2 → Ok (fun r => (r = -1 ∧ FR v_houses v_plotsThen a1 ∨ r ≠ -1 ∧ ¬ FR v_houses v_plotsThen a1)) (K_2 l2)) (hI : 0 ≤ l2 ∧ (FR l2 v_plotsThen a1)) (hm_2 : (v_houses - l2) = m_2) : Ok (fun r => (r = -1 ∧ FR v_houses v_plotsThen a1 ∨ r ≠ -1 ∧ ¬ FR v_houses v_plotsThen a1)) (fX9_onThen_2 N v_houses v_plotsThen a1 K_2 l2) := by
  obtain ⟨h_l2, e_0⟩ := hI
  unfold fX9_onThen_2
  refine ok_if (fun c_1 => ?_) (fun c_1 => ?_)
  · exact ok_s (by clear hK_2; first | exact Or.inl ⟨rfl, fr_end e_0 (by assumption)⟩ | exact Or.inr ⟨by grind, fun q => q l2 (by grind) (by grind) (by assumption)⟩)
  · refine ok_g (ng6 (by clear hm_2 hK_2; grind)) ?_
    refine ok_if (fun c_2 => ?_) (fun c_2 => ?_)
    · exact ok_s (by clear hK_2; first | exact Or.inl ⟨rfl, fr_end e_0 (by assumption)⟩ | exact Or.inr ⟨by grind, fun q => q l2 (by grind) (by grind) (by assumption)⟩)
    · exact hK_2 _ ⟨(by clear hm_2 hK_2; grind), (fr_step e_0 (by assumption) (by clear hK_2; grind))⟩ (by clear hK_2; grind) (by clear hK_2; grind)
theorem lX9_onThen_2 {N : Nat} {v_houses : Int32} {v_plotsThen : (Nat → Int32)} {a1 : Int32}  (hN : 49999 < N) (h_v_houses : RB 0 6 v_houses) (h_v_plotsThen : RA (-1) 11 v_plotsThen)  : ∀ (l2 : Int32), 0 ≤ l2 ∧ (FR l2 v_plotsThen a1) → (v_houses - l2) ≤ 49999 → Ok (fun r => (r = -1 ∧ FR v_houses v_plotsThen a1 ∨ r ≠ -1 ∧ ¬ FR v_houses v_plotsThen a1)) (lfix (fun (K : Int32 → Option (Int32)) (a : Int32) => fX9_onThen_2 N v_houses v_plotsThen a1 (fun (l2 : Int32) => K l2) a) N (l2)) := by
  intro l2 hI hM
  exact ok_l (I := fun (a : Int32) => (0 ≤ a ∧ (FR a v_plotsThen a1))) (M := fun (a : Int32) => (v_houses - a)) (fun K a hI hK => sX9_onThen_2  hN h_v_houses h_v_plotsThen  (fun l2 hI2  hlt hp => hK (l2) hI2 hlt hp) hI  rfl) N _ hI hN hM
theorem tX9_onThen {N : Nat} {v_houses : Int32} {v_plotsThen : (Nat → Int32)} {a1 : Int32}  (hN : 49999 < N) (h_v_houses : RB 0 6 v_houses) (h_v_plotsThen : RA (-1) 11 v_plotsThen)  : Ok (fun r => (r = -1 ∧ FR v_houses v_plotsThen a1 ∨ r ≠ -1 ∧ ¬ FR v_houses v_plotsThen a1)) (fX9_onThen N v_houses v_plotsThen a1) := by
  unfold fX9_onThen
  exact lX9_onThen_2  hN h_v_houses h_v_plotsThen  _ ⟨(by grind), fr_0⟩  (by grind)
theorem sX9_putUp_74 {N : Nat} {v_houses : Int32} {v_kinds : (Nat → Int32)} {K_74 : Int32 → Int32 → Int32 → (Nat → Int32) → (Nat → Int32) → Option (Int32 × (Nat → Int32) × (Nat → Int32))} {l1 : Int32} {l4 : Int32} {v_frontThen : Int32} {v_rowThen : (Nat → Int32)} {v_plotsThen : (Nat → Int32)} {g_v_rowThen : (Nat → Int32)} {g_v_frontThen : Int32} {g_v_plotsThen : (Nat → Int32)} {m_74 : Int32} (hN : 49999 < N) (h_v_houses : RB 1 6 v_houses) (hK_74 : ∀ (l1 : Int32) (l4 : Int32) (v_frontThen : Int32) (v_rowThen : (Nat → Int32)) (v_plotsThen : (Nat → Int32)), RB 0 5 l1 ∧ RB 1 6 l4 ∧ RB 0 11 v_frontThen ∧ RA 0 5 v_rowThen ∧ RA (-1) 11 v_plotsThen ∧ (v_rowThen = rotp l4 g_v_rowThen) ∧ (l1 = g_v_rowThen 0) ∧ (l4 ≤ v_houses) ∧ (v_frontThen = mvq v_houses v_kinds g_v_frontThen g_v_rowThen g_v_plotsThen ∧ v_plotsThen = upd g_v_plotsThen (g_v_rowThen 0).toNatClampNeg v_frontThen) → (v_houses - l4) < m_74 → 0 < m_74 → Ok (fun r => RB 0 11 r.1 ∧ RA 0 5 r.2.1 ∧ RA (-1) 11 r.2.2 ∧ (r.2.1 = rot v_houses g_v_rowThen) ∧ (r.1 = mvq v_houses v_kinds g_v_frontThen g_v_rowThen g_v_plotsThen ∧ r.2.2 = upd g_v_plotsThen (g_v_rowThen 0).toNatClampNeg r.1)) (K_74 l1 l4 v_frontThen v_rowThen v_plotsThen)) (hI : RB 0 5 l1 ∧ RB 1 6 l4 ∧ RB 0 11 v_frontThen ∧ RA 0 5 v_rowThen ∧ RA (-1) 11 v_plotsThen ∧ (v_rowThen = rotp l4 g_v_rowThen) ∧ (l1 = g_v_rowThen 0) ∧ (l4 ≤ v_houses) ∧ (v_frontThen = mvq v_houses v_kinds g_v_frontThen g_v_rowThen g_v_plotsThen ∧ v_plotsThen = upd g_v_plotsThen (g_v_rowThen 0).toNatClampNeg v_frontThen)) (hm_74 : (v_houses - l4) = m_74) : Ok (fun r => RB 0 11 r.1 ∧ RA 0 5 r.2.1 ∧ RA (-1) 11 r.2.2 ∧ (r.2.1 = rot v_houses g_v_rowThen) ∧ (r.1 = mvq v_houses v_kinds g_v_frontThen g_v_rowThen g_v_plotsThen ∧ r.2.2 = upd g_v_plotsThen (g_v_rowThen 0).toNatClampNeg r.1)) (fX9_putUp_74 N v_houses v_kinds K_74 l1 l4 v_frontThen v_rowThen v_plotsThen) := by
  obtain ⟨h_l1, h_l4, h_v_frontThen, h_v_rowThen, h_v_plotsThen, e_0, e_1, e_2, e_3⟩ := hI
  unfold fX9_putUp_74
  refine ok_if (fun c_1 => ?_) (fun c_1 => ?_)
  · refine ok_g (ng6 (by clear hm_74 hK_74; grind)) ?_
    exact ok_s ⟨h_v_frontThen, (RA.upd h_v_rowThen (by clear hm_74 hK_74; grind)), h_v_plotsThen, (by clear hm_74 hK_74 e_3; rw [e_1]; exact rotp_end (by grind) (by grind) e_0), e_3⟩
  · refine ok_g (ng6 (by clear hm_74 hK_74; grind)) ?_
    refine ok_g (ng6 (by clear hm_74 hK_74; grind)) ?_
    exact hK_74 _ _ _ _ _ ⟨h_l1, (by clear hm_74 hK_74; grind), h_v_frontThen, (RA.upd h_v_rowThen (by clear hm_74 hK_74; have := h_v_rowThen ((l4).toNatClampNeg); grind)), h_v_plotsThen, (rotp_step (by clear hm_74 hK_74 e_3; grind) e_0), (by clear hm_74 hK_74; grind), (by clear hm_74 hK_74; grind), e_3⟩ (by clear hK_74; grind) (by clear hK_74; grind)
theorem lX9_putUp_74 {N : Nat} {v_houses : Int32} {v_kinds : (Nat → Int32)} {g_v_rowThen : (Nat → Int32)} {g_v_frontThen : Int32} {g_v_plotsThen : (Nat → Int32)} (hN : 49999 < N) (h_v_houses : RB 1 6 v_houses)  : ∀ (l1 : Int32) (l4 : Int32) (v_frontThen : Int32) (v_rowThen : (Nat → Int32)) (v_plotsThen : (Nat → Int32)), RB 0 5 l1 ∧ RB 1 6 l4 ∧ RB 0 11 v_frontThen ∧ RA 0 5 v_rowThen ∧ RA (-1) 11 v_plotsThen ∧ (v_rowThen = rotp l4 g_v_rowThen) ∧ (l1 = g_v_rowThen 0) ∧ (l4 ≤ v_houses) ∧ (v_frontThen = mvq v_houses v_kinds g_v_frontThen g_v_rowThen g_v_plotsThen ∧ v_plotsThen = upd g_v_plotsThen (g_v_rowThen 0).toNatClampNeg v_frontThen) → (v_houses - l4) ≤ 49999 → Ok (fun r => RB 0 11 r.1 ∧ RA 0 5 r.2.1 ∧ RA (-1) 11 r.2.2 ∧ (r.2.1 = rot v_houses g_v_rowThen) ∧ (r.1 = mvq v_houses v_kinds g_v_frontThen g_v_rowThen g_v_plotsThen ∧ r.2.2 = upd g_v_plotsThen (g_v_rowThen 0).toNatClampNeg r.1)) (lfix (fun (K : Int32 × Int32 × Int32 × (Nat → Int32) × (Nat → Int32) → Option (Int32 × (Nat → Int32) × (Nat → Int32))) (a : Int32 × Int32 × Int32 × (Nat → Int32) × (Nat → Int32)) => fX9_putUp_74 N v_houses v_kinds (fun (l1 : Int32) (l4 : Int32) (v_frontThen : Int32) (v_rowThen : (Nat → Int32)) (v_plotsThen : (Nat → Int32)) => K (l1, l4, v_frontThen, v_rowThen, v_plotsThen)) a.1 a.2.1 a.2.2.1 a.2.2.2.1 a.2.2.2.2) N (l1, l4, v_frontThen, v_rowThen, v_plotsThen)) := by
  intro l1 l4 v_frontThen v_rowThen v_plotsThen hI hM
  exact ok_l (I := fun (a : Int32 × Int32 × Int32 × (Nat → Int32) × (Nat → Int32)) => (RB 0 5 a.1 ∧ RB 1 6 a.2.1 ∧ RB 0 11 a.2.2.1 ∧ RA 0 5 a.2.2.2.1 ∧ RA (-1) 11 a.2.2.2.2 ∧ (a.2.2.2.1 = rotp a.2.1 g_v_rowThen) ∧ (a.1 = g_v_rowThen 0) ∧ (a.2.1 ≤ v_houses) ∧ (a.2.2.1 = mvq v_houses v_kinds g_v_frontThen g_v_rowThen g_v_plotsThen ∧ a.2.2.2.2 = upd g_v_plotsThen (g_v_rowThen 0).toNatClampNeg a.2.2.1))) (M := fun (a : Int32 × Int32 × Int32 × (Nat → Int32) × (Nat → Int32)) => (v_houses - a.2.1)) (fun K a hI hK => sX9_putUp_74 (g_v_rowThen := g_v_rowThen) (g_v_frontThen := g_v_frontThen) (g_v_plotsThen := g_v_plotsThen) hN h_v_houses  (fun l1 l4 v_frontThen v_rowThen v_plotsThen hI2  hlt hp => hK (l1, l4, v_frontThen, v_rowThen, v_plotsThen) hI2 hlt hp) hI  rfl) N _ hI hN hM
theorem pu_step {N : Nat} {v_houses : Int32} {v_kinds : Nat → Int32} {P : Int32 × (Nat → Int32) × (Nat → Int32) → Prop} {K : Int32 → Int32 → Int32 → Int32 → (Nat → Int32) → (Nat → Int32) → Option (Int32 × (Nat → Int32) × (Nat → Int32))} {h p f : Int32} {row plots : Nat → Int32} {c : Nat} (hN : 49999 < N) (hh : RB 1 6 v_houses) (hp : RA (-1) 11 plots) (hc : c ≤ 1) (a : FR v_houses plots (nx p) → Ok P (K h (nI c) (nx p) f row plots)) (b : ¬ FR v_houses plots (nx p) → Ok P (K h (nI (c + 1)) (nx p) f row plots)) : Ok P (fX9_putUp_28 N v_houses v_kinds K h (nI (c + 1)) p f row plots) := by
  have e1 : nI (c + 1) - 1 = nI c ∧ nI (c + 1) - 0 = nI (c + 1) ∧ ¬ nI (c + 1) ≤ 0 := by
    have : c = 0 ∨ c = 1 := by omega
    rcases this with rfl | rfl
    · exact ⟨rfl, rfl, by decide⟩
    · exact ⟨rfl, rfl, by decide⟩
  unfold fX9_putUp_28
  refine ok_if (fun q => absurd q e1.2.2) (fun _ => ?_)
  refine ok_b (tX9_onThen hN (by grind) hp) (fun x hx => ?_)
  refine ok_if (fun q => ?_) (fun q => ?_)
  · rw [e1.1]
    refine a ?_
    rcases hx with hx | hx
    · exact hx.2
    · exact absurd q hx.1
  · rw [e1.2.1]
    refine b ?_
    rcases hx with hx | hx
    · exact absurd hx.1 q
    · exact hx.2
theorem pu_all {N : Nat} {v_houses : Int32} {v_kinds : Nat → Int32} {h f E : Int32} {row plots : Nat → Int32} (hN : 49999 < N) (hh : RB 1 6 v_houses) (hp : RA (-1) 11 plots) (hr : RA 0 5 row) (hf : RB 0 11 f) (hl : RB 0 5 h) (eh : h = row 0) (hE : E = mvq v_houses v_kinds f row plots) : ∀ (c : Nat), c ≤ 2 → ∀ (s : Nat) (p : Int32) (n k : Nat), RB 0 11 p → (c = 0 ∨ 1 ≤ s ∧ s ≤ k ∧ FR v_houses plots (pos p s)) → 8 * c + s + 1 ≤ n → (c = 0 → E = p) → (c = 1 → E = sr (FR v_houses plots) k p) → (c = 2 → E = sr (FR v_houses plots) 11 (sr (FR v_houses plots) k p)) → Ok (fun r => RB 0 11 r.1 ∧ RA 0 5 r.2.1 ∧ RA (-1) 11 r.2.2 ∧ (r.2.1 = rot v_houses row) ∧ (r.1 = mvq v_houses v_kinds f row plots ∧ r.2.2 = upd plots (row 0).toNatClampNeg r.1)) (lfix (fun (K : Int32 × Int32 × Int32 × Int32 × (Nat → Int32) × (Nat → Int32) → Option (Int32 × (Nat → Int32) × (Nat → Int32))) (a : Int32 × Int32 × Int32 × Int32 × (Nat → Int32) × (Nat → Int32)) => fX9_putUp_28 N v_houses v_kinds (fun (l1 : Int32) (l2 : Int32) (l3 : Int32) (v_frontThen : Int32) (v_rowThen : (Nat → Int32)) (v_plotsThen : (Nat → Int32)) => K (l1, l2, l3, v_frontThen, v_rowThen, v_plotsThen)) a.1 a.2.1 a.2.2.1 a.2.2.2.1 a.2.2.2.2.1 a.2.2.2.2.2) n (h, nI c, p, f, row, plots)) := by
  intro c
  induction c with
  | zero =>
    intro _ s p n k hpp _ hn E0 _ _
    obtain ⟨m, rfl⟩ : ∃ m, n = m + 1 := ⟨n - 1, by omega⟩
    rw [lfix_s]
    show Ok _ (fX9_putUp_28 N v_houses v_kinds _ h (nI 0) p f row plots)
    unfold fX9_putUp_28
    refine ok_n (by decide) (ok_g (ng6 (by clear hE E0; grind)) ?_)
    have ep : p = mvq v_houses v_kinds f row plots := by rw [← hE, E0 rfl]
    exact lX9_putUp_74 (g_v_rowThen := row) (g_v_frontThen := f) (g_v_plotsThen := plots) hN hh _ _ _ _ _ ⟨hl, by clear hE E0 ep; grind, hpp, hr, RA.upd hp (by clear hE E0 ep; grind), (rotp_1 row).symm, eh, hh.1, ep, by rw [eh]⟩ (by clear hE E0 ep; grind)
  | succ c ih =>
    intro hc s
    induction s with
    | zero => intro p n k hpp hs; rcases hs with hs | hs <;> omega
    | succ s ihs =>
      intro p n k hpp hs hn E0 E1 E2
      obtain ⟨m, rfl⟩ : ∃ m, n = m + 1 := ⟨n - 1, by omega⟩
      rw [lfix_s]
      show Ok _ (fX9_putUp_28 N v_houses v_kinds _ h (nI (c + 1)) p f row plots)
      have hq := (nx_i hpp).2
      have hs2 := hs.resolve_left (by omega)
      obtain ⟨k, rfl⟩ : ∃ j, k = j + 1 := ⟨k - 1, by omega⟩
      refine pu_step hN hh hp (by omega) (fun fr => ?_) (fun q => ?_)
      · obtain ⟨t, t1, t2, t3⟩ := free_in (n := v_houses) (a := plots) hq hh.2
        refine ih (by omega) t (nx p) m 11 hq (Or.inr ⟨t1, by omega, t3⟩) (by omega) (fun z => ?_) (fun z => ?_) (fun z => by omega)
        · rw [E1 (by omega), sr_y fr]
        · rw [E2 (by omega), sr_y fr]
      · by_cases s0 : s = 0
        · subst s0
          exact absurd hs2.2.2 q
        · refine ihs (nx p) m k hq (Or.inr ⟨by omega, by omega, hs2.2.2⟩) (by omega) (fun z => by omega) (fun z => ?_) (fun z => ?_)
          · rw [E1 z, sr_n q]
          · rw [E2 z, sr_n q]
theorem tX9_putUp {N : Nat} {v_houses : Int32} {v_kinds : Nat → Int32} {v_frontThen : Int32} {v_rowThen v_plotsThen : Nat → Int32} (hN : 49999 < N) (h_v_houses : RB 1 6 v_houses) (h_v_frontThen : RB 0 11 v_frontThen) (h_v_rowThen : RA 0 5 v_rowThen) (h_v_plotsThen : RA (-1) 11 v_plotsThen) : Ok (fun r => RB 0 11 r.1 ∧ RA 0 5 r.2.1 ∧ RA (-1) 11 r.2.2 ∧ (r.2.1 = rot v_houses v_rowThen) ∧ (r.1 = mvq v_houses v_kinds v_frontThen v_rowThen v_plotsThen ∧ r.2.2 = upd v_plotsThen (v_rowThen 0).toNatClampNeg r.1)) (fX9_putUp N v_houses v_kinds v_frontThen v_rowThen v_plotsThen) := by
  unfold fX9_putUp
  have r0 := h_v_rowThen ((0 : Int32)).toNatClampNeg
  obtain ⟨t, t1, t2, t3⟩ := free_in (n := v_houses) (a := v_plotsThen) h_v_frontThen h_v_houses.2
  refine ok_g (ng6 (by grind)) (ok_if (fun c => ?_) (fun c => ?_))
  · exact pu_all hN h_v_houses h_v_plotsThen h_v_rowThen h_v_frontThen r0 rfl rfl 2 (by omega) t v_frontThen N 11 h_v_frontThen (Or.inr ⟨t1, by omega, t3⟩) (by omega) (fun z => absurd z (by omega)) (fun z => absurd z (by omega)) (fun _ => if_pos c)
  · exact pu_all hN h_v_houses h_v_plotsThen h_v_rowThen h_v_frontThen r0 rfl rfl 1 (by omega) t v_frontThen N 11 h_v_frontThen (Or.inr ⟨t1, by omega, t3⟩) (by omega) (fun z => absurd z (by omega)) (fun _ => if_neg c) (fun z => absurd z (by omega))
theorem tX9_goOn_59 {N : Nat} {v_houses : Int32} {v_kinds : (Nat → Int32)} {l1 : Int32} {v_frontThen : Int32} {v_downThen : Int32} {v_rowThen : (Nat → Int32)} {v_plotsThen : (Nat → Int32)} {g_v_rowThen : (Nat → Int32)} {g_v_downThen : Int32} {g_v_frontThen : Int32} {g_v_plotsThen : (Nat → Int32)} (hN : 49999 < N) (h_v_houses : RB 1 6 v_houses) (h_l1 : RB 0 5 l1) (h_v_frontThen : RB 0 11 v_frontThen) (h_v_rowThen : RA 0 5 v_rowThen) (h_v_plotsThen : RA (-1) 11 v_plotsThen) (e_0 : v_rowThen = g_v_rowThen) (e_1 : v_plotsThen = g_v_plotsThen) (e_2 : v_frontThen = g_v_frontThen) (e_3 : v_downThen = g_v_downThen) (e_4 : l1 = g_v_rowThen 0) (e_5 : v_downThen ≤ 0) (e_6 : v_kinds l1.toNatClampNeg = 1 ∨ v_kinds l1.toNatClampNeg = 4)  : Ok (fun r => RB 0 11 r.2.1 ∧ RA 0 5 r.2.2.2.1 ∧ RA (-1) 11 r.2.2.2.2 ∧ (SJ v_houses g_v_rowThen → SJ v_houses r.2.2.2.1) ∧ (0 ≤ g_v_downThen ∧ g_v_downThen ≤ 2 → r.1 = tnM v_kinds g_v_downThen g_v_rowThen ∧ (r.2.1, r.2.2.1, r.2.2.2.1, r.2.2.2.2) = tnS v_houses v_kinds (g_v_frontThen, g_v_downThen, g_v_rowThen, g_v_plotsThen) ∧ (0 ≤ r.2.2.1 ∧ r.2.2.1 ≤ 2))) (fX9_goOn_59 N v_houses v_kinds l1 v_frontThen v_downThen v_rowThen v_plotsThen) := by
  unfold fX9_goOn_59
  refine ok_g (ng6 (by grind)) ?_
  refine ok_g (ng6 (by grind)) ?_
  refine ok_if (fun c_1 => ?_) (fun c_1 => ?_)
  · exact ok_s ⟨h_v_frontThen, h_v_rowThen, (RA.upd h_v_plotsThen (by grind)), (e_0 ▸ fun q => q), (by subst e_0; subst e_1; subst e_2; subst e_3; subst e_4; intro hd; first | exact tr_down1 hd e_5 c_1 | exact tr_down4 hd e_5 (e_6.resolve_left c_1))⟩
  · exact ok_s ⟨h_v_frontThen, h_v_rowThen, (RA.upd h_v_plotsThen (by grind)), (e_0 ▸ fun q => q), (by subst e_0; subst e_1; subst e_2; subst e_3; subst e_4; intro hd; first | exact tr_down1 hd e_5 c_1 | exact tr_down4 hd e_5 (e_6.resolve_left c_1))⟩
theorem tX9_goOn {N : Nat} {v_houses : Int32} {v_kinds : (Nat → Int32)} {v_frontThen : Int32} {v_downThen : Int32} {v_rowThen : (Nat → Int32)} {v_plotsThen : (Nat → Int32)}  (hN : 49999 < N) (h_v_houses : RB 1 6 v_houses) (h_v_frontThen : RB 0 11 v_frontThen) (h_v_rowThen : RA 0 5 v_rowThen) (h_v_plotsThen : RA (-1) 11 v_plotsThen)  : Ok (fun r => RB 0 11 r.2.1 ∧ RA 0 5 r.2.2.2.1 ∧ RA (-1) 11 r.2.2.2.2 ∧ (SJ v_houses v_rowThen → SJ v_houses r.2.2.2.1) ∧ (0 ≤ v_downThen ∧ v_downThen ≤ 2 → r.1 = tnM v_kinds v_downThen v_rowThen ∧ (r.2.1, r.2.2.1, r.2.2.2.1, r.2.2.2.2) = tnS v_houses v_kinds (v_frontThen, v_downThen, v_rowThen, v_plotsThen) ∧ (0 ≤ r.2.2.1 ∧ r.2.2.1 ≤ 2))) (fX9_goOn N v_houses v_kinds v_frontThen v_downThen v_rowThen v_plotsThen) := by
  unfold fX9_goOn
  refine ok_if (fun c_1 => ?_) (fun c_1 => ?_)
  · refine ok_g (ng6 (by have := h_v_rowThen (((0 : Int32)).toNatClampNeg); grind)) ?_
    refine ok_if (fun c_2 => ?_) (fun c_2 => ?_)
    · exact tX9_goOn_59 (g_v_rowThen := v_rowThen) (g_v_downThen := v_downThen) (g_v_frontThen := v_frontThen) (g_v_plotsThen := v_plotsThen) hN h_v_houses (by have := h_v_rowThen (((0 : Int32)).toNatClampNeg); grind) h_v_frontThen h_v_rowThen h_v_plotsThen (by grind) (by grind) (by grind) (by grind) rfl (by grind) (by have := h_v_rowThen (((0 : Int32)).toNatClampNeg); grind)
    · refine ok_g (ng6 (by have := h_v_rowThen (((0 : Int32)).toNatClampNeg); grind)) ?_
      refine ok_if (fun c_3 => ?_) (fun c_3 => ?_)
      · exact tX9_goOn_59 (g_v_rowThen := v_rowThen) (g_v_downThen := v_downThen) (g_v_frontThen := v_frontThen) (g_v_plotsThen := v_plotsThen) hN h_v_houses (by have := h_v_rowThen (((0 : Int32)).toNatClampNeg); grind) h_v_frontThen h_v_rowThen h_v_plotsThen (by grind) (by grind) (by grind) (by grind) rfl (by grind) (by have := h_v_rowThen (((0 : Int32)).toNatClampNeg); grind)
      · refine ok_b (tX9_putUp hN h_v_houses h_v_frontThen h_v_rowThen h_v_plotsThen) (fun x_88 hx => ?_)
        obtain ⟨h_x_88_0, h_x_88_1, h_x_88_2, h_x_88_3, h_x_88_4⟩ := hx
        refine ok_g (ng6 (by have := h_v_rowThen (((0 : Int32)).toNatClampNeg); grind)) ?_
        refine ok_if (fun c_4 => ?_) (fun c_4 => ?_)
        · refine ok_b (tX9_putUp hN h_v_houses h_x_88_0 h_x_88_1 h_x_88_2) (fun x_104 hx => ?_)
          obtain ⟨h_x_104_0, h_x_104_1, h_x_104_2, h_x_104_3, h_x_104_4⟩ := hx
          exact ok_s ⟨h_x_104_0, h_x_104_1, h_x_104_2, (fun q => by first | exact q | (rw [h_x_27_3]; exact sj_rot q h_v_houses) | (rw [h_x_104_3, h_x_88_3]; exact sj_rot (sj_rot q h_v_houses) h_v_houses) | (rw [h_x_88_3]; exact sj_rot q h_v_houses)), (by intro hd; first | exact tr_wait hd c_5 | exact tr_up hd c_1 c_5 h_x_27_3 h_x_27_4 | exact tr_two hd c_1 c_4 h_x_88_3 h_x_88_4 h_x_104_3 h_x_104_4 | exact tr_one hd c_1 c_2 c_3 c_4 h_x_88_3 h_x_88_4)⟩
        · exact ok_s ⟨h_x_88_0, h_x_88_1, h_x_88_2, (fun q => by first | exact q | (rw [h_x_27_3]; exact sj_rot q h_v_houses) | (rw [h_x_104_3, h_x_88_3]; exact sj_rot (sj_rot q h_v_houses) h_v_houses) | (rw [h_x_88_3]; exact sj_rot q h_v_houses)), (by intro hd; first | exact tr_wait hd c_5 | exact tr_up hd c_1 c_5 h_x_27_3 h_x_27_4 | exact tr_two hd c_1 c_4 h_x_88_3 h_x_88_4 h_x_104_3 h_x_104_4 | exact tr_one hd c_1 c_2 c_3 c_4 h_x_88_3 h_x_88_4)⟩
  · refine ok_if (fun c_5 => ?_) (fun c_5 => ?_)
    · refine ok_b (tX9_putUp hN h_v_houses h_v_frontThen h_v_rowThen h_v_plotsThen) (fun x_27 hx => ?_)
      obtain ⟨h_x_27_0, h_x_27_1, h_x_27_2, h_x_27_3, h_x_27_4⟩ := hx
      exact ok_s ⟨h_x_27_0, h_x_27_1, h_x_27_2, (fun q => by first | exact q | (rw [h_x_27_3]; exact sj_rot q h_v_houses) | (rw [h_x_104_3, h_x_88_3]; exact sj_rot (sj_rot q h_v_houses) h_v_houses) | (rw [h_x_88_3]; exact sj_rot q h_v_houses)), (by intro hd; first | exact tr_wait hd c_5 | exact tr_up hd c_1 c_5 h_x_27_3 h_x_27_4 | exact tr_two hd c_1 c_4 h_x_88_3 h_x_88_4 h_x_104_3 h_x_104_4 | exact tr_one hd c_1 c_2 c_3 c_4 h_x_88_3 h_x_88_4)⟩
    · exact ok_s ⟨h_v_frontThen, h_v_rowThen, h_v_plotsThen, (fun q => by first | exact q | (rw [h_x_27_3]; exact sj_rot q h_v_houses) | (rw [h_x_104_3, h_x_88_3]; exact sj_rot (sj_rot q h_v_houses) h_v_houses) | (rw [h_x_88_3]; exact sj_rot q h_v_houses)), (by intro hd; first | exact tr_wait hd c_5 | exact tr_up hd c_1 c_5 h_x_27_3 h_x_27_4 | exact tr_two hd c_1 c_4 h_x_88_3 h_x_88_4 h_x_104_3 h_x_104_4 | exact tr_one hd c_1 c_2 c_3 c_4 h_x_88_3 h_x_88_4)⟩
theorem tX9_worthOf {N : Nat} {v_worths : (Nat → Int32)} {a1 : Int32}  (hN : 49999 < N) (h_a1 : RB (-1) 11 a1)  : Ok (fun r => (r = wu v_worths a1)) (fX9_worthOf N v_worths a1) := by
  unfold fX9_worthOf
  refine ok_if (fun c_1 => ?_) (fun c_1 => ?_)
  · exact ok_s (by unfold wu; grind)
  · refine ok_g (ng12 (by grind)) ?_
    exact ok_s (by unfold wu; grind)
theorem sX9_have_2 {N : Nat} {v_houses : Int32} {v_plots : (Nat → Int32)} {v_worths : (Nat → Int32)} {K_2 : Int32 → Int32 → (Nat → Int32) → Option (Int32 × (Nat → Int32))} {l1 : Int32} {v_nights : Int32} {v_had : (Nat → Int32)} {g_v_nights : Int32} {g_v_had : (Nat → Int32)} {m_2 : Int32} (hN : 49999 < N) (h_v_houses : RB 0 6 v_houses) (h_v_plots : RA (-1) 11 v_plots) (hK_2 : ∀ (l1 : Int32) (v_nights : Int32) (v_had : (Nat → Int32)), 0 ≤ l1 ∧ (v_nights = g_v_nights) ∧ (v_had = hdp l1 v_worths v_plots g_v_had) ∧ (l1 ≤ v_houses) → (v_houses - l1) < m_2 → 0 < m_2 → Ok (fun r => (r.1 = g_v_nights + 1) ∧ (r.2 = hdp v_houses v_worths v_plots g_v_had)) (K_2 l1 v_nights v_had)) (hI : 0 ≤ l1 ∧ (v_nights = g_v_nights) ∧ (v_had = hdp l1 v_worths v_plots g_v_had) ∧ (l1 ≤ v_houses)) (hm_2 : (v_houses - l1) = m_2) : Ok (fun r => (r.1 = g_v_nights + 1) ∧ (r.2 = hdp v_houses v_worths v_plots g_v_had)) (fX9_have_2 N v_houses v_plots v_worths K_2 l1 v_nights v_had) := by
  obtain ⟨h_l1, e_0, e_1, e_2⟩ := hI
  unfold fX9_have_2
  refine ok_if (fun c_1 => ?_) (fun c_1 => ?_)
  · exact ok_s ⟨(by clear hm_2 hK_2; grind), (hdp_end e_1 (by clear hm_2 hK_2 e_1; grind))⟩
  · refine ok_g (ng6 (by clear hm_2 hK_2; grind)) ?_
    refine ok_g (ng6 (by clear hm_2 hK_2; grind)) ?_
    refine ok_b (tX9_worthOf hN (by clear hm_2 hK_2; have := h_v_plots ((l1).toNatClampNeg); grind)) (fun x_24 hx => ?_)
    have h_x_24_0 := hx
    refine ok_g (ng6 (by clear hm_2 hK_2; grind)) ?_
    exact hK_2 _ _ _ ⟨(by clear hm_2 hK_2; grind), (by clear hm_2 hK_2; grind), (hdp_step e_1 h_x_24_0 (by clear hm_2 hK_2 e_1; grind)), (by clear hm_2 hK_2; grind)⟩ (by clear hK_2; grind) (by clear hK_2; grind)
theorem lX9_have_2 {N : Nat} {v_houses : Int32} {v_plots : (Nat → Int32)} {v_worths : (Nat → Int32)} {g_v_nights : Int32} {g_v_had : (Nat → Int32)} (hN : 49999 < N) (h_v_houses : RB 0 6 v_houses) (h_v_plots : RA (-1) 11 v_plots)  : ∀ (l1 : Int32) (v_nights : Int32) (v_had : (Nat → Int32)), 0 ≤ l1 ∧ (v_nights = g_v_nights) ∧ (v_had = hdp l1 v_worths v_plots g_v_had) ∧ (l1 ≤ v_houses) → (v_houses - l1) ≤ 49999 → Ok (fun r => (r.1 = g_v_nights + 1) ∧ (r.2 = hdp v_houses v_worths v_plots g_v_had)) (lfix (fun (K : Int32 × Int32 × (Nat → Int32) → Option (Int32 × (Nat → Int32))) (a : Int32 × Int32 × (Nat → Int32)) => fX9_have_2 N v_houses v_plots v_worths (fun (l1 : Int32) (v_nights : Int32) (v_had : (Nat → Int32)) => K (l1, v_nights, v_had)) a.1 a.2.1 a.2.2) N (l1, v_nights, v_had)) := by
  intro l1 v_nights v_had hI hM
  exact ok_l (I := fun (a : Int32 × Int32 × (Nat → Int32)) => (0 ≤ a.1 ∧ (a.2.1 = g_v_nights) ∧ (a.2.2 = hdp a.1 v_worths v_plots g_v_had) ∧ (a.1 ≤ v_houses))) (M := fun (a : Int32 × Int32 × (Nat → Int32)) => (v_houses - a.1)) (fun K a hI hK => sX9_have_2 (g_v_nights := g_v_nights) (g_v_had := g_v_had) hN h_v_houses h_v_plots  (fun l1 v_nights v_had hI2  hlt hp => hK (l1, v_nights, v_had) hI2 hlt hp) hI  rfl) N _ hI hN hM
theorem tX9_have {N : Nat} {v_houses : Int32} {v_plots : (Nat → Int32)} {v_worths : (Nat → Int32)} {v_nights : Int32} {v_had : (Nat → Int32)}  (hN : 49999 < N) (h_v_houses : RB 0 6 v_houses) (h_v_plots : RA (-1) 11 v_plots)  : Ok (fun r => (r.1 = v_nights + 1) ∧ (r.2 = hdp v_houses v_worths v_plots v_had)) (fX9_have N v_houses v_plots v_worths v_nights v_had) := by
  unfold fX9_have
  exact lX9_have_2 (g_v_nights := v_nights) (g_v_had := v_had) hN h_v_houses h_v_plots  _ _ _ ⟨(by grind), (by grind), (hdp_0 _ _ _), (by grind)⟩  (by grind)
theorem tX9_night {N : Nat} {v_houses : Int32} {v_kinds : (Nat → Int32)} {v_worths : (Nat → Int32)} {v_nights : Int32} {v_front : Int32} {v_down : Int32} {v_frontThen : Int32} {v_downThen : Int32} {v_plots : (Nat → Int32)} {v_plotsThen : (Nat → Int32)} {v_row : (Nat → Int32)} {v_rowThen : (Nat → Int32)} {v_had : (Nat → Int32)}  (hN : 49999 < N) (h_v_houses : RB 0 6 v_houses) (h_v_nights : RB 0 999 v_nights) (h_v_front : RB 0 11 v_front) (h_v_frontThen : RB 0 11 v_frontThen) (h_v_plots : RA (-1) 11 v_plots) (h_v_plotsThen : RA (-1) 11 v_plotsThen) (h_v_row : RA 0 5 v_row) (h_v_rowThen : RA 0 5 v_rowThen)  : Ok (fun r => RB 0 999 r.2.1 ∧ RB 0 11 r.2.2.1 ∧ RB 0 11 r.2.2.2.2.1 ∧ RA (-1) 11 r.2.2.2.2.2.2.1 ∧ RA (-1) 11 r.2.2.2.2.2.2.2.1 ∧ RA 0 5 r.2.2.2.2.2.2.2.2.1 ∧ RA 0 5 r.2.2.2.2.2.2.2.2.2.1 ∧ (v_houses = 0 ∧ r.1 = -103 ∧ r.2.1 = v_nights ∨ v_houses ≠ 0 ∧ v_nights < 999 ∧ r.2.1 = v_nights + 1 ∨ v_houses ≠ 0 ∧ ¬ v_nights < 999 ∧ r.1 = -104 ∧ r.2.1 = v_nights) ∧ (SJ v_houses v_row → SJ v_houses r.2.2.2.2.2.2.2.2.1) ∧ (v_houses ≠ 0 → v_nights < 999 → 0 ≤ v_down ∧ v_down ≤ 2 → r.1 = tnM (N6 v_kinds) v_down (N6 v_row) ∧ (r.2.2.1, r.2.2.2.1, N6 r.2.2.2.2.2.2.2.2.1, N6 r.2.2.2.2.2.2.1) = tnS v_houses (N6 v_kinds) (v_front, v_down, N6 v_row, N6 v_plots) ∧ (0 ≤ r.2.2.2.1 ∧ r.2.2.2.1 ≤ 2)) ∧ (v_houses ≠ 0 → v_nights < 999 → r.2.2.2.2.2.2.2.2.2.2 = hdp v_houses v_worths r.2.2.2.2.2.2.1 v_had) ∧ ((v_houses = 0 ∨ ¬ v_nights < 999) → r.2.2.1 = v_front ∧ r.2.2.2.1 = v_down ∧ r.2.2.2.2.2.2.2.2.1 = v_row ∧ r.2.2.2.2.2.2.1 = v_plots ∧ r.2.2.2.2.2.2.2.2.2.2 = v_had)) (fX9_night N v_houses v_kinds v_worths v_nights v_front v_down v_frontThen v_downThen v_plots v_plotsThen v_row v_rowThen v_had) := by
  unfold fX9_night
  refine ok_b (tX9_lacks hN h_v_houses) (fun x_1 hx => ?_)
  have h_x_1_0 := hx
  refine ok_if (fun c_1 => ?_) (fun c_1 => ?_)
  · refine ok_if (fun c_2 => ?_) (fun c_2 => ?_)
    · exact ok_s ⟨h_v_nights, h_v_front, h_v_frontThen, h_v_plots, h_v_plotsThen, h_v_row, h_v_rowThen, (by grind), (by first | exact fun q => q | (intro q; rw [h_x_33_3]; exact sj_cpy (h_x_28_3 (by rw [h_x_24_3]; exact sj_cpy q h_v_houses.2)) h_v_houses.2)), (by first | (intro _ _ hd; have q := h_x_28_4; rw [h_x_24_5.1, h_x_24_5.2] at q; rw [h_x_33_4.2.1, h_x_33_4.2.2]; exact night_r (by grind) h_v_front h_x_24_2 h_x_24_3 h_x_24_4 (q hd) h_x_33_3 h_x_33_4.1) | exact fun w _ _ => absurd w (by grind) | exact fun _ w _ => absurd w (by grind)), (by first | exact fun _ _ => h_x_37_1 | exact fun w _ => absurd w (by grind) | exact fun _ w => absurd w (by grind)), (by grind)⟩
    · refine ok_b (tX9_begin hN h_v_front h_v_plots h_v_row h_v_frontThen h_v_plotsThen h_v_rowThen) (fun x_24 hx => ?_)
      obtain ⟨h_x_24_0, h_x_24_1, h_x_24_2, h_x_24_3, h_x_24_4, h_x_24_5⟩ := hx
      refine ok_b (tX9_goOn hN (by grind) h_x_24_0 h_x_24_2 h_x_24_1) (fun x_28 hx => ?_)
      obtain ⟨h_x_28_0, h_x_28_1, h_x_28_2, h_x_28_3, h_x_28_4⟩ := hx
      refine ok_b (tX9_takeThen hN h_x_28_0 h_x_28_2 h_x_28_1 h_v_front h_v_plots h_v_row) (fun x_33 hx => ?_)
      obtain ⟨h_x_33_0, h_x_33_1, h_x_33_2, h_x_33_3, h_x_33_4⟩ := hx
      refine ok_b (tX9_have hN h_v_houses h_x_33_1) (fun x_37 hx => ?_)
      obtain ⟨h_x_37_0, h_x_37_1⟩ := hx
      exact ok_s ⟨(by grind), h_x_33_0, h_x_28_0, h_x_33_1, h_x_28_2, h_x_33_2, h_x_28_1, (by grind), (by first | exact fun q => q | (intro q; rw [h_x_33_3]; exact sj_cpy (h_x_28_3 (by rw [h_x_24_3]; exact sj_cpy q h_v_houses.2)) h_v_houses.2)), (by first | (intro _ _ hd; have q := h_x_28_4; rw [h_x_24_5.1, h_x_24_5.2] at q; rw [h_x_33_4.2.1, h_x_33_4.2.2]; exact night_r (by grind) h_v_front h_x_24_2 h_x_24_3 h_x_24_4 (q hd) h_x_33_3 h_x_33_4.1) | exact fun w _ _ => absurd w (by grind) | exact fun _ w _ => absurd w (by grind)), (by first | exact fun _ _ => h_x_37_1 | exact fun w _ => absurd w (by grind) | exact fun _ w => absurd w (by grind)), (by grind)⟩
  · exact ok_s ⟨h_v_nights, h_v_front, h_v_frontThen, h_v_plots, h_v_plotsThen, h_v_row, h_v_rowThen, (by grind), (by first | exact fun q => q | (intro q; rw [h_x_33_3]; exact sj_cpy (h_x_28_3 (by rw [h_x_24_3]; exact sj_cpy q h_v_houses.2)) h_v_houses.2)), (by first | (intro _ _ hd; have q := h_x_28_4; rw [h_x_24_5.1, h_x_24_5.2] at q; rw [h_x_33_4.2.1, h_x_33_4.2.2]; exact night_r (by grind) h_v_front h_x_24_2 h_x_24_3 h_x_24_4 (q hd) h_x_33_3 h_x_33_4.1) | exact fun w _ _ => absurd w (by grind) | exact fun _ w _ => absurd w (by grind)), (by first | exact fun _ _ => h_x_37_1 | exact fun w _ => absurd w (by grind) | exact fun _ w => absurd w (by grind)), (by grind)⟩
theorem tX9_snow {N : Nat} {v_houses : Int32} {v_plots : (Nat → Int32)} {v_worths : (Nat → Int32)} {v_nights : Int32} {v_had : (Nat → Int32)}  (hN : 49999 < N) (h_v_houses : RB 0 6 v_houses) (h_v_plots : RA (-1) 11 v_plots) (h_v_nights : RB 0 999 v_nights)  : Ok (fun r => RB 0 999 r.2.1 ∧ (v_houses = 0 ∧ r.1 = -103 ∧ r.2.1 = v_nights ∨ v_houses ≠ 0 ∧ v_nights < 999 ∧ r.1 = v_nights + 1 ∧ r.2.1 = v_nights + 1 ∨ v_houses ≠ 0 ∧ ¬ v_nights < 999 ∧ r.1 = -104 ∧ r.2.1 = v_nights) ∧ (v_houses ≠ 0 → v_nights < 999 → r.2.2 = hdp v_houses v_worths v_plots v_had) ∧ ((v_houses = 0 ∨ ¬ v_nights < 999) → r.2.2 = v_had)) (fX9_snow N v_houses v_plots v_worths v_nights v_had) := by
  unfold fX9_snow
  refine ok_b (tX9_lacks hN h_v_houses) (fun x_1 hx => ?_)
  have h_x_1_0 := hx
  refine ok_if (fun c_1 => ?_) (fun c_1 => ?_)
  · refine ok_if (fun c_2 => ?_) (fun c_2 => ?_)
    · exact ok_s ⟨h_v_nights, (by grind), (by grind), (by grind)⟩
    · refine ok_b (tX9_have hN h_v_houses h_v_plots) (fun x_24 hx => ?_)
      obtain ⟨h_x_24_0, h_x_24_1⟩ := hx
      exact ok_s ⟨(by grind), (by grind), (by grind), (by grind)⟩
  · exact ok_s ⟨h_v_nights, (by grind), (by grind), (by grind)⟩
theorem tX9_build {N : Nat} {v_houses : Int32} {v_plots : (Nat → Int32)} {a1 : Int32} {a2 : Int32} {v_kinds : (Nat → Int32)}  (hN : 49999 < N) (h_v_houses : RB 0 6 v_houses) (h_v_plots : RA (-1) 11 v_plots)  : Ok (fun r => (¬ (0 ≤ a1 ∧ a1 < v_houses) ∧ r.1 = -101 ∧ r.2 = v_kinds ∨ (0 ≤ a1 ∧ a1 < v_houses) ∧ ¬ (0 ≤ a2 ∧ a2 < 5) ∧ r.1 = -102 ∧ r.2 = v_kinds ∨ (0 ≤ a1 ∧ a1 < v_houses) ∧ (0 ≤ a2 ∧ a2 < 5) ∧ v_plots a1.toNatClampNeg = -1 ∧ r.1 = -103 ∧ r.2 = v_kinds ∨ (0 ≤ a1 ∧ a1 < v_houses) ∧ (0 ≤ a2 ∧ a2 < 5) ∧ ¬ v_plots a1.toNatClampNeg = -1 ∧ r.1 = v_kinds a1.toNatClampNeg ∧ r.2 = upd v_kinds a1.toNatClampNeg a2)) (fX9_build N v_houses v_plots a1 a2 v_kinds) := by
  unfold fX9_build
  refine ok_b (tX9_isHouse hN h_v_houses) (fun x_2 hx => ?_)
  have h_x_2_0 := hx
  refine ok_if (fun c_1 => ?_) (fun c_1 => ?_)
  · exact ok_s (by grind)
  · refine ok_b (in_ok (a := (a2)) (lo := (0 : Int32)) (hi := (4 : Int32)) rfl rfl) (fun x_17 hx => ?_)
    have h_x_17 := hx
    refine ok_if (fun c_2 => ?_) (fun c_2 => ?_)
    · exact ok_s (by grind)
    · refine ok_g (ng6 (by grind)) ?_
      refine ok_if (fun c_3 => ?_) (fun c_3 => ?_)
      · exact ok_s (by grind)
      · refine ok_g (ng6 (by grind)) ?_
        refine ok_g (ng6 (by grind)) ?_
        exact ok_s (by grind)
theorem tX9_swap {N : Nat} {v_houses : Int32} {a1 : Int32} {a2 : Int32} {v_plots : (Nat → Int32)}  (hN : 49999 < N) (h_v_houses : RB 0 6 v_houses) (h_v_plots : RA (-1) 11 v_plots)  : Ok (fun r => RA (-1) 11 r.2 ∧ (¬ (0 ≤ a1 ∧ a1 < v_houses ∧ 0 ≤ a2 ∧ a2 < v_houses ∧ a1 ≠ a2) ∧ r.1 = -101 ∧ r.2 = v_plots ∨ (0 ≤ a1 ∧ a1 < v_houses ∧ 0 ≤ a2 ∧ a2 < v_houses ∧ a1 ≠ a2) ∧ (v_plots a1.toNatClampNeg = -1 ∨ v_plots a2.toNatClampNeg = -1) ∧ r.1 = -103 ∧ r.2 = v_plots ∨ (0 ≤ a1 ∧ a1 < v_houses ∧ 0 ≤ a2 ∧ a2 < v_houses ∧ a1 ≠ a2) ∧ ¬ (v_plots a1.toNatClampNeg = -1 ∨ v_plots a2.toNatClampNeg = -1) ∧ r.1 = v_plots a2.toNatClampNeg ∧ r.2 = upd (upd v_plots a1.toNatClampNeg (v_plots a2.toNatClampNeg)) a2.toNatClampNeg (v_plots a1.toNatClampNeg))) (fX9_swap N v_houses a1 a2 v_plots) := by
  unfold fX9_swap
  refine ok_b (tX9_areTwo hN h_v_houses) (fun x_3 hx => ?_)
  have h_x_3_0 := hx
  refine ok_if (fun c_1 => ?_) (fun c_1 => ?_)
  · exact ok_s ⟨h_v_plots, (by first | (have q1 := (sw_at (a := v_plots) (tn_ne (a := a1) (b := a2) (by grind) (by grind) (by grind))).1; rw [q1]; grind) | grind)⟩
  · refine ok_g (ng6 (by grind)) ?_
    refine ok_if (fun c_2 => ?_) (fun c_2 => ?_)
    · exact ok_s ⟨h_v_plots, (by first | (have q1 := (sw_at (a := v_plots) (tn_ne (a := a1) (b := a2) (by grind) (by grind) (by grind))).1; rw [q1]; grind) | grind)⟩
    · refine ok_g (ng6 (by grind)) ?_
      refine ok_if (fun c_3 => ?_) (fun c_3 => ?_)
      · exact ok_s ⟨h_v_plots, (by first | (have q1 := (sw_at (a := v_plots) (tn_ne (a := a1) (b := a2) (by grind) (by grind) (by grind))).1; rw [q1]; grind) | grind)⟩
      · refine ok_g (ng6 (by grind)) ?_
        refine ok_g (ng6 (by grind)) ?_
        refine ok_g (ng6 (by grind)) ?_
        refine ok_g (ng6 (by grind)) ?_
        refine ok_g (ng6 (by grind)) ?_
        exact ok_s ⟨(RA.upd (RA.upd h_v_plots (by have := h_v_plots ((a2).toNatClampNeg); grind)) (by have := h_v_plots ((a1).toNatClampNeg); grind)), (by first | (have q1 := (sw_at (a := v_plots) (tn_ne (a := a1) (b := a2) (by grind) (by grind) (by grind))).1; rw [q1]; grind) | grind)⟩
