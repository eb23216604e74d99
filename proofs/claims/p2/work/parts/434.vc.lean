theorem sX9_isAsNow_30 {N : Nat} {v_houses : Int32} {v_front : Int32} {v_down : Int32} {v_frontThen : Int32} {v_downThen : Int32} {v_plotsThen : (Nat → Int32)} {v_plots : (Nat → Int32)} {v_rowThen : (Nat → Int32)} {v_row : (Nat → Int32)} {K_30 : Int32 → Int32 → Option (Int32)} {l1 : Int32} {l2 : Int32}  {m_30 : Int32} (hN : 49999 < N) (h_v_houses : RB 0 6 v_houses) (h_v_front : RB 0 11 v_front) (h_v_frontThen : RB 0 11 v_frontThen) (h_v_plotsThen : RA (-1) 11 v_plotsThen) (h_v_plots : RA (-1) 11 v_plots) (h_v_rowThen : RA 0 5 v_rowThen) (h_v_row : RA 0 5 v_row) (hK_30 : ∀ (l1 : Int32) (l2 : Int32), 0 ≤ l2 ∧ (l1 = 0 ∨ l1 = 1) → (v_houses - l2) < m_30 → 0 < m_30 → Ok (fun r => (r = 0 ∨ r = 1)) (K_30 l1 l2)) (hI : 0 ≤ l2 ∧ (l1 = 0 ∨ l1 = 1)) (hm_30 : (v_houses - l2) = m_30) : Ok (fun r => (r = 0 ∨ r = 1)) (fX9_isAsNow_30 N v_houses v_front v_down v_frontThen v_downThen v_plotsThen v_plots v_rowThen v_row K_30 l1 l2) := by
  obtain ⟨h_l2, e_0⟩ := hI
  unfold fX9_isAsNow_30
  refine ok_if (fun c_1 => ?_) (fun c_1 => ?_)
  · refine ok_g (by clear hm_30 hK_30; grind) ?_
    exact ok_s (by clear hm_30 hK_30; grind)
  · refine ok_if (fun c_2 => ?_) (fun c_2 => ?_)
    · exact hK_30 _ _ ⟨(by clear hm_30 hK_30; grind), (by clear hm_30 hK_30; grind)⟩ (by clear hK_30; grind) (by clear hK_30; grind)
    · refine ok_g (ng6 (by clear hm_30 hK_30; grind)) ?_
      refine ok_g (ng6 (by clear hm_30 hK_30; grind)) ?_
      refine ok_if (fun c_3 => ?_) (fun c_3 => ?_)
      · refine ok_g (ng6 (by clear hm_30 hK_30; grind)) ?_
        refine ok_g (ng6 (by clear hm_30 hK_30; grind)) ?_
        refine ok_if (fun c_4 => ?_) (fun c_4 => ?_)
        · exact hK_30 _ _ ⟨(by clear hm_30 hK_30; grind), (by clear hm_30 hK_30; grind)⟩ (by clear hK_30; grind) (by clear hK_30; grind)
        · exact hK_30 _ _ ⟨(by clear hm_30 hK_30; grind), (by clear hm_30 hK_30; grind)⟩ (by clear hK_30; grind) (by clear hK_30; grind)
      · exact hK_30 _ _ ⟨(by clear hm_30 hK_30; grind), (by clear hm_30 hK_30; grind)⟩ (by clear hK_30; grind) (by clear hK_30; grind)
theorem lX9_isAsNow_30 {N : Nat} {v_houses : Int32} {v_front : Int32} {v_down : Int32} {v_frontThen : Int32} {v_downThen : Int32} {v_plotsThen : (Nat → Int32)} {v_plots : (Nat → Int32)} {v_rowThen : (Nat → Int32)} {v_row : (Nat → Int32)}  (hN : 49999 < N) (h_v_houses : RB 0 6 v_houses) (h_v_front : RB 0 11 v_front) (h_v_frontThen : RB 0 11 v_frontThen) (h_v_plotsThen : RA (-1) 11 v_plotsThen) (h_v_plots : RA (-1) 11 v_plots) (h_v_rowThen : RA 0 5 v_rowThen) (h_v_row : RA 0 5 v_row)  : ∀ (l1 : Int32) (l2 : Int32), 0 ≤ l2 ∧ (l1 = 0 ∨ l1 = 1) → (v_houses - l2) ≤ 49999 → Ok (fun r => (r = 0 ∨ r = 1)) (lfix (fun (K : Int32 × Int32 → Option (Int32)) (a : Int32 × Int32) => fX9_isAsNow_30 N v_houses v_front v_down v_frontThen v_downThen v_plotsThen v_plots v_rowThen v_row (fun (l1 : Int32) (l2 : Int32) => K (l1, l2)) a.1 a.2) N (l1, l2)) := by
  intro l1 l2 hI hM
  exact ok_l (I := fun (a : Int32 × Int32) => (0 ≤ a.2 ∧ (a.1 = 0 ∨ a.1 = 1))) (M := fun (a : Int32 × Int32) => (v_houses - a.2)) (fun K a hI hK => sX9_isAsNow_30  hN h_v_houses h_v_front h_v_frontThen h_v_plotsThen h_v_plots h_v_rowThen h_v_row  (fun l1 l2 hI2  hlt hp => hK (l1, l2) hI2 hlt hp) hI  rfl) N _ hI hN hM
theorem tX9_isAsNow {N : Nat} {v_houses : Int32} {v_front : Int32} {v_down : Int32} {v_frontThen : Int32} {v_downThen : Int32} {v_plotsThen : (Nat → Int32)} {v_plots : (Nat → Int32)} {v_rowThen : (Nat → Int32)} {v_row : (Nat → Int32)}  (hN : 49999 < N) (h_v_houses : RB 0 6 v_houses) (h_v_front : RB 0 11 v_front) (h_v_frontThen : RB 0 11 v_frontThen) (h_v_plotsThen : RA (-1) 11 v_plotsThen) (h_v_plots : RA (-1) 11 v_plots) (h_v_rowThen : RA 0 5 v_rowThen) (h_v_row : RA 0 5 v_row)  : Ok (fun r => (r = 0 ∨ r = 1)) (fX9_isAsNow N v_houses v_front v_down v_frontThen v_downThen v_plotsThen v_plots v_rowThen v_row) := by
  unfold fX9_isAsNow
  refine ok_if (fun c_1 => ?_) (fun c_1 => ?_)
  · refine ok_if (fun c_2 => ?_) (fun c_2 => ?_)
    · exact lX9_isAsNow_30  hN h_v_houses h_v_front h_v_frontThen h_v_plotsThen h_v_plots h_v_rowThen h_v_row  _ _ ⟨(by grind), (by grind)⟩  (by grind)
    · exact lX9_isAsNow_30  hN h_v_houses h_v_front h_v_frontThen h_v_plotsThen h_v_plots h_v_rowThen h_v_row  _ _ ⟨(by grind), (by grind)⟩  (by grind)
  · exact lX9_isAsNow_30  hN h_v_houses h_v_front h_v_frontThen h_v_plotsThen h_v_plots h_v_rowThen h_v_row  _ _ ⟨(by grind), (by grind)⟩  (by grind)
theorem sX9_againOf_6 {N : Nat} {v_houses : Int32} {v_front : Int32} {v_down : Int32} {v_plots : (Nat → Int32)} {v_row : (Nat → Int32)} {v_kinds : (Nat → Int32)} {K_6 : Int32 → Int32 → Int32 → (Nat → Int32) → (Nat → Int32) → Option (Int32 × Int32 × Int32 × (Nat → Int32) × (Nat → Int32))} {l1 : Int32} {v_frontThen : Int32} {v_downThen : Int32} {v_plotsThen : (Nat → Int32)} {v_rowThen : (Nat → Int32)}  {m_6 : Int32} (hN : 49999 < N) (h_v_houses : RB 1 6 v_houses) (h_v_front : RB 0 11 v_front) (h_v_plots : RA (-1) 11 v_plots) (h_v_row : RA 0 5 v_row) (hK_6 : ∀ (l1 : Int32) (v_frontThen : Int32) (v_downThen : Int32) (v_plotsThen : (Nat → Int32)) (v_rowThen : (Nat → Int32)), RB 0 11 v_frontThen ∧ RA (-1) 11 v_plotsThen ∧ RA 0 5 v_rowThen ∧ 0 ≤ l1 → ((401 : Int32) - l1) < m_6 → 0 < m_6 → Ok (fun r => RB 0 11 r.2.1 ∧ RA (-1) 11 r.2.2.2.1 ∧ RA 0 5 r.2.2.2.2) (K_6 l1 v_frontThen v_downThen v_plotsThen v_rowThen)) (hI : RB 0 11 v_frontThen ∧ RA (-1) 11 v_plotsThen ∧ RA 0 5 v_rowThen ∧ 0 ≤ l1) (hm_6 : ((401 : Int32) - l1) = m_6) : Ok (fun r => RB 0 11 r.2.1 ∧ RA (-1) 11 r.2.2.2.1 ∧ RA 0 5 r.2.2.2.2) (fX9_againOf_6 N v_houses v_front v_down v_plots v_row v_kinds K_6 l1 v_frontThen v_downThen v_plotsThen v_rowThen) := by
  obtain ⟨h_v_frontThen, h_v_plotsThen, h_v_rowThen, h_l1⟩ := hI
  unfold fX9_againOf_6
  refine ok_if (fun c_1 => ?_) (fun c_1 => ?_)
  · exact ok_s ⟨h_v_frontThen, h_v_plotsThen, h_v_rowThen⟩
  · refine ok_b (tX9_goOn hN h_v_houses h_v_frontThen h_v_rowThen h_v_plotsThen) (fun x_14 hx => ?_)
    obtain ⟨h_x_14_0, h_x_14_1, h_x_14_2, h_x_14_3⟩ := hx
    refine ok_b (tX9_isAsNow hN (by clear hm_6 hK_6; grind) h_v_front h_x_14_0 h_x_14_2 h_v_plots h_x_14_1 h_v_row) (fun x_19 hx => ?_)
    have h_x_19_0 := hx
    refine ok_if (fun c_2 => ?_) (fun c_2 => ?_)
    · exact hK_6 _ _ _ _ _ ⟨h_x_14_0, h_x_14_2, h_x_14_1, (by clear hm_6 hK_6; grind)⟩ (by clear hK_6; grind) (by clear hK_6; grind)
    · exact ok_s ⟨h_x_14_0, h_x_14_2, h_x_14_1⟩
theorem lX9_againOf_6 {N : Nat} {v_houses : Int32} {v_front : Int32} {v_down : Int32} {v_plots : (Nat → Int32)} {v_row : (Nat → Int32)} {v_kinds : (Nat → Int32)}  (hN : 49999 < N) (h_v_houses : RB 1 6 v_houses) (h_v_front : RB 0 11 v_front) (h_v_plots : RA (-1) 11 v_plots) (h_v_row : RA 0 5 v_row)  : ∀ (l1 : Int32) (v_frontThen : Int32) (v_downThen : Int32) (v_plotsThen : (Nat → Int32)) (v_rowThen : (Nat → Int32)), RB 0 11 v_frontThen ∧ RA (-1) 11 v_plotsThen ∧ RA 0 5 v_rowThen ∧ 0 ≤ l1 → ((401 : Int32) - l1) ≤ 49999 → Ok (fun r => RB 0 11 r.2.1 ∧ RA (-1) 11 r.2.2.2.1 ∧ RA 0 5 r.2.2.2.2) (lfix (fun (K : Int32 × Int32 × Int32 × (Nat → Int32) × (Nat → Int32) → Option (Int32 × Int32 × Int32 × (Nat → Int32) × (Nat → Int32))) (a : Int32 × Int32 × Int32 × (Nat → Int32) × (Nat → Int32)) => fX9_againOf_6 N v_houses v_front v_down v_plots v_row v_kinds (fun (l1 : Int32) (v_frontThen : Int32) (v_downThen : Int32) (v_plotsThen : (Nat → Int32)) (v_rowThen : (Nat → Int32)) => K (l1, v_frontThen, v_downThen, v_plotsThen, v_rowThen)) a.1 a.2.1 a.2.2.1 a.2.2.2.1 a.2.2.2.2) N (l1, v_frontThen, v_downThen, v_plotsThen, v_rowThen)) := by
  intro l1 v_frontThen v_downThen v_plotsThen v_rowThen hI hM
  exact ok_l (I := fun (a : Int32 × Int32 × Int32 × (Nat → Int32) × (Nat → Int32)) => (RB 0 11 a.2.1 ∧ RA (-1) 11 a.2.2.2.1 ∧ RA 0 5 a.2.2.2.2 ∧ 0 ≤ a.1)) (M := fun (a : Int32 × Int32 × Int32 × (Nat → Int32) × (Nat → Int32)) => ((401 : Int32) - a.1)) (fun K a hI hK => sX9_againOf_6  hN h_v_houses h_v_front h_v_plots h_v_row  (fun l1 v_frontThen v_downThen v_plotsThen v_rowThen hI2  hlt hp => hK (l1, v_frontThen, v_downThen, v_plotsThen, v_rowThen) hI2 hlt hp) hI  rfl) N _ hI hN hM
theorem tX9_againOf {N : Nat} {v_houses : Int32} {v_front : Int32} {v_down : Int32} {v_plots : (Nat → Int32)} {v_row : (Nat → Int32)} {v_kinds : (Nat → Int32)} {v_frontThen : Int32} {v_downThen : Int32} {v_plotsThen : (Nat → Int32)} {v_rowThen : (Nat → Int32)}  (hN : 49999 < N) (h_v_houses : RB 1 6 v_houses) (h_v_front : RB 0 11 v_front) (h_v_plots : RA (-1) 11 v_plots) (h_v_row : RA 0 5 v_row) (h_v_frontThen : RB 0 11 v_frontThen) (h_v_plotsThen : RA (-1) 11 v_plotsThen) (h_v_rowThen : RA 0 5 v_rowThen)  : Ok (fun r => RB 0 11 r.2.1 ∧ RA (-1) 11 r.2.2.2.1 ∧ RA 0 5 r.2.2.2.2) (fX9_againOf N v_houses v_front v_down v_plots v_row v_kinds v_frontThen v_downThen v_plotsThen v_rowThen) := by
  unfold fX9_againOf
  refine ok_b (tX9_begin hN h_v_front h_v_plots h_v_row h_v_frontThen h_v_plotsThen h_v_rowThen) (fun x_1 hx => ?_)
  obtain ⟨h_x_1_0, h_x_1_1, h_x_1_2, h_x_1_3, h_x_1_4, h_x_1_5⟩ := hx
  exact lX9_againOf_6  hN h_v_houses h_v_front h_v_plots h_v_row  _ _ _ _ _ ⟨h_x_1_0, h_x_1_1, h_x_1_2, (by grind)⟩  (by grind)
theorem tX9_again {N : Nat} {v_houses : Int32} {v_front : Int32} {v_down : Int32} {v_plots : (Nat → Int32)} {v_row : (Nat → Int32)} {v_kinds : (Nat → Int32)} {v_frontThen : Int32} {v_downThen : Int32} {v_plotsThen : (Nat → Int32)} {v_rowThen : (Nat → Int32)}  (hN : 49999 < N) (h_v_houses : RB 0 6 v_houses) (h_v_front : RB 0 11 v_front) (h_v_plots : RA (-1) 11 v_plots) (h_v_row : RA 0 5 v_row) (h_v_frontThen : RB 0 11 v_frontThen) (h_v_plotsThen : RA (-1) 11 v_plotsThen) (h_v_rowThen : RA 0 5 v_rowThen)  : Ok (fun r => RB 0 11 r.2.1 ∧ RA (-1) 11 r.2.2.2.1 ∧ RA 0 5 r.2.2.2.2) (fX9_again N v_houses v_front v_down v_plots v_row v_kinds v_frontThen v_downThen v_plotsThen v_rowThen) := by
  unfold fX9_again
  refine ok_b (tX9_lacks hN h_v_houses) (fun x_1 hx => ?_)
  have h_x_1_0 := hx
  refine ok_if (fun c_1 => ?_) (fun c_1 => ?_)
  · refine ok_b (tX9_againOf hN (by grind) h_v_front h_v_plots h_v_row h_v_frontThen h_v_plotsThen h_v_rowThen) (fun x_13 hx => ?_)
    obtain ⟨h_x_13_0, h_x_13_1, h_x_13_2⟩ := hx
    exact ok_s ⟨h_x_13_0, h_x_13_1, h_x_13_2⟩
  · exact ok_s ⟨h_v_frontThen, h_v_plotsThen, h_v_rowThen⟩
theorem sX9_post_24 {N : Nat} {v_houses : Int32} {v_front : Int32} {v_down : Int32} {v_plots : (Nat → Int32)} {v_row : (Nat → Int32)} {v_kinds : (Nat → Int32)} {a1 : Int32} {a2 : Int32} {K_24 : Int32 → Int32 → Int32 → (Nat → Int32) → (Nat → Int32) → Option (Int32 × Int32 × Int32 × (Nat → Int32) × (Nat → Int32))} {l3 : Int32} {v_frontThen : Int32} {v_downThen : Int32} {v_plotsThen : (Nat → Int32)} {v_rowThen : (Nat → Int32)}  {m_24 : Int32} (hN : 49999 < N) (h_v_houses : RB 1 6 v_houses) (h_v_front : RB 0 11 v_front) (h_v_plots : RA (-1) 11 v_plots) (h_v_row : RA 0 5 v_row) (h_a1 : RB 0 5 a1) (hK_24 : ∀ (l3 : Int32) (v_frontThen : Int32) (v_downThen : Int32) (v_plotsThen : (Nat → Int32)) (v_rowThen : (Nat → Int32)), RB 0 11 v_frontThen ∧ RA (-1) 11 v_plotsThen ∧ RA 0 5 v_rowThen ∧ 0 ≤ l3 → ((101 : Int32) - l3) < m_24 → 0 < m_24 → Ok (fun r => RB 0 11 r.2.1 ∧ RA (-1) 11 r.2.2.2.1 ∧ RA 0 5 r.2.2.2.2) (K_24 l3 v_frontThen v_downThen v_plotsThen v_rowThen)) (hI : RB 0 11 v_frontThen ∧ RA (-1) 11 v_plotsThen ∧ RA 0 5 v_rowThen ∧ 0 ≤ l3) (hm_24 : ((101 : Int32) - l3) = m_24) : Ok (fun r => RB 0 11 r.2.1 ∧ RA (-1) 11 r.2.2.2.1 ∧ RA 0 5 r.2.2.2.2) (fX9_post_24 N v_houses v_front v_down v_plots v_row v_kinds a1 a2 K_24 l3 v_frontThen v_downThen v_plotsThen v_rowThen) := by
  obtain ⟨h_v_frontThen, h_v_plotsThen, h_v_rowThen, h_l3⟩ := hI
  unfold fX9_post_24
  refine ok_if (fun c_1 => ?_) (fun c_1 => ?_)
  · exact ok_s ⟨h_v_frontThen, h_v_plotsThen, h_v_rowThen⟩
  · refine ok_g (ng6 (by clear hm_24 hK_24; grind)) ?_
    refine ok_if (fun c_2 => ?_) (fun c_2 => ?_)
    · refine ok_b (tX9_goOn hN h_v_houses h_v_frontThen h_v_rowThen h_v_plotsThen) (fun x_57 hx => ?_)
      obtain ⟨h_x_57_0, h_x_57_1, h_x_57_2, h_x_57_3⟩ := hx
      exact hK_24 _ _ _ _ _ ⟨h_x_57_0, h_x_57_2, h_x_57_1, (by clear hm_24 hK_24; grind)⟩ (by clear hK_24; grind) (by clear hK_24; grind)
    · refine ok_g (ng6 (by clear hm_24 hK_24; grind)) ?_
      refine ok_b (tX9_round hN ) (fun x_47 hx => ?_)
      refine ok_if (fun c_3 => ?_) (fun c_3 => ?_)
      · refine ok_b (tX9_goOn hN h_v_houses h_v_frontThen h_v_rowThen h_v_plotsThen) (fun x_57 hx => ?_)
        obtain ⟨h_x_57_0, h_x_57_1, h_x_57_2, h_x_57_3⟩ := hx
        exact hK_24 _ _ _ _ _ ⟨h_x_57_0, h_x_57_2, h_x_57_1, (by clear hm_24 hK_24; grind)⟩ (by clear hK_24; grind) (by clear hK_24; grind)
      · exact ok_s ⟨h_v_frontThen, h_v_plotsThen, h_v_rowThen⟩
theorem lX9_post_24 {N : Nat} {v_houses : Int32} {v_front : Int32} {v_down : Int32} {v_plots : (Nat → Int32)} {v_row : (Nat → Int32)} {v_kinds : (Nat → Int32)} {a1 : Int32} {a2 : Int32}  (hN : 49999 < N) (h_v_houses : RB 1 6 v_houses) (h_v_front : RB 0 11 v_front) (h_v_plots : RA (-1) 11 v_plots) (h_v_row : RA 0 5 v_row) (h_a1 : RB 0 5 a1)  : ∀ (l3 : Int32) (v_frontThen : Int32) (v_downThen : Int32) (v_plotsThen : (Nat → Int32)) (v_rowThen : (Nat → Int32)), RB 0 11 v_frontThen ∧ RA (-1) 11 v_plotsThen ∧ RA 0 5 v_rowThen ∧ 0 ≤ l3 → ((101 : Int32) - l3) ≤ 49999 → Ok (fun r => RB 0 11 r.2.1 ∧ RA (-1) 11 r.2.2.2.1 ∧ RA 0 5 r.2.2.2.2) (lfix (fun (K : Int32 × Int32 × Int32 × (Nat → Int32) × (Nat → Int32) → Option (Int32 × Int32 × Int32 × (Nat → Int32) × (Nat → Int32))) (a : Int32 × Int32 × Int32 × (Nat → Int32) × (Nat → Int32)) => fX9_post_24 N v_houses v_front v_down v_plots v_row v_kinds a1 a2 (fun (l3 : Int32) (v_frontThen : Int32) (v_downThen : Int32) (v_plotsThen : (Nat → Int32)) (v_rowThen : (Nat → Int32)) => K (l3, v_frontThen, v_downThen, v_plotsThen, v_rowThen)) a.1 a.2.1 a.2.2.1 a.2.2.2.1 a.2.2.2.2) N (l3, v_frontThen, v_downThen, v_plotsThen, v_rowThen)) := by
  intro l3 v_frontThen v_downThen v_plotsThen v_rowThen hI hM
  exact ok_l (I := fun (a : Int32 × Int32 × Int32 × (Nat → Int32) × (Nat → Int32)) => (RB 0 11 a.2.1 ∧ RA (-1) 11 a.2.2.2.1 ∧ RA 0 5 a.2.2.2.2 ∧ 0 ≤ a.1)) (M := fun (a : Int32 × Int32 × Int32 × (Nat → Int32) × (Nat → Int32)) => ((101 : Int32) - a.1)) (fun K a hI hK => sX9_post_24  hN h_v_houses h_v_front h_v_plots h_v_row h_a1  (fun l3 v_frontThen v_downThen v_plotsThen v_rowThen hI2  hlt hp => hK (l3, v_frontThen, v_downThen, v_plotsThen, v_rowThen) hI2 hlt hp) hI  rfl) N _ hI hN hM
theorem tX9_post {N : Nat} {v_houses : Int32} {v_front : Int32} {v_down : Int32} {v_plots : (Nat → Int32)} {v_row : (Nat → Int32)} {v_kinds : (Nat → Int32)} {a1 : Int32} {a2 : Int32} {v_frontThen : Int32} {v_downThen : Int32} {v_plotsThen : (Nat → Int32)} {v_rowThen : (Nat → Int32)}  (hN : 49999 < N) (h_v_houses : RB 0 6 v_houses) (h_v_front : RB 0 11 v_front) (h_v_plots : RA (-1) 11 v_plots) (h_v_row : RA 0 5 v_row) (h_v_frontThen : RB 0 11 v_frontThen) (h_v_plotsThen : RA (-1) 11 v_plotsThen) (h_v_rowThen : RA 0 5 v_rowThen)  : Ok (fun r => RB 0 11 r.2.1 ∧ RA (-1) 11 r.2.2.2.1 ∧ RA 0 5 r.2.2.2.2) (fX9_post N v_houses v_front v_down v_plots v_row v_kinds a1 a2 v_frontThen v_downThen v_plotsThen v_rowThen) := by
  unfold fX9_post
  refine ok_b (tX9_isHouse hN h_v_houses) (fun x_2 hx => ?_)
  have h_x_2_0 := hx
  refine ok_if (fun c_1 => ?_) (fun c_1 => ?_)
  · exact ok_s ⟨h_v_frontThen, h_v_plotsThen, h_v_rowThen⟩
  · refine ok_b (tX9_isPlot hN ) (fun x_9 hx => ?_)
    have h_x_9_0 := hx
    refine ok_if (fun c_2 => ?_) (fun c_2 => ?_)
    · exact ok_s ⟨h_v_frontThen, h_v_plotsThen, h_v_rowThen⟩
    · refine ok_b (tX9_begin hN h_v_front h_v_plots h_v_row h_v_frontThen h_v_plotsThen h_v_rowThen) (fun x_19 hx => ?_)
      obtain ⟨h_x_19_0, h_x_19_1, h_x_19_2, h_x_19_3, h_x_19_4, h_x_19_5⟩ := hx
      exact lX9_post_24  hN (by grind) h_v_front h_v_plots h_v_row (by grind)  _ _ _ _ _ ⟨h_x_19_0, h_x_19_1, h_x_19_2, (by grind)⟩  (by grind)
theorem sX9_willOf_9 {N : Nat} {v_houses : Int32} {v_front : Int32} {v_down : Int32} {v_plots : (Nat → Int32)} {v_row : (Nat → Int32)} {v_kinds : (Nat → Int32)} {v_worths : (Nat → Int32)} {a1 : Int32} {a2 : Int32} {K_9 : Int32 → Int32 → Int32 → Int32 → (Nat → Int32) → (Nat → Int32) → Option (Int32 × Int32 × Int32 × (Nat → Int32) × (Nat → Int32))} {l3 : Int32} {l4 : Int32} {v_frontThen : Int32} {v_downThen : Int32} {v_plotsThen : (Nat → Int32)} {v_rowThen : (Nat → Int32)}  {m_9 : Int32} (hN : 49999 < N) (h_v_houses : RB 1 6 v_houses) (h_v_front : RB 0 11 v_front) (h_v_plots : RA (-1) 11 v_plots) (h_v_row : RA 0 5 v_row) (h_a1 : RB 0 5 a1) (h_a2 : RB 0 60 a2) (hK_9 : ∀ (l3 : Int32) (l4 : Int32) (v_frontThen : Int32) (v_downThen : Int32) (v_plotsThen : (Nat → Int32)) (v_rowThen : (Nat → Int32)), RB 0 11 v_frontThen ∧ RA (-1) 11 v_plotsThen ∧ RA 0 5 v_rowThen ∧ 0 ≤ l4 → (a2 - l4) < m_9 → 0 < m_9 → Ok (fun r => RB 0 11 r.2.1 ∧ RA (-1) 11 r.2.2.2.1 ∧ RA 0 5 r.2.2.2.2) (K_9 l3 l4 v_frontThen v_downThen v_plotsThen v_rowThen)) (hI : RB 0 11 v_frontThen ∧ RA (-1) 11 v_plotsThen ∧ RA 0 5 v_rowThen ∧ 0 ≤ l4) (hm_9 : (a2 - l4) = m_9) : Ok (fun r => RB 0 11 r.2.1 ∧ RA (-1) 11 r.2.2.2.1 ∧ RA 0 5 r.2.2.2.2) (fX9_willOf_9 N v_houses v_front v_down v_plots v_row v_kinds v_worths a1 a2 K_9 l3 l4 v_frontThen v_downThen v_plotsThen v_rowThen) := by
  obtain ⟨h_v_frontThen, h_v_plotsThen, h_v_rowThen, h_l4⟩ := hI
  unfold fX9_willOf_9
  refine ok_if (fun c_1 => ?_) (fun c_1 => ?_)
  · exact ok_s ⟨h_v_frontThen, h_v_plotsThen, h_v_rowThen⟩
  · refine ok_b (tX9_goOn hN h_v_houses h_v_frontThen h_v_rowThen h_v_plotsThen) (fun x_16 hx => ?_)
    obtain ⟨h_x_16_0, h_x_16_1, h_x_16_2, h_x_16_3⟩ := hx
    refine ok_g (ng6 (by clear hm_9 hK_9; grind)) ?_
    refine ok_b (tX9_worthOf hN (by clear hm_9 hK_9; have := h_x_16_2 ((a1).toNatClampNeg); grind)) (fun x_28 hx => ?_)
    exact hK_9 _ _ _ _ _ _ ⟨h_x_16_0, h_x_16_2, h_x_16_1, (by clear hm_9 hK_9; grind)⟩ (by clear hK_9; grind) (by clear hK_9; grind)
theorem lX9_willOf_9 {N : Nat} {v_houses : Int32} {v_front : Int32} {v_down : Int32} {v_plots : (Nat → Int32)} {v_row : (Nat → Int32)} {v_kinds : (Nat → Int32)} {v_worths : (Nat → Int32)} {a1 : Int32} {a2 : Int32}  (hN : 49999 < N) (h_v_houses : RB 1 6 v_houses) (h_v_front : RB 0 11 v_front) (h_v_plots : RA (-1) 11 v_plots) (h_v_row : RA 0 5 v_row) (h_a1 : RB 0 5 a1) (h_a2 : RB 0 60 a2)  : ∀ (l3 : Int32) (l4 : Int32) (v_frontThen : Int32) (v_downThen : Int32) (v_plotsThen : (Nat → Int32)) (v_rowThen : (Nat → Int32)), RB 0 11 v_frontThen ∧ RA (-1) 11 v_plotsThen ∧ RA 0 5 v_rowThen ∧ 0 ≤ l4 → (a2 - l4) ≤ 49999 → Ok (fun r => RB 0 11 r.2.1 ∧ RA (-1) 11 r.2.2.2.1 ∧ RA 0 5 r.2.2.2.2) (lfix (fun (K : Int32 × Int32 × Int32 × Int32 × (Nat → Int32) × (Nat → Int32) → Option (Int32 × Int32 × Int32 × (Nat → Int32) × (Nat → Int32))) (a : Int32 × Int32 × Int32 × Int32 × (Nat → Int32) × (Nat → Int32)) => fX9_willOf_9 N v_houses v_front v_down v_plots v_row v_kinds v_worths a1 a2 (fun (l3 : Int32) (l4 : Int32) (v_frontThen : Int32) (v_downThen : Int32) (v_plotsThen : (Nat → Int32)) (v_rowThen : (Nat → Int32)) => K (l3, l4, v_frontThen, v_downThen, v_plotsThen, v_rowThen)) a.1 a.2.1 a.2.2.1 a.2.2.2.1 a.2.2.2.2.1 a.2.2.2.2.2) N (l3, l4, v_frontThen, v_downThen, v_plotsThen, v_rowThen)) := by
  intro l3 l4 v_frontThen v_downThen v_plotsThen v_rowThen hI hM
  exact ok_l (I := fun (a : Int32 × Int32 × Int32 × Int32 × (Nat → Int32) × (Nat → Int32)) => (RB 0 11 a.2.2.1 ∧ RA (-1) 11 a.2.2.2.2.1 ∧ RA 0 5 a.2.2.2.2.2 ∧ 0 ≤ a.2.1)) (M := fun (a : Int32 × Int32 × Int32 × Int32 × (Nat → Int32) × (Nat → Int32)) => (a2 - a.2.1)) (fun K a hI hK => sX9_willOf_9  hN h_v_houses h_v_front h_v_plots h_v_row h_a1 h_a2  (fun l3 l4 v_frontThen v_downThen v_plotsThen v_rowThen hI2  hlt hp => hK (l3, l4, v_frontThen, v_downThen, v_plotsThen, v_rowThen) hI2 hlt hp) hI  rfl) N _ hI hN hM
theorem tX9_willOf {N : Nat} {v_houses : Int32} {v_front : Int32} {v_down : Int32} {v_plots : (Nat → Int32)} {v_row : (Nat → Int32)} {v_kinds : (Nat → Int32)} {v_worths : (Nat → Int32)} {a1 : Int32} {a2 : Int32} {v_frontThen : Int32} {v_downThen : Int32} {v_plotsThen : (Nat → Int32)} {v_rowThen : (Nat → Int32)}  (hN : 49999 < N) (h_v_houses : RB 1 6 v_houses) (h_v_front : RB 0 11 v_front) (h_v_plots : RA (-1) 11 v_plots) (h_v_row : RA 0 5 v_row) (h_a1 : RB 0 5 a1) (h_a2 : RB 0 60 a2) (h_v_frontThen : RB 0 11 v_frontThen) (h_v_plotsThen : RA (-1) 11 v_plotsThen) (h_v_rowThen : RA 0 5 v_rowThen)  : Ok (fun r => RB 0 11 r.2.1 ∧ RA (-1) 11 r.2.2.2.1 ∧ RA 0 5 r.2.2.2.2) (fX9_willOf N v_houses v_front v_down v_plots v_row v_kinds v_worths a1 a2 v_frontThen v_downThen v_plotsThen v_rowThen) := by
  unfold fX9_willOf
  refine ok_b (tX9_begin hN h_v_front h_v_plots h_v_row h_v_frontThen h_v_plotsThen h_v_rowThen) (fun x_1 hx => ?_)
  obtain ⟨h_x_1_0, h_x_1_1, h_x_1_2, h_x_1_3, h_x_1_4, h_x_1_5⟩ := hx
  exact lX9_willOf_9  hN h_v_houses h_v_front h_v_plots h_v_row h_a1 h_a2  _ _ _ _ _ _ ⟨h_x_1_0, h_x_1_1, h_x_1_2, (by grind)⟩  (by grind)
theorem tX9_will {N : Nat} {v_houses : Int32} {v_front : Int32} {v_down : Int32} {v_plots : (Nat → Int32)} {v_row : (Nat → Int32)} {v_kinds : (Nat → Int32)} {v_worths : (Nat → Int32)} {a1 : Int32} {a2 : Int32} {v_frontThen : Int32} {v_downThen : Int32} {v_plotsThen : (Nat → Int32)} {v_rowThen : (Nat → Int32)}  (hN : 49999 < N) (h_v_houses : RB 0 6 v_houses) (h_v_front : RB 0 11 v_front) (h_v_plots : RA (-1) 11 v_plots) (h_v_row : RA 0 5 v_row) (h_v_frontThen : RB 0 11 v_frontThen) (h_v_plotsThen : RA (-1) 11 v_plotsThen) (h_v_rowThen : RA 0 5 v_rowThen)  : Ok (fun r => RB 0 11 r.2.1 ∧ RA (-1) 11 r.2.2.2.1 ∧ RA 0 5 r.2.2.2.2) (fX9_will N v_houses v_front v_down v_plots v_row v_kinds v_worths a1 a2 v_frontThen v_downThen v_plotsThen v_rowThen) := by
  unfold fX9_will
  refine ok_b (tX9_isHouse hN h_v_houses) (fun x_2 hx => ?_)
  have h_x_2_0 := hx
  refine ok_if (fun c_1 => ?_) (fun c_1 => ?_)
  · exact ok_s ⟨h_v_frontThen, h_v_plotsThen, h_v_rowThen⟩
  · refine ok_b (in_ok (a := (a2)) (lo := (1 : Int32)) (hi := (60 : Int32)) rfl rfl) (fun x_17 hx => ?_)
    have h_x_17 := hx
    refine ok_if (fun c_2 => ?_) (fun c_2 => ?_)
    · exact ok_s ⟨h_v_frontThen, h_v_plotsThen, h_v_rowThen⟩
    · refine ok_b (tX9_willOf hN (by grind) h_v_front h_v_plots h_v_row (by grind) (by grind) h_v_frontThen h_v_plotsThen h_v_rowThen) (fun x_26 hx => ?_)
      obtain ⟨h_x_26_0, h_x_26_1, h_x_26_2⟩ := hx
      exact ok_s ⟨h_x_26_0, h_x_26_1, h_x_26_2⟩
theorem tX9_rings {N : Nat} {v_houses : Int32} {v_plots : (Nat → Int32)} {v_likes : (Nat → Int32)} {v_ringsMany : Int32} {v_traded : (Nat → Int32)} {v_points : (Nat → Int32)} {v_ringLong : (Nat → Int32)}  (hN : 49999 < N) (h_v_houses : RB 0 6 v_houses) (h_v_plots : RA (-1) 11 v_plots) (h_v_points : RA 0 5 v_points)  : Ok (fun r => RA 0 5 r.2.2.2.1) (fX9_rings N v_houses v_plots v_likes v_ringsMany v_traded v_points v_ringLong) := by
  unfold fX9_rings
  refine ok_b (tX9_lacks hN h_v_houses) (fun x_1 hx => ?_)
  have h_x_1_0 := hx
  refine ok_if (fun c_1 => ?_) (fun c_1 => ?_)
  · refine ok_b (tX9_trade hN h_v_houses h_v_plots h_v_points) (fun x_11 hx => ?_)
    have h_x_11_0 := hx
    exact ok_s h_x_11_0
  · exact ok_s h_v_points
theorem tX9_wish {N : Nat} {v_houses : Int32} {a1 : Int32} {a2 : Int32} {a3 : Int32} {v_wishesMany : Int32} {v_wishes : (Nat → Int32)}  (hN : 49999 < N) (h_v_houses : RB 0 6 v_houses) (h_v_wishesMany : RB 0 5 v_wishesMany) (h_v_wishes : W0 v_wishes)  : Ok (fun r => RB 0 5 r.2.1 ∧ W0 r.2.2 ∧ (¬(0 ≤ a1 ∧ a1 < v_houses ∧ 0 ≤ a2 ∧ a2 < 12) ∧ r.1 = -101 ∧ r.2.1 = v_wishesMany ∨ (0 ≤ a1 ∧ a1 < v_houses ∧ 0 ≤ a2 ∧ a2 < 12) ∧ ¬(1 ≤ a3 ∧ a3 ≤ 40) ∧ r.1 = -102 ∧ r.2.1 = v_wishesMany ∨ (0 ≤ a1 ∧ a1 < v_houses ∧ 0 ≤ a2 ∧ a2 < 12) ∧ (1 ≤ a3 ∧ a3 ≤ 40) ∧ v_wishesMany < 5 ∧ r.1 = v_wishesMany + 1 ∧ r.2.1 = v_wishesMany + 1 ∨ (0 ≤ a1 ∧ a1 < v_houses ∧ 0 ≤ a2 ∧ a2 < 12) ∧ (1 ≤ a3 ∧ a3 ≤ 40) ∧ ¬ v_wishesMany < 5 ∧ r.1 = -104 ∧ r.2.1 = v_wishesMany)) (fX9_wish N v_houses a1 a2 a3 v_wishesMany v_wishes) := by
  unfold fX9_wish
  refine ok_b (tX9_isHouse hN h_v_houses) (fun x_2 hx => ?_)
  have h_x_2_0 := hx
  refine ok_if (fun c_1 => ?_) (fun c_1 => ?_)
  · exact ok_s ⟨h_v_wishesMany, h_v_wishes, (by grind)⟩
  · refine ok_b (tX9_isPlot hN ) (fun x_9 hx => ?_)
    have h_x_9_0 := hx
    refine ok_if (fun c_2 => ?_) (fun c_2 => ?_)
    · exact ok_s ⟨h_v_wishesMany, h_v_wishes, (by grind)⟩
    · refine ok_b (in_ok (a := (a3)) (lo := (1 : Int32)) (hi := (40 : Int32)) rfl rfl) (fun x_24 hx => ?_)
      have h_x_24 := hx
      refine ok_if (fun c_3 => ?_) (fun c_3 => ?_)
      · exact ok_s ⟨h_v_wishesMany, h_v_wishes, (by grind)⟩
      · refine ok_if (fun c_4 => ?_) (fun c_4 => ?_)
        · exact ok_s ⟨h_v_wishesMany, h_v_wishes, (by grind)⟩
        · refine ok_g (ng15 (by grind)) ?_
          refine ok_g (ng15 (by grind)) ?_
          refine ok_g (ng15 (by grind)) ?_
          exact ok_s ⟨(by grind), (W0.put h_v_wishes (by grind) (by grind)), (by grind)⟩
theorem tX9_give {N : Nat} {v_wishesMany : Int32}  (hN : 49999 < N) (h_v_wishesMany : RB 0 5 v_wishesMany)  : Ok (fun r => RB 0 5 r.2 ∧ (r.1 = v_wishesMany ∧ r.2 = 0)) (fX9_give N v_wishesMany) := by
  unfold fX9_give
  exact ok_s ⟨(by grind), (by grind)⟩
theorem sX9_comeTrue_72 {N : Nat} {v_houses : Int32} {v_wishesMany : Int32} {v_order : (Nat → Int32)} {v_kinds : (Nat → Int32)} {v_wishes : (Nat → Int32)} {K_59 : Int32 → Int32 → Int32 → Int32 → (Nat → Int32) → (Nat → Int32) → Option (Int32 × Int32 × Int32 × (Nat → Int32) × (Nat → Int32))} {K_72 : Int32 → Int32 → Int32 → Int32 → Int32 → (Nat → Int32) → (Nat → Int32) → Option (Int32 × Int32 × Int32 × (Nat → Int32) × (Nat → Int32))} {l1 : Int32} {l2 : Int32} {l3 : Int32} {v_frontThen : Int32} {v_downThen : Int32} {v_plotsThen : (Nat → Int32)} {v_rowThen : (Nat → Int32)}  {m_59 : Int32} {m_72 : Int32} (hN : 49999 < N) (h_v_houses : RB 1 6 v_houses) (h_v_wishesMany : RB 0 5 v_wishesMany) (h_v_order : RA 0 5 v_order) (h_v_wishes : W0 v_wishes) (hK_59 : ∀ (l1 : Int32) (l2 : Int32) (v_frontThen : Int32) (v_downThen : Int32) (v_plotsThen : (Nat → Int32)) (v_rowThen : (Nat → Int32)), RB 1 41 l2 ∧ RB 0 11 v_frontThen ∧ RA (-1) 11 v_plotsThen ∧ RA 0 5 v_rowThen → ((41 : Int32) - l2) < m_59 → 0 < m_59 → Ok (fun r => RB 0 11 r.2.1 ∧ RA (-1) 11 r.2.2.2.1 ∧ RA 0 5 r.2.2.2.2) (K_59 l1 l2 v_frontThen v_downThen v_plotsThen v_rowThen)) (hK_72 : ∀ (l1 : Int32) (l2 : Int32) (l3 : Int32) (v_frontThen : Int32) (v_downThen : Int32) (v_plotsThen : (Nat → Int32)) (v_rowThen : (Nat → Int32)), RB 0 15 l3 ∧ RB 0 11 v_frontThen ∧ RA (-1) 11 v_plotsThen ∧ RA 0 5 v_rowThen ∧ (1 ≤ l2 ∧ l2 < 41) ∧ (M3 l3) → ((41 : Int32) - l2) ≤ m_59 → (3 * v_wishesMany - l3) < m_72 → 0 < m_72 → Ok (fun r => RB 0 11 r.2.1 ∧ RA (-1) 11 r.2.2.2.1 ∧ RA 0 5 r.2.2.2.2) (K_72 l1 l2 l3 v_frontThen v_downThen v_plotsThen v_rowThen)) (hI : RB 0 15 l3 ∧ RB 0 11 v_frontThen ∧ RA (-1) 11 v_plotsThen ∧ RA 0 5 v_rowThen ∧ (1 ≤ l2 ∧ l2 < 41) ∧ (M3 l3)) (hm_59 : ((41 : Int32) - l2) ≤ m_59) (hm_72 : (3 * v_wishesMany - l3) = m_72) : Ok (fun r => RB 0 11 r.2.1 ∧ RA (-1) 11 r.2.2.2.1 ∧ RA 0 5 r.2.2.2.2) (fX9_comeTrue_72 N v_houses v_wishesMany v_order v_kinds v_wishes K_59 K_72 l1 l2 l3 v_frontThen v_downThen v_plotsThen v_rowThen) := by
  obtain ⟨h_l3, h_v_frontThen, h_v_plotsThen, h_v_rowThen, e_0, e_1⟩ := hI
  unfold fX9_comeTrue_72
  refine ok_if (fun c_1 => ?_) (fun c_1 => ?_)
  · exact hK_59 _ _ _ _ _ _ ⟨by clear hm_72 hm_59 hK_72 hK_59 e_1 c_1; grind, h_v_frontThen, h_v_plotsThen, h_v_rowThen⟩ (by clear hm_72 hK_72 hK_59 e_1 c_1; grind) (by clear hm_72 hK_72 hK_59 e_1 c_1; grind)
  · have s6 : v_wishesMany ≤ 5 ∧ 0 ≤ v_wishesMany := by clear hm_72 hm_59 hK_72 hK_59 e_1 c_1; grind
    have b1 : l3 < 3 * v_wishesMany := by clear hm_72 hm_59 hK_72 hK_59 e_1; grind
    have b2 : l3 < 15 := by clear hm_72 hm_59 hK_72 hK_59 e_1 c_1; grind
    have b3 : l3 ≤ 12 := (M3.le e_1).1 b2
    have r2 := W0.rd h_v_wishes e_1 b2
    have p3 : RB 0 15 (l3 + 3) := by clear hm_72 hm_59 hK_72 hK_59 e_1 b1 c_1 r2; grind
    have p4 : 3 * v_wishesMany - (l3 + 3) < m_72 := by clear hm_59 hK_72 hK_59 e_1 r2 c_1; grind
    have p5 : 0 < m_72 := by clear hm_59 hK_72 hK_59 e_1 r2 c_1 p4; grind
    have k72 : ∀ x : Int32, Ok _ (K_72 x l2 (l3 + 3) v_frontThen v_downThen v_plotsThen v_rowThen) := fun x => hK_72 x l2 (l3 + 3) _ _ _ _ ⟨p3, h_v_frontThen, h_v_plotsThen, h_v_rowThen, e_0, M3.s e_1 (by clear hm_59 hK_72 hK_59 e_1 r2 c_1 p4 p5 b1; grind)⟩ hm_59 p4 p5
    have g1 : ¬ (l3 < 0 ∨ 15 ≤ l3.toNatClampNeg) := ng15 ⟨h_l3.1, b2⟩
    have g2 : ¬ ((l3 + 2) < 0 ∨ 15 ≤ (l3 + 2).toNatClampNeg) := ng15 (by clear hm_72 hm_59 hK_72 hK_59 e_1 b1 c_1 r2 k72 p4 p5; grind)
    have g3 : ¬ ((l3 + 1) < 0 ∨ 15 ≤ (l3 + 1).toNatClampNeg) := ng15 (by clear hm_72 hm_59 hK_72 hK_59 e_1 b1 c_1 r2 k72 p4 p5; grind)
    have g4 : ¬ (v_wishes l3.toNatClampNeg < 0 ∨ 6 ≤ (v_wishes l3.toNatClampNeg).toNatClampNeg) := ng6 (by
      clear hm_72 hm_59 hK_72 hK_59 e_1 b1 c_1 k72 p4 p5 p3 g1 g2 g3 b2 b3 h_l3
      generalize v_wishes l3.toNatClampNeg = z at r2
      grind)
    exact ok_g g2 (ok_if (fun _ => ok_g g1 (ok_g g4 (ok_g g3 (ok_if (fun _ => k72 _) (fun _ => k72 _))))) (fun _ => k72 _))
theorem lX9_comeTrue_72 {N : Nat} {v_houses : Int32} {v_wishesMany : Int32} {v_order : (Nat → Int32)} {v_kinds : (Nat → Int32)} {v_wishes : (Nat → Int32)} {K_59 : Int32 → Int32 → Int32 → Int32 → (Nat → Int32) → (Nat → Int32) → Option (Int32 × Int32 × Int32 × (Nat → Int32) × (Nat → Int32))}  {m_59 : Int32} (hN : 49999 < N) (h_v_houses : RB 1 6 v_houses) (h_v_wishesMany : RB 0 5 v_wishesMany) (h_v_order : RA 0 5 v_order) (h_v_wishes : W0 v_wishes) (hK_59 : ∀ (l1 : Int32) (l2 : Int32) (v_frontThen : Int32) (v_downThen : Int32) (v_plotsThen : (Nat → Int32)) (v_rowThen : (Nat → Int32)), RB 1 41 l2 ∧ RB 0 11 v_frontThen ∧ RA (-1) 11 v_plotsThen ∧ RA 0 5 v_rowThen → ((41 : Int32) - l2) < m_59 → 0 < m_59 → Ok (fun r => RB 0 11 r.2.1 ∧ RA (-1) 11 r.2.2.2.1 ∧ RA 0 5 r.2.2.2.2) (K_59 l1 l2 v_frontThen v_downThen v_plotsThen v_rowThen)) : ∀ (l1 : Int32) (l2 : Int32) (l3 : Int32) (v_frontThen : Int32) (v_downThen : Int32) (v_plotsThen : (Nat → Int32)) (v_rowThen : (Nat → Int32)), RB 0 15 l3 ∧ RB 0 11 v_frontThen ∧ RA (-1) 11 v_plotsThen ∧ RA 0 5 v_rowThen ∧ (1 ≤ l2 ∧ l2 < 41) ∧ (M3 l3) → ((41 : Int32) - l2) ≤ m_59 → (3 * v_wishesMany - l3) ≤ 49999 → Ok (fun r => RB 0 11 r.2.1 ∧ RA (-1) 11 r.2.2.2.1 ∧ RA 0 5 r.2.2.2.2) (lfix (fun (K : Int32 × Int32 × Int32 × Int32 × Int32 × (Nat → Int32) × (Nat → Int32) → Option (Int32 × Int32 × Int32 × (Nat → Int32) × (Nat → Int32))) (a : Int32 × Int32 × Int32 × Int32 × Int32 × (Nat → Int32) × (Nat → Int32)) => fX9_comeTrue_72 N v_houses v_wishesMany v_order v_kinds v_wishes K_59 (fun (l1 : Int32) (l2 : Int32) (l3 : Int32) (v_frontThen : Int32) (v_downThen : Int32) (v_plotsThen : (Nat → Int32)) (v_rowThen : (Nat → Int32)) => K (l1, l2, l3, v_frontThen, v_downThen, v_plotsThen, v_rowThen)) a.1 a.2.1 a.2.2.1 a.2.2.2.1 a.2.2.2.2.1 a.2.2.2.2.2.1 a.2.2.2.2.2.2) N (l1, l2, l3, v_frontThen, v_downThen, v_plotsThen, v_rowThen)) := by
  intro l1 l2 l3 v_frontThen v_downThen v_plotsThen v_rowThen hI hm_59 hM
  exact ok_l (I := fun (a : Int32 × Int32 × Int32 × Int32 × Int32 × (Nat → Int32) × (Nat → Int32)) => (RB 0 15 a.2.2.1 ∧ RB 0 11 a.2.2.2.1 ∧ RA (-1) 11 a.2.2.2.2.2.1 ∧ RA 0 5 a.2.2.2.2.2.2 ∧ (1 ≤ a.2.1 ∧ a.2.1 < 41) ∧ (M3 a.2.2.1)) ∧ ((41 : Int32) - a.2.1) ≤ m_59) (M := fun (a : Int32 × Int32 × Int32 × Int32 × Int32 × (Nat → Int32) × (Nat → Int32)) => (3 * v_wishesMany - a.2.2.1)) (fun K a hI hK => sX9_comeTrue_72  hN h_v_houses h_v_wishesMany h_v_order h_v_wishes hK_59 (fun l1 l2 l3 v_frontThen v_downThen v_plotsThen v_rowThen hI2 q_59 hlt hp => hK (l1, l2, l3, v_frontThen, v_downThen, v_plotsThen, v_rowThen) ⟨hI2, q_59⟩ hlt hp) hI.1 hI.2 rfl) N _ ⟨hI, hm_59⟩ hN hM
theorem sX9_comeTrue_59 {N : Nat} {v_houses : Int32} {v_wishesMany : Int32} {v_order : (Nat → Int32)} {v_kinds : (Nat → Int32)} {v_wishes : (Nat → Int32)} {K_59 : Int32 → Int32 → Int32 → Int32 → (Nat → Int32) → (Nat → Int32) → Option (Int32 × Int32 × Int32 × (Nat → Int32) × (Nat → Int32))} {l1 : Int32} {l2 : Int32} {v_frontThen : Int32} {v_downThen : Int32} {v_plotsThen : (Nat → Int32)} {v_rowThen : (Nat → Int32)}  {m_59 : Int32} (hN : 49999 < N) (h_v_houses : RB 1 6 v_houses) (h_v_wishesMany : RB 0 5 v_wishesMany) (h_v_order : RA 0 5 v_order) (h_v_wishes : W0 v_wishes) (hK_59 : ∀ (l1 : Int32) (l2 : Int32) (v_frontThen : Int32) (v_downThen : Int32) (v_plotsThen : (Nat → Int32)) (v_rowThen : (Nat → Int32)), RB 1 41 l2 ∧ RB 0 11 v_frontThen ∧ RA (-1) 11 v_plotsThen ∧ RA 0 5 v_rowThen → ((41 : Int32) - l2) < m_59 → 0 < m_59 → Ok (fun r => RB 0 11 r.2.1 ∧ RA (-1) 11 r.2.2.2.1 ∧ RA 0 5 r.2.2.2.2) (K_59 l1 l2 v_frontThen v_downThen v_plotsThen v_rowThen)) (hI : RB 1 41 l2 ∧ RB 0 11 v_frontThen ∧ RA (-1) 11 v_plotsThen ∧ RA 0 5 v_rowThen) (hm_59 : ((41 : Int32) - l2) = m_59) : Ok (fun r => RB 0 11 r.2.1 ∧ RA (-1) 11 r.2.2.2.1 ∧ RA 0 5 r.2.2.2.2) (fX9_comeTrue_59 N v_houses v_wishesMany v_order v_kinds v_wishes K_59 l1 l2 v_frontThen v_downThen v_plotsThen v_rowThen) := by
  obtain ⟨h_l2, h_v_frontThen, h_v_plotsThen, h_v_rowThen⟩ := hI
  unfold fX9_comeTrue_59
  refine ok_if (fun c_1 => ?_) (fun c_1 => ?_)
  · exact ok_s ⟨h_v_frontThen, h_v_plotsThen, h_v_rowThen⟩
  · refine ok_b (tX9_goOn hN h_v_houses h_v_frontThen h_v_rowThen h_v_plotsThen) (fun x_66 hx => ?_)
    obtain ⟨h_x_66_0, h_x_66_1, h_x_66_2, h_x_66_3⟩ := hx
    exact lX9_comeTrue_72  hN h_v_houses h_v_wishesMany h_v_order h_v_wishes hK_59 _ _ _ _ _ _ _ ⟨(by clear hm_59 hK_59; grind), h_x_66_0, h_x_66_2, h_x_66_1, (by clear hm_59 hK_59; grind), M3.z⟩ (by clear hK_59; grind) (by clear hm_59 hK_59; grind)
theorem lX9_comeTrue_59 {N : Nat} {v_houses : Int32} {v_wishesMany : Int32} {v_order : (Nat → Int32)} {v_kinds : (Nat → Int32)} {v_wishes : (Nat → Int32)}  (hN : 49999 < N) (h_v_houses : RB 1 6 v_houses) (h_v_wishesMany : RB 0 5 v_wishesMany) (h_v_order : RA 0 5 v_order) (h_v_wishes : W0 v_wishes)  : ∀ (l1 : Int32) (l2 : Int32) (v_frontThen : Int32) (v_downThen : Int32) (v_plotsThen : (Nat → Int32)) (v_rowThen : (Nat → Int32)), RB 1 41 l2 ∧ RB 0 11 v_frontThen ∧ RA (-1) 11 v_plotsThen ∧ RA 0 5 v_rowThen → ((41 : Int32) - l2) ≤ 49999 → Ok (fun r => RB 0 11 r.2.1 ∧ RA (-1) 11 r.2.2.2.1 ∧ RA 0 5 r.2.2.2.2) (lfix (fun (K : Int32 × Int32 × Int32 × Int32 × (Nat → Int32) × (Nat → Int32) → Option (Int32 × Int32 × Int32 × (Nat → Int32) × (Nat → Int32))) (a : Int32 × Int32 × Int32 × Int32 × (Nat → Int32) × (Nat → Int32)) => fX9_comeTrue_59 N v_houses v_wishesMany v_order v_kinds v_wishes (fun (l1 : Int32) (l2 : Int32) (v_frontThen : Int32) (v_downThen : Int32) (v_plotsThen : (Nat → Int32)) (v_rowThen : (Nat → Int32)) => K (l1, l2, v_frontThen, v_downThen, v_plotsThen, v_rowThen)) a.1 a.2.1 a.2.2.1 a.2.2.2.1 a.2.2.2.2.1 a.2.2.2.2.2) N (l1, l2, v_frontThen, v_downThen, v_plotsThen, v_rowThen)) := by
  intro l1 l2 v_frontThen v_downThen v_plotsThen v_rowThen hI hM
  exact ok_l (I := fun (a : Int32 × Int32 × Int32 × Int32 × (Nat → Int32) × (Nat → Int32)) => (RB 1 41 a.2.1 ∧ RB 0 11 a.2.2.1 ∧ RA (-1) 11 a.2.2.2.2.1 ∧ RA 0 5 a.2.2.2.2.2)) (M := fun (a : Int32 × Int32 × Int32 × Int32 × (Nat → Int32) × (Nat → Int32)) => ((41 : Int32) - a.2.1)) (fun K a hI hK => sX9_comeTrue_59  hN h_v_houses h_v_wishesMany h_v_order h_v_wishes  (fun l1 l2 v_frontThen v_downThen v_plotsThen v_rowThen hI2  hlt hp => hK (l1, l2, v_frontThen, v_downThen, v_plotsThen, v_rowThen) hI2 hlt hp) hI  rfl) N _ hI hN hM
theorem sX9_comeTrue_2 {N : Nat} {v_houses : Int32} {v_wishesMany : Int32} {v_order : (Nat → Int32)} {v_kinds : (Nat → Int32)} {v_wishes : (Nat → Int32)} {K_2 : Int32 → Int32 → Int32 → (Nat → Int32) → (Nat → Int32) → Option (Int32 × Int32 × Int32 × (Nat → Int32) × (Nat → Int32))} {l1 : Int32} {v_frontThen : Int32} {v_downThen : Int32} {v_plotsThen : (Nat → Int32)} {v_rowThen : (Nat → Int32)}  {m_2 : Int32} (hN : 49999 < N) (h_v_houses : RB 1 6 v_houses) (h_v_wishesMany : RB 0 5 v_wishesMany) (h_v_order : RA 0 5 v_order) (h_v_wishes : W0 v_wishes) (hK_2 : ∀ (l1 : Int32) (v_frontThen : Int32) (v_downThen : Int32) (v_plotsThen : (Nat → Int32)) (v_rowThen : (Nat → Int32)), RB 0 11 v_frontThen ∧ RA (-1) 11 v_plotsThen ∧ RA 0 5 v_rowThen ∧ 0 ≤ l1 → (v_houses - l1) < m_2 → 0 < m_2 → Ok (fun r => RB 0 11 r.2.1 ∧ RA (-1) 11 r.2.2.2.1 ∧ RA 0 5 r.2.2.2.2) (K_2 l1 v_frontThen v_downThen v_plotsThen v_rowThen)) (hI : RB 0 11 v_frontThen ∧ RA (-1) 11 v_plotsThen ∧ RA 0 5 v_rowThen ∧ 0 ≤ l1) (hm_2 : (v_houses - l1) = m_2) : Ok (fun r => RB 0 11 r.2.1 ∧ RA (-1) 11 r.2.2.2.1 ∧ RA 0 5 r.2.2.2.2) (fX9_comeTrue_2 N v_houses v_wishesMany v_order v_kinds v_wishes K_2 l1 v_frontThen v_downThen v_plotsThen v_rowThen) := by
  obtain ⟨h_v_frontThen, h_v_plotsThen, h_v_rowThen, h_l1⟩ := hI
  unfold fX9_comeTrue_2
  refine ok_if (fun c_1 => ?_) (fun c_1 => ?_)
  · exact lX9_comeTrue_59  hN h_v_houses h_v_wishesMany h_v_order h_v_wishes  _ _ _ _ _ _ ⟨(by clear hm_2 hK_2; grind), (by clear hm_2 hK_2; grind), h_v_plotsThen, h_v_rowThen⟩  (by clear hm_2 hK_2; grind)
  · refine ok_g (ng6 (by clear hm_2 hK_2; grind)) ?_
    refine ok_g (ng6 (by clear hm_2 hK_2; have := h_v_order ((l1).toNatClampNeg); grind)) ?_
    refine ok_g (ng6 (by clear hm_2 hK_2; grind)) ?_
    refine ok_g (ng6 (by clear hm_2 hK_2; grind)) ?_
    exact hK_2 _ _ _ _ _ ⟨h_v_frontThen, (RA.upd h_v_plotsThen (by clear hm_2 hK_2; grind)), (RA.upd h_v_rowThen (by clear hm_2 hK_2; have := h_v_order ((l1).toNatClampNeg); grind)), (by clear hm_2 hK_2; grind)⟩ (by clear hK_2; grind) (by clear hK_2; grind)
theorem lX9_comeTrue_2 {N : Nat} {v_houses : Int32} {v_wishesMany : Int32} {v_order : (Nat → Int32)} {v_kinds : (Nat → Int32)} {v_wishes : (Nat → Int32)}  (hN : 49999 < N) (h_v_houses : RB 1 6 v_houses) (h_v_wishesMany : RB 0 5 v_wishesMany) (h_v_order : RA 0 5 v_order) (h_v_wishes : W0 v_wishes)  : ∀ (l1 : Int32) (v_frontThen : Int32) (v_downThen : Int32) (v_plotsThen : (Nat → Int32)) (v_rowThen : (Nat → Int32)), RB 0 11 v_frontThen ∧ RA (-1) 11 v_plotsThen ∧ RA 0 5 v_rowThen ∧ 0 ≤ l1 → (v_houses - l1) ≤ 49999 → Ok (fun r => RB 0 11 r.2.1 ∧ RA (-1) 11 r.2.2.2.1 ∧ RA 0 5 r.2.2.2.2) (lfix (fun (K : Int32 × Int32 × Int32 × (Nat → Int32) × (Nat → Int32) → Option (Int32 × Int32 × Int32 × (Nat → Int32) × (Nat → Int32))) (a : Int32 × Int32 × Int32 × (Nat → Int32) × (Nat → Int32)) => fX9_comeTrue_2 N v_houses v_wishesMany v_order v_kinds v_wishes (fun (l1 : Int32) (v_frontThen : Int32) (v_downThen : Int32) (v_plotsThen : (Nat → Int32)) (v_rowThen : (Nat → Int32)) => K (l1, v_frontThen, v_downThen, v_plotsThen, v_rowThen)) a.1 a.2.1 a.2.2.1 a.2.2.2.1 a.2.2.2.2) N (l1, v_frontThen, v_downThen, v_plotsThen, v_rowThen)) := by
  intro l1 v_frontThen v_downThen v_plotsThen v_rowThen hI hM
  exact ok_l (I := fun (a : Int32 × Int32 × Int32 × (Nat → Int32) × (Nat → Int32)) => (RB 0 11 a.2.1 ∧ RA (-1) 11 a.2.2.2.1 ∧ RA 0 5 a.2.2.2.2 ∧ 0 ≤ a.1)) (M := fun (a : Int32 × Int32 × Int32 × (Nat → Int32) × (Nat → Int32)) => (v_houses - a.1)) (fun K a hI hK => sX9_comeTrue_2  hN h_v_houses h_v_wishesMany h_v_order h_v_wishes  (fun l1 v_frontThen v_downThen v_plotsThen v_rowThen hI2  hlt hp => hK (l1, v_frontThen, v_downThen, v_plotsThen, v_rowThen) hI2 hlt hp) hI  rfl) N _ hI hN hM
theorem tX9_comeTrue {N : Nat} {v_houses : Int32} {v_wishesMany : Int32} {v_order : (Nat → Int32)} {v_kinds : (Nat → Int32)} {v_wishes : (Nat → Int32)} {v_frontThen : Int32} {v_downThen : Int32} {v_plotsThen : (Nat → Int32)} {v_rowThen : (Nat → Int32)}  (hN : 49999 < N) (h_v_houses : RB 1 6 v_houses) (h_v_wishesMany : RB 0 5 v_wishesMany) (h_v_order : RA 0 5 v_order) (h_v_wishes : W0 v_wishes) (h_v_frontThen : RB 0 11 v_frontThen) (h_v_plotsThen : RA (-1) 11 v_plotsThen) (h_v_rowThen : RA 0 5 v_rowThen)  : Ok (fun r => RB 0 11 r.2.1 ∧ RA (-1) 11 r.2.2.2.1 ∧ RA 0 5 r.2.2.2.2) (fX9_comeTrue N v_houses v_wishesMany v_order v_kinds v_wishes v_frontThen v_downThen v_plotsThen v_rowThen) := by
  unfold fX9_comeTrue
  exact lX9_comeTrue_2  hN h_v_houses h_v_wishesMany h_v_order h_v_wishes  _ _ _ _ _ ⟨h_v_frontThen, h_v_plotsThen, h_v_rowThen, (by grind)⟩  (by grind)
theorem sX9_nextOrder_107 {N : Nat} {v_houses : Int32} {K_107 : Int32 → Int32 → (Nat → Int32) → Option (Int32 × (Nat → Int32))} {l4 : Int32} {l5 : Int32} {v_order : (Nat → Int32)} {g_v_order : (Nat → Int32)} {m_107 : Int32} (hN : 49999 < N) (h_v_houses : RB 1 6 v_houses) (hK_107 : ∀ (l4 : Int32) (l5 : Int32) (v_order : (Nat → Int32)), RB 0 6 l4 ∧ RB (-1) 5 l5 ∧ RA 0 5 v_order ∧ (IJ v_order) ∧ (∃ k : Int32, (0 ≤ k ∧ k ≤ 4 ∧ k < l4) ∧ LXR g_v_order k v_order) ∧ (RA 0 5 g_v_order) → (l5 - l4) < m_107 → 0 < m_107 → Ok (fun r => RA 0 5 r.2 ∧ (IJ r.2) ∧ (r.1 = 0 ∨ r.1 = 1 ∧ lx g_v_order < lx r.2)) (K_107 l4 l5 v_order)) (hI : RB 0 6 l4 ∧ RB (-1) 5 l5 ∧ RA 0 5 v_order ∧ (IJ v_order) ∧ (∃ k : Int32, (0 ≤ k ∧ k ≤ 4 ∧ k < l4) ∧ LXR g_v_order k v_order) ∧ (RA 0 5 g_v_order)) (hm_107 : (l5 - l4) = m_107) : Ok (fun r => RA 0 5 r.2 ∧ (IJ r.2) ∧ (r.1 = 0 ∨ r.1 = 1 ∧ lx g_v_order < lx r.2)) (fX9_nextOrder_107 N v_houses K_107 l4 l5 v_order) := by
  obtain ⟨h_l4, h_l5, h_v_order, e_0, e_1, e_2⟩ := hI
  unfold fX9_nextOrder_107
  refine ok_if (fun c_1 => ?_) (fun c_1 => ?_)
  · exact ok_s ⟨h_v_order, (by clear hm_107 hK_107; grind), (by clear hK_107; obtain ⟨k, hk, hx⟩ := e_1; exact Or.inr ⟨rfl, lx_lt e_2 h_v_order (by grind) hx⟩)⟩
  · refine ok_g (ng6 (by clear hm_107 hK_107; grind)) ?_
    refine ok_g (ng6 (by clear hm_107 hK_107; grind)) ?_
    refine ok_g (ng6 (by clear hm_107 hK_107; grind)) ?_
    refine ok_g (ng6 (by clear hm_107 hK_107; grind)) ?_
    exact hK_107 _ _ _ ⟨(by clear hm_107 hK_107; grind), (by clear hm_107 hK_107; grind), (RA.upd (RA.upd h_v_order (by clear hm_107 hK_107; have := h_v_order ((l5).toNatClampNeg); grind)) (by clear hm_107 hK_107; have := h_v_order ((l4).toNatClampNeg); grind)), (IJ.swap e_0 (tn_lt6 (n := 6) (by clear hK_107; grind) (by decide)) (tn_lt6 (n := 6) (by clear hK_107; grind) (by decide))), (by clear hK_107; obtain ⟨k, hk, hx⟩ := e_1; exact ⟨k, by grind, LXR.put (LXR.put hx (by grind)) (by grind)⟩), (by clear hm_107 hK_107; grind)⟩ (by clear hK_107; grind) (by clear hK_107; grind)
theorem lX9_nextOrder_107 {N : Nat} {v_houses : Int32} {g_v_order : (Nat → Int32)} (hN : 49999 < N) (h_v_houses : RB 1 6 v_houses)  : ∀ (l4 : Int32) (l5 : Int32) (v_order : (Nat → Int32)), RB 0 6 l4 ∧ RB (-1) 5 l5 ∧ RA 0 5 v_order ∧ (IJ v_order) ∧ (∃ k : Int32, (0 ≤ k ∧ k ≤ 4 ∧ k < l4) ∧ LXR g_v_order k v_order) ∧ (RA 0 5 g_v_order) → (l5 - l4) ≤ 49999 → Ok (fun r => RA 0 5 r.2 ∧ (IJ r.2) ∧ (r.1 = 0 ∨ r.1 = 1 ∧ lx g_v_order < lx r.2)) (lfix (fun (K : Int32 × Int32 × (Nat → Int32) → Option (Int32 × (Nat → Int32))) (a : Int32 × Int32 × (Nat → Int32)) => fX9_nextOrder_107 N v_houses (fun (l4 : Int32) (l5 : Int32) (v_order : (Nat → Int32)) => K (l4, l5, v_order)) a.1 a.2.1 a.2.2) N (l4, l5, v_order)) := by
  intro l4 l5 v_order hI hM
  exact ok_l (I := fun (a : Int32 × Int32 × (Nat → Int32)) => (RB 0 6 a.1 ∧ RB (-1) 5 a.2.1 ∧ RA 0 5 a.2.2 ∧ (IJ a.2.2) ∧ (∃ k : Int32, (0 ≤ k ∧ k ≤ 4 ∧ k < a.1) ∧ LXR g_v_order k a.2.2) ∧ (RA 0 5 g_v_order))) (M := fun (a : Int32 × Int32 × (Nat → Int32)) => (a.2.1 - a.1)) (fun K a hI hK => sX9_nextOrder_107 (g_v_order := g_v_order) hN h_v_houses  (fun l4 l5 v_order hI2  hlt hp => hK (l4, l5, v_order) hI2 hlt hp) hI  rfl) N _ hI hN hM
