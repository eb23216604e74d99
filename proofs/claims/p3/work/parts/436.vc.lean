theorem sX9_orderOf_2 {N : Nat} {v_houses : Int32} {v_wishesMany : Int32} {v_kinds : (Nat → Int32)} {v_wishes : (Nat → Int32)} {a1 : Int32} {K_2 : Int32 → Int32 → Int32 → (Nat → Int32) → (Nat → Int32) → (Nat → Int32) → (Nat → Int32) → Option (Int32 × Int32 × Int32 × (Nat → Int32) × (Nat → Int32) × (Nat → Int32) × (Nat → Int32))} {l2 : Int32} {v_frontThen : Int32} {v_downThen : Int32} {v_order : (Nat → Int32)} {v_plotsThen : (Nat → Int32)} {v_rowThen : (Nat → Int32)} {v_bestOrder : (Nat → Int32)}  {m_2 : Int32} (hN : 49999 < N) (h_v_houses : RB 1 6 v_houses) (h_v_wishesMany : RB 0 5 v_wishesMany) (h_v_wishes : W0 v_wishes) (hK_2 : ∀ (l2 : Int32) (v_frontThen : Int32) (v_downThen : Int32) (v_order : (Nat → Int32)) (v_plotsThen : (Nat → Int32)) (v_rowThen : (Nat → Int32)) (v_bestOrder : (Nat → Int32)), RB 0 11 v_frontThen ∧ RA 0 5 v_order ∧ RA (-1) 11 v_plotsThen ∧ RA 0 5 v_rowThen ∧ RA 0 5 v_bestOrder ∧ 0 ≤ l2 ∧ (a1 = 0 ∨ 10 ≤ a1 ∧ a1 ≤ 15) ∧ (∀ i : Nat, (i : Int) < l2.toInt → v_order i = nI i) → ((6 : Int32) - l2) < m_2 → 0 < m_2 → Ok (fun r => RB 0 11 r.2.1 ∧ RA 0 5 r.2.2.2.1 ∧ RA (-1) 11 r.2.2.2.2.1 ∧ RA 0 5 r.2.2.2.2.2.1 ∧ RA 0 5 r.2.2.2.2.2.2) (K_2 l2 v_frontThen v_downThen v_order v_plotsThen v_rowThen v_bestOrder)) (hI : RB 0 11 v_frontThen ∧ RA 0 5 v_order ∧ RA (-1) 11 v_plotsThen ∧ RA 0 5 v_rowThen ∧ RA 0 5 v_bestOrder ∧ 0 ≤ l2 ∧ (a1 = 0 ∨ 10 ≤ a1 ∧ a1 ≤ 15) ∧ (∀ i : Nat, (i : Int) < l2.toInt → v_order i = nI i)) (hm_2 : ((6 : Int32) - l2) = m_2) : Ok (fun r => RB 0 11 r.2.1 ∧ RA 0 5 r.2.2.2.1 ∧ RA (-1) 11 r.2.2.2.2.1 ∧ RA 0 5 r.2.2.2.2.2.1 ∧ RA 0 5 r.2.2.2.2.2.2) (fX9_orderOf_2 N v_houses v_wishesMany v_kinds v_wishes a1 K_2 l2 v_frontThen v_downThen v_order v_plotsThen v_rowThen v_bestOrder) := by
  obtain ⟨h_v_frontThen, h_v_order, h_v_plotsThen, h_v_rowThen, h_v_bestOrder, h_l2, e_0, e_1⟩ := hI
  unfold fX9_orderOf_2
  refine ok_if (fun c_1 => ?_) (fun c_1 => ?_)
  · exact lX9_orderOf_25  hN h_v_houses h_v_wishesMany h_v_wishes  _ _ _ _ _ _ _ _ ⟨h_v_frontThen, h_v_order, h_v_plotsThen, h_v_rowThen, h_v_bestOrder, (by clear hm_2 hK_2; grind), (ij_id e_1 (by clear hK_2 e_1; grind))⟩  (od_init (lx_r h_v_order))
  · refine ok_g (ng6 (by clear hm_2 hK_2; grind)) ?_
    exact hK_2 _ _ _ _ _ _ _ ⟨h_v_frontThen, (RA.upd h_v_order (by clear hm_2 hK_2; grind)), h_v_plotsThen, h_v_rowThen, h_v_bestOrder, (by clear hm_2 hK_2; grind), (by clear hm_2 hK_2; grind), (id_step e_1 (by clear hK_2 e_1; grind))⟩ (by clear hK_2; grind) (by clear hK_2; grind)
theorem lX9_orderOf_2 {N : Nat} {v_houses : Int32} {v_wishesMany : Int32} {v_kinds : (Nat → Int32)} {v_wishes : (Nat → Int32)} {a1 : Int32}  (hN : 49999 < N) (h_v_houses : RB 1 6 v_houses) (h_v_wishesMany : RB 0 5 v_wishesMany) (h_v_wishes : W0 v_wishes)  : ∀ (l2 : Int32) (v_frontThen : Int32) (v_downThen : Int32) (v_order : (Nat → Int32)) (v_plotsThen : (Nat → Int32)) (v_rowThen : (Nat → Int32)) (v_bestOrder : (Nat → Int32)), RB 0 11 v_frontThen ∧ RA 0 5 v_order ∧ RA (-1) 11 v_plotsThen ∧ RA 0 5 v_rowThen ∧ RA 0 5 v_bestOrder ∧ 0 ≤ l2 ∧ (a1 = 0 ∨ 10 ≤ a1 ∧ a1 ≤ 15) ∧ (∀ i : Nat, (i : Int) < l2.toInt → v_order i = nI i) → ((6 : Int32) - l2) ≤ 49999 → Ok (fun r => RB 0 11 r.2.1 ∧ RA 0 5 r.2.2.2.1 ∧ RA (-1) 11 r.2.2.2.2.1 ∧ RA 0 5 r.2.2.2.2.2.1 ∧ RA 0 5 r.2.2.2.2.2.2) (lfix (fun (K : Int32 × Int32 × Int32 × (Nat → Int32) × (Nat → Int32) × (Nat → Int32) × (Nat → Int32) → Option (Int32 × Int32 × Int32 × (Nat → Int32) × (Nat → Int32) × (Nat → Int32) × (Nat → Int32))) (a : Int32 × Int32 × Int32 × (Nat → Int32) × (Nat → Int32) × (Nat → Int32) × (Nat → Int32)) => fX9_orderOf_2 N v_houses v_wishesMany v_kinds v_wishes a1 (fun (l2 : Int32) (v_frontThen : Int32) (v_downThen : Int32) (v_order : (Nat → Int32)) (v_plotsThen : (Nat → Int32)) (v_rowThen : (Nat → Int32)) (v_bestOrder : (Nat → Int32)) => K (l2, v_frontThen, v_downThen, v_order, v_plotsThen, v_rowThen, v_bestOrder)) a.1 a.2.1 a.2.2.1 a.2.2.2.1 a.2.2.2.2.1 a.2.2.2.2.2.1 a.2.2.2.2.2.2) N (l2, v_frontThen, v_downThen, v_order, v_plotsThen, v_rowThen, v_bestOrder)) := by
  intro l2 v_frontThen v_downThen v_order v_plotsThen v_rowThen v_bestOrder hI hM
  exact ok_l (I := fun (a : Int32 × Int32 × Int32 × (Nat → Int32) × (Nat → Int32) × (Nat → Int32) × (Nat → Int32)) => (RB 0 11 a.2.1 ∧ RA 0 5 a.2.2.2.1 ∧ RA (-1) 11 a.2.2.2.2.1 ∧ RA 0 5 a.2.2.2.2.2.1 ∧ RA 0 5 a.2.2.2.2.2.2 ∧ 0 ≤ a.1 ∧ (a1 = 0 ∨ 10 ≤ a1 ∧ a1 ≤ 15) ∧ (∀ i : Nat, (i : Int) < a.1.toInt → a.2.2.2.1 i = nI i))) (M := fun (a : Int32 × Int32 × Int32 × (Nat → Int32) × (Nat → Int32) × (Nat → Int32) × (Nat → Int32)) => ((6 : Int32) - a.1)) (fun K a hI hK => sX9_orderOf_2  hN h_v_houses h_v_wishesMany h_v_wishes  (fun l2 v_frontThen v_downThen v_order v_plotsThen v_rowThen v_bestOrder hI2  hlt hp => hK (l2, v_frontThen, v_downThen, v_order, v_plotsThen, v_rowThen, v_bestOrder) hI2 hlt hp) hI  rfl) N _ hI hN hM
theorem tX9_orderOf {N : Nat} {v_houses : Int32} {v_wishesMany : Int32} {v_kinds : (Nat → Int32)} {v_wishes : (Nat → Int32)} {a1 : Int32} {v_frontThen : Int32} {v_downThen : Int32} {v_order : (Nat → Int32)} {v_plotsThen : (Nat → Int32)} {v_rowThen : (Nat → Int32)} {v_bestOrder : (Nat → Int32)}  (hN : 49999 < N) (h_v_houses : RB 1 6 v_houses) (h_v_wishesMany : RB 0 5 v_wishesMany) (h_v_wishes : W0 v_wishes) (h_v_frontThen : RB 0 11 v_frontThen) (h_v_order : RA 0 5 v_order) (h_v_plotsThen : RA (-1) 11 v_plotsThen) (h_v_rowThen : RA 0 5 v_rowThen) (h_v_bestOrder : RA 0 5 v_bestOrder) (e_0 : a1 = 0 ∨ 10 ≤ a1 ∧ a1 ≤ 15)  : Ok (fun r => RB 0 11 r.2.1 ∧ RA 0 5 r.2.2.2.1 ∧ RA (-1) 11 r.2.2.2.2.1 ∧ RA 0 5 r.2.2.2.2.2.1 ∧ RA 0 5 r.2.2.2.2.2.2) (fX9_orderOf N v_houses v_wishesMany v_kinds v_wishes a1 v_frontThen v_downThen v_order v_plotsThen v_rowThen v_bestOrder) := by
  unfold fX9_orderOf
  exact lX9_orderOf_2  hN h_v_houses h_v_wishesMany h_v_wishes  _ _ _ _ _ _ _ ⟨h_v_frontThen, h_v_order, h_v_plotsThen, h_v_rowThen, h_v_bestOrder, (by grind), (by grind), (fun i hi => absurd hi (by have : (0 : Int32).toInt = 0 := rfl; omega))⟩  (by grind)
theorem tX9_order_21 {N : Nat} {v_houses : Int32} {v_wishesMany : Int32} {v_kinds : (Nat → Int32)} {v_wishes : (Nat → Int32)} {a1 : Int32} {v_frontThen : Int32} {v_downThen : Int32} {v_ordersDone : Int32} {v_order : (Nat → Int32)} {v_plotsThen : (Nat → Int32)} {v_rowThen : (Nat → Int32)} {v_bestOrder : (Nat → Int32)}  (hN : 49999 < N) (h_v_houses : RB 0 6 v_houses) (h_v_wishesMany : RB 0 5 v_wishesMany) (h_v_wishes : W0 v_wishes) (h_v_frontThen : RB 0 11 v_frontThen) (h_v_order : RA 0 5 v_order) (h_v_plotsThen : RA (-1) 11 v_plotsThen) (h_v_rowThen : RA 0 5 v_rowThen) (h_v_bestOrder : RA 0 5 v_bestOrder) (e_0 : a1 = 0 ∨ 10 ≤ a1 ∧ a1 ≤ 15)  : Ok (fun r => RB 0 11 r.2.1 ∧ RA 0 5 r.2.2.2.2.1 ∧ RA (-1) 11 r.2.2.2.2.2.1 ∧ RA 0 5 r.2.2.2.2.2.2.1 ∧ RA 0 5 r.2.2.2.2.2.2.2) (fX9_order_21 N v_houses v_wishesMany v_kinds v_wishes a1 v_frontThen v_downThen v_ordersDone v_order v_plotsThen v_rowThen v_bestOrder) := by
  unfold fX9_order_21
  refine ok_b (tX9_lacks hN h_v_houses) (fun x_22 hx => ?_)
  have h_x_22_0 := hx
  refine ok_if (fun c_1 => ?_) (fun c_1 => ?_)
  · refine ok_if (fun c_2 => ?_) (fun c_2 => ?_)
    · exact ok_s ⟨h_v_frontThen, h_v_order, h_v_plotsThen, h_v_rowThen, h_v_bestOrder⟩
    · refine ok_b (tX9_orderOf hN (by grind) h_v_wishesMany h_v_wishes h_v_frontThen h_v_order h_v_plotsThen h_v_rowThen h_v_bestOrder (by grind)) (fun x_52 hx => ?_)
      obtain ⟨h_x_52_0, h_x_52_1, h_x_52_2, h_x_52_3, h_x_52_4⟩ := hx
      exact ok_s ⟨h_x_52_0, h_x_52_1, h_x_52_2, h_x_52_3, h_x_52_4⟩
  · exact ok_s ⟨h_v_frontThen, h_v_order, h_v_plotsThen, h_v_rowThen, h_v_bestOrder⟩
theorem tX9_order {N : Nat} {v_houses : Int32} {v_wishesMany : Int32} {v_kinds : (Nat → Int32)} {v_wishes : (Nat → Int32)} {a1 : Int32} {v_frontThen : Int32} {v_downThen : Int32} {v_ordersDone : Int32} {v_order : (Nat → Int32)} {v_plotsThen : (Nat → Int32)} {v_rowThen : (Nat → Int32)} {v_bestOrder : (Nat → Int32)}  (hN : 49999 < N) (h_v_houses : RB 0 6 v_houses) (h_v_wishesMany : RB 0 5 v_wishesMany) (h_v_wishes : W0 v_wishes) (h_v_frontThen : RB 0 11 v_frontThen) (h_v_order : RA 0 5 v_order) (h_v_plotsThen : RA (-1) 11 v_plotsThen) (h_v_rowThen : RA 0 5 v_rowThen) (h_v_bestOrder : RA 0 5 v_bestOrder)  : Ok (fun r => RB 0 11 r.2.1 ∧ RA 0 5 r.2.2.2.2.1 ∧ RA (-1) 11 r.2.2.2.2.2.1 ∧ RA 0 5 r.2.2.2.2.2.2.1 ∧ RA 0 5 r.2.2.2.2.2.2.2) (fX9_order N v_houses v_wishesMany v_kinds v_wishes a1 v_frontThen v_downThen v_ordersDone v_order v_plotsThen v_rowThen v_bestOrder) := by
  unfold fX9_order
  refine ok_if (fun c_1 => ?_) (fun c_1 => ?_)
  · exact tX9_order_21  hN h_v_houses h_v_wishesMany h_v_wishes h_v_frontThen h_v_order h_v_plotsThen h_v_rowThen h_v_bestOrder (by grind)
  · refine ok_b (in_ok (a := (a1)) (lo := (10 : Int32)) (hi := (15 : Int32)) rfl rfl) (fun x_12 hx => ?_)
    have h_x_12 := hx
    refine ok_if (fun c_2 => ?_) (fun c_2 => ?_)
    · exact ok_s ⟨h_v_frontThen, h_v_order, h_v_plotsThen, h_v_rowThen, h_v_bestOrder⟩
    · exact tX9_order_21  hN h_v_houses h_v_wishesMany h_v_wishes h_v_frontThen h_v_order h_v_plotsThen h_v_rowThen h_v_bestOrder (by grind)
theorem tX9_see_23 {N : Nat} {v_houses : Int32} {a1 : Int32} {a2 : Int32} {a3 : Int32} {v_seenMany : Int32} {v_sights : (Nat → Int32)} {g_v_seenMany : Int32} {g_v_sights : (Nat → Int32)} (hN : 49999 < N) (h_v_houses : RB 0 6 v_houses) (h_v_seenMany : RB 0 6 v_seenMany) (e_0 : 0 ≤ a1 ∧ a1 < v_houses) (e_1 : a2 = -1 ∨ 0 ≤ a2 ∧ a2 < 12) (e_2 : v_seenMany = g_v_seenMany) (e_3 : v_sights = g_v_sights)  : Ok (fun r => RB 0 6 r.2.1 ∧ (¬(0 ≤ a1 ∧ a1 < v_houses ∧ (a2 = -1 ∨ 0 ≤ a2 ∧ a2 < 12)) ∧ r.1 = -101 ∧ r.2.1 = g_v_seenMany ∨ (0 ≤ a1 ∧ a1 < v_houses ∧ (a2 = -1 ∨ 0 ≤ a2 ∧ a2 < 12)) ∧ ¬(1 ≤ a3 ∧ a3 ≤ 40) ∧ r.1 = -102 ∧ r.2.1 = g_v_seenMany ∨ (0 ≤ a1 ∧ a1 < v_houses ∧ (a2 = -1 ∨ 0 ≤ a2 ∧ a2 < 12)) ∧ (1 ≤ a3 ∧ a3 ≤ 40) ∧ g_v_seenMany < 6 ∧ r.1 = g_v_seenMany + 1 ∧ r.2.1 = g_v_seenMany + 1 ∨ (0 ≤ a1 ∧ a1 < v_houses ∧ (a2 = -1 ∨ 0 ≤ a2 ∧ a2 < 12)) ∧ (1 ≤ a3 ∧ a3 ≤ 40) ∧ ¬ g_v_seenMany < 6 ∧ r.1 = -104 ∧ r.2.1 = g_v_seenMany) ∧ (SG g_v_seenMany g_v_sights → SG r.2.1 r.2.2)) (fX9_see_23 N v_houses a1 a2 a3 v_seenMany v_sights) := by
  unfold fX9_see_23
  refine ok_b (in_ok (a := (a3)) (lo := (1 : Int32)) (hi := (40 : Int32)) rfl rfl) (fun x_29 hx => ?_)
  have h_x_29 := hx
  refine ok_if (fun c_1 => ?_) (fun c_1 => ?_)
  · exact ok_s ⟨h_v_seenMany, (by grind), (by rw [← e_2, ← e_3]; first | exact fun q => q | exact fun q => SG.put q (by grind) (by grind))⟩
  · refine ok_if (fun c_2 => ?_) (fun c_2 => ?_)
    · exact ok_s ⟨h_v_seenMany, (by grind), (by rw [← e_2, ← e_3]; first | exact fun q => q | exact fun q => SG.put q (by grind) (by grind))⟩
    · refine ok_g (ng18 (by grind)) ?_
      refine ok_g (ng18 (by grind)) ?_
      refine ok_g (ng18 (by grind)) ?_
      exact ok_s ⟨(by grind), (by grind), (by rw [← e_2, ← e_3]; first | exact fun q => q | exact fun q => SG.put q (by grind) (by grind))⟩
theorem tX9_see {N : Nat} {v_houses : Int32} {a1 : Int32} {a2 : Int32} {a3 : Int32} {v_seenMany : Int32} {v_sights : (Nat → Int32)}  (hN : 49999 < N) (h_v_houses : RB 0 6 v_houses) (h_v_seenMany : RB 0 6 v_seenMany)  : Ok (fun r => RB 0 6 r.2.1 ∧ (¬(0 ≤ a1 ∧ a1 < v_houses ∧ (a2 = -1 ∨ 0 ≤ a2 ∧ a2 < 12)) ∧ r.1 = -101 ∧ r.2.1 = v_seenMany ∨ (0 ≤ a1 ∧ a1 < v_houses ∧ (a2 = -1 ∨ 0 ≤ a2 ∧ a2 < 12)) ∧ ¬(1 ≤ a3 ∧ a3 ≤ 40) ∧ r.1 = -102 ∧ r.2.1 = v_seenMany ∨ (0 ≤ a1 ∧ a1 < v_houses ∧ (a2 = -1 ∨ 0 ≤ a2 ∧ a2 < 12)) ∧ (1 ≤ a3 ∧ a3 ≤ 40) ∧ v_seenMany < 6 ∧ r.1 = v_seenMany + 1 ∧ r.2.1 = v_seenMany + 1 ∨ (0 ≤ a1 ∧ a1 < v_houses ∧ (a2 = -1 ∨ 0 ≤ a2 ∧ a2 < 12)) ∧ (1 ≤ a3 ∧ a3 ≤ 40) ∧ ¬ v_seenMany < 6 ∧ r.1 = -104 ∧ r.2.1 = v_seenMany) ∧ (SG v_seenMany v_sights → SG r.2.1 r.2.2)) (fX9_see N v_houses a1 a2 a3 v_seenMany v_sights) := by
  unfold fX9_see
  refine ok_b (tX9_isHouse hN h_v_houses) (fun x_2 hx => ?_)
  have h_x_2_0 := hx
  refine ok_if (fun c_1 => ?_) (fun c_1 => ?_)
  · exact ok_s ⟨h_v_seenMany, (by grind), (fun q => q)⟩
  · refine ok_if (fun c_2 => ?_) (fun c_2 => ?_)
    · exact tX9_see_23 (g_v_seenMany := v_seenMany) (g_v_sights := v_sights) hN h_v_houses h_v_seenMany (by grind) (by grind) (by grind) (by grind)
    · refine ok_b (tX9_isPlot hN ) (fun x_14 hx => ?_)
      have h_x_14_0 := hx
      refine ok_if (fun c_3 => ?_) (fun c_3 => ?_)
      · exact ok_s ⟨h_v_seenMany, (by grind), (fun q => q)⟩
      · exact tX9_see_23 (g_v_seenMany := v_seenMany) (g_v_sights := v_sights) hN h_v_houses h_v_seenMany (by grind) (by grind) (by grind) (by grind)
theorem tX9_forget {N : Nat} {v_seenMany : Int32}  (hN : 49999 < N) (h_v_seenMany : RB 0 6 v_seenMany)  : Ok (fun r => RB 0 6 r.2 ∧ (r.1 = v_seenMany ∧ r.2 = 0)) (fX9_forget N v_seenMany) := by
  unfold fX9_forget
  exact ok_s ⟨(by grind), (by grind)⟩
theorem tX9_draw {N : Nat} {a1 : Int32} {v_seedNow : Int32}  (hN : 49999 < N) (e_0 : a1 ≠ 0)  : Ok (fun r => True) (fX9_draw N a1 v_seedNow) := by
  unfold fX9_draw
  refine ok_g (by grind) ?_
  exact ok_s trivial
theorem sX9_worthThen_4 {N : Nat} {v_houses : Int32} {v_plotsThen : (Nat → Int32)} {v_worths : (Nat → Int32)} {K_4 : Int32 → Int32 → Option (Int32)} {l1 : Int32} {l2 : Int32}  {m_4 : Int32} (hN : 49999 < N) (h_v_houses : RB 0 6 v_houses) (h_v_plotsThen : RA (-1) 11 v_plotsThen) (hK_4 : ∀ (l1 : Int32) (l2 : Int32), 0 ≤ l2 ∧ (l1 = sm (fun k => wu v_worths (v_plotsThen k)) l2.toNatClampNeg) ∧ (l2 ≤ v_houses) → (v_houses - l2) < m_4 → 0 < m_4 → Ok (fun r => (r = sm (fun k => wu v_worths (v_plotsThen k)) v_houses.toNatClampNeg)) (K_4 l1 l2)) (hI : 0 ≤ l2 ∧ (l1 = sm (fun k => wu v_worths (v_plotsThen k)) l2.toNatClampNeg) ∧ (l2 ≤ v_houses)) (hm_4 : (v_houses - l2) = m_4) : Ok (fun r => (r = sm (fun k => wu v_worths (v_plotsThen k)) v_houses.toNatClampNeg)) (fX9_worthThen_4 N v_houses v_plotsThen v_worths K_4 l1 l2) := by
  obtain ⟨h_l2, e_0, e_1⟩ := hI
  unfold fX9_worthThen_4
  refine ok_if (fun c_1 => ?_) (fun c_1 => ?_)
  · exact ok_s (sm_end e_0 (by clear hm_4 hK_4 e_0; grind))
  · refine ok_g (ng6 (by clear hm_4 hK_4; grind)) ?_
    refine ok_b (tX9_worthOf hN (by clear hm_4 hK_4; have := h_v_plotsThen ((l2).toNatClampNeg); grind)) (fun x_20 hx => ?_)
    have h_x_20_0 := hx
    exact hK_4 _ _ ⟨(by clear hm_4 hK_4; grind), (by clear hm_4 hK_4; first | exact sm_step e_0 h_x_20_0 (by clear e_0; grind)), (by clear hm_4 hK_4; grind)⟩ (by clear hK_4; grind) (by clear hK_4; grind)
theorem lX9_worthThen_4 {N : Nat} {v_houses : Int32} {v_plotsThen : (Nat → Int32)} {v_worths : (Nat → Int32)}  (hN : 49999 < N) (h_v_houses : RB 0 6 v_houses) (h_v_plotsThen : RA (-1) 11 v_plotsThen)  : ∀ (l1 : Int32) (l2 : Int32), 0 ≤ l2 ∧ (l1 = sm (fun k => wu v_worths (v_plotsThen k)) l2.toNatClampNeg) ∧ (l2 ≤ v_houses) → (v_houses - l2) ≤ 49999 → Ok (fun r => (r = sm (fun k => wu v_worths (v_plotsThen k)) v_houses.toNatClampNeg)) (lfix (fun (K : Int32 × Int32 → Option (Int32)) (a : Int32 × Int32) => fX9_worthThen_4 N v_houses v_plotsThen v_worths (fun (l1 : Int32) (l2 : Int32) => K (l1, l2)) a.1 a.2) N (l1, l2)) := by
  intro l1 l2 hI hM
  exact ok_l (I := fun (a : Int32 × Int32) => (0 ≤ a.2 ∧ (a.1 = sm (fun k => wu v_worths (v_plotsThen k)) a.2.toNatClampNeg) ∧ (a.2 ≤ v_houses))) (M := fun (a : Int32 × Int32) => (v_houses - a.2)) (fun K a hI hK => sX9_worthThen_4  hN h_v_houses h_v_plotsThen  (fun l1 l2 hI2  hlt hp => hK (l1, l2) hI2 hlt hp) hI  rfl) N _ hI hN hM
theorem tX9_worthThen {N : Nat} {v_houses : Int32} {v_plotsThen : (Nat → Int32)} {v_worths : (Nat → Int32)}  (hN : 49999 < N) (h_v_houses : RB 0 6 v_houses) (h_v_plotsThen : RA (-1) 11 v_plotsThen)  : Ok (fun r => (r = sm (fun k => wu v_worths (v_plotsThen k)) v_houses.toNatClampNeg)) (fX9_worthThen N v_houses v_plotsThen v_worths) := by
  unfold fX9_worthThen
  exact lX9_worthThen_4  hN h_v_houses h_v_plotsThen  _ _ ⟨(by grind), rfl, (by grind)⟩  (by grind)
theorem sX9_years_59 {N : Nat} {v_houses : Int32} {v_front : Int32} {v_down : Int32} {v_plots : (Nat → Int32)} {v_row : (Nat → Int32)} {v_kinds : (Nat → Int32)} {v_worths : (Nat → Int32)} {a1 : Int32} {a2 : Int32} {a3 : Int32} {K_59 : Int32 → Int32 → Int32 → Int32 → Int32 → Int32 → (Nat → Int32) → (Nat → Int32) → Option (Int32 × Int32 × Int32 × Int32 × (Nat → Int32) × (Nat → Int32))} {l4 : Int32} {l5 : Int32} {l6 : Int32} {v_frontThen : Int32} {v_downThen : Int32} {v_seedNow : Int32} {v_plotsThen : (Nat → Int32)} {v_rowThen : (Nat → Int32)}  {m_59 : Int32} (hN : 49999 < N) (h_v_houses : RB 1 6 v_houses) (h_v_front : RB 0 11 v_front) (h_v_plots : RA (-1) 11 v_plots) (h_v_row : RA 0 5 v_row) (h_a1 : RB 0 60 a1) (hK_59 : ∀ (l4 : Int32) (l5 : Int32) (l6 : Int32) (v_frontThen : Int32) (v_downThen : Int32) (v_seedNow : Int32) (v_plotsThen : (Nat → Int32)) (v_rowThen : (Nat → Int32)), RB 0 11 v_frontThen ∧ RA (-1) 11 v_plotsThen ∧ RA 0 5 v_rowThen ∧ 0 ≤ l6 → (a1 - l6) < m_59 → 0 < m_59 → Ok (fun r => RB 0 11 r.2.1 ∧ RA (-1) 11 r.2.2.2.2.1 ∧ RA 0 5 r.2.2.2.2.2) (K_59 l4 l5 l6 v_frontThen v_downThen v_seedNow v_plotsThen v_rowThen)) (hI : RB 0 11 v_frontThen ∧ RA (-1) 11 v_plotsThen ∧ RA 0 5 v_rowThen ∧ 0 ≤ l6) (hm_59 : (a1 - l6) = m_59) : Ok (fun r => RB 0 11 r.2.1 ∧ RA (-1) 11 r.2.2.2.2.1 ∧ RA 0 5 r.2.2.2.2.2) (fX9_years_59 N v_houses v_front v_down v_plots v_row v_kinds v_worths a1 a2 a3 K_59 l4 l5 l6 v_frontThen v_downThen v_seedNow v_plotsThen v_rowThen) := by
  obtain ⟨h_v_frontThen, h_v_plotsThen, h_v_rowThen, h_l6⟩ := hI
  unfold fX9_years_59
  refine ok_if (fun c_1 => ?_) (fun c_1 => ?_)
  · refine ok_if (fun c_2 => ?_) (fun c_2 => ?_)
    · exact ok_s ⟨h_v_frontThen, h_v_plotsThen, h_v_rowThen⟩
    · refine ok_if (fun c_3 => ?_) (fun c_3 => ?_)
      · exact ok_s ⟨h_v_frontThen, h_v_plotsThen, h_v_rowThen⟩
      · exact ok_s ⟨h_v_frontThen, h_v_plotsThen, h_v_rowThen⟩
  · refine ok_b (tX9_draw hN (by clear hm_59 hK_59; grind)) (fun x_67 hx => ?_)
    refine ok_if (fun c_4 => ?_) (fun c_4 => ?_)
    · refine ok_b (tX9_worthThen hN (by clear hm_59 hK_59; grind) h_v_plotsThen) (fun x_84 hx => ?_)
      have h_x_84_0 := hx
      exact hK_59 _ _ _ _ _ _ _ _ ⟨h_v_frontThen, h_v_plotsThen, h_v_rowThen, (by clear hm_59 hK_59; grind)⟩ (by clear hK_59; grind) (by clear hK_59; grind)
    · refine ok_b (tX9_goOn hN h_v_houses h_v_frontThen h_v_rowThen h_v_plotsThen) (fun x_77 hx => ?_)
      obtain ⟨h_x_77_0, h_x_77_1, h_x_77_2, h_x_77_3, h_x_77_4⟩ := hx
      refine ok_b (tX9_worthThen hN (by clear hm_59 hK_59; grind) h_x_77_2) (fun x_84 hx => ?_)
      have h_x_84_0 := hx
      exact hK_59 _ _ _ _ _ _ _ _ ⟨h_x_77_0, h_x_77_2, h_x_77_1, (by clear hm_59 hK_59; grind)⟩ (by clear hK_59; grind) (by clear hK_59; grind)
theorem lX9_years_59 {N : Nat} {v_houses : Int32} {v_front : Int32} {v_down : Int32} {v_plots : (Nat → Int32)} {v_row : (Nat → Int32)} {v_kinds : (Nat → Int32)} {v_worths : (Nat → Int32)} {a1 : Int32} {a2 : Int32} {a3 : Int32}  (hN : 49999 < N) (h_v_houses : RB 1 6 v_houses) (h_v_front : RB 0 11 v_front) (h_v_plots : RA (-1) 11 v_plots) (h_v_row : RA 0 5 v_row) (h_a1 : RB 0 60 a1)  : ∀ (l4 : Int32) (l5 : Int32) (l6 : Int32) (v_frontThen : Int32) (v_downThen : Int32) (v_seedNow : Int32) (v_plotsThen : (Nat → Int32)) (v_rowThen : (Nat → Int32)), RB 0 11 v_frontThen ∧ RA (-1) 11 v_plotsThen ∧ RA 0 5 v_rowThen ∧ 0 ≤ l6 → (a1 - l6) ≤ 49999 → Ok (fun r => RB 0 11 r.2.1 ∧ RA (-1) 11 r.2.2.2.2.1 ∧ RA 0 5 r.2.2.2.2.2) (lfix (fun (K : Int32 × Int32 × Int32 × Int32 × Int32 × Int32 × (Nat → Int32) × (Nat → Int32) → Option (Int32 × Int32 × Int32 × Int32 × (Nat → Int32) × (Nat → Int32))) (a : Int32 × Int32 × Int32 × Int32 × Int32 × Int32 × (Nat → Int32) × (Nat → Int32)) => fX9_years_59 N v_houses v_front v_down v_plots v_row v_kinds v_worths a1 a2 a3 (fun (l4 : Int32) (l5 : Int32) (l6 : Int32) (v_frontThen : Int32) (v_downThen : Int32) (v_seedNow : Int32) (v_plotsThen : (Nat → Int32)) (v_rowThen : (Nat → Int32)) => K (l4, l5, l6, v_frontThen, v_downThen, v_seedNow, v_plotsThen, v_rowThen)) a.1 a.2.1 a.2.2.1 a.2.2.2.1 a.2.2.2.2.1 a.2.2.2.2.2.1 a.2.2.2.2.2.2.1 a.2.2.2.2.2.2.2) N (l4, l5, l6, v_frontThen, v_downThen, v_seedNow, v_plotsThen, v_rowThen)) := by
  intro l4 l5 l6 v_frontThen v_downThen v_seedNow v_plotsThen v_rowThen hI hM
  exact ok_l (I := fun (a : Int32 × Int32 × Int32 × Int32 × Int32 × Int32 × (Nat → Int32) × (Nat → Int32)) => (RB 0 11 a.2.2.2.1 ∧ RA (-1) 11 a.2.2.2.2.2.2.1 ∧ RA 0 5 a.2.2.2.2.2.2.2 ∧ 0 ≤ a.2.2.1)) (M := fun (a : Int32 × Int32 × Int32 × Int32 × Int32 × Int32 × (Nat → Int32) × (Nat → Int32)) => (a1 - a.2.2.1)) (fun K a hI hK => sX9_years_59  hN h_v_houses h_v_front h_v_plots h_v_row h_a1  (fun l4 l5 l6 v_frontThen v_downThen v_seedNow v_plotsThen v_rowThen hI2  hlt hp => hK (l4, l5, l6, v_frontThen, v_downThen, v_seedNow, v_plotsThen, v_rowThen) hI2 hlt hp) hI  rfl) N _ hI hN hM
theorem tX9_years {N : Nat} {v_houses : Int32} {v_front : Int32} {v_down : Int32} {v_plots : (Nat → Int32)} {v_row : (Nat → Int32)} {v_kinds : (Nat → Int32)} {v_worths : (Nat → Int32)} {a1 : Int32} {a2 : Int32} {a3 : Int32} {v_frontThen : Int32} {v_downThen : Int32} {v_seedNow : Int32} {v_plotsThen : (Nat → Int32)} {v_rowThen : (Nat → Int32)}  (hN : 49999 < N) (h_v_houses : RB 0 6 v_houses) (h_v_front : RB 0 11 v_front) (h_v_plots : RA (-1) 11 v_plots) (h_v_row : RA 0 5 v_row) (h_v_frontThen : RB 0 11 v_frontThen) (h_v_plotsThen : RA (-1) 11 v_plotsThen) (h_v_rowThen : RA 0 5 v_rowThen)  : Ok (fun r => RB 0 11 r.2.1 ∧ RA (-1) 11 r.2.2.2.2.1 ∧ RA 0 5 r.2.2.2.2.2) (fX9_years N v_houses v_front v_down v_plots v_row v_kinds v_worths a1 a2 a3 v_frontThen v_downThen v_seedNow v_plotsThen v_rowThen) := by
  unfold fX9_years
  refine ok_b (in_ok (a := (a1)) (lo := (1 : Int32)) (hi := (60 : Int32)) rfl rfl) (fun x_6 hx => ?_)
  have h_x_6 := hx
  refine ok_if (fun c_1 => ?_) (fun c_1 => ?_)
  · exact ok_s ⟨h_v_frontThen, h_v_plotsThen, h_v_rowThen⟩
  · refine ok_if (fun c_2 => ?_) (fun c_2 => ?_)
    · exact ok_s ⟨h_v_frontThen, h_v_plotsThen, h_v_rowThen⟩
    · refine ok_b (in_ok (a := (a3)) (lo := (0 : Int32)) (hi := (2 : Int32)) rfl rfl) (fun x_22 hx => ?_)
      have h_x_22 := hx
      refine ok_if (fun c_3 => ?_) (fun c_3 => ?_)
      · exact ok_s ⟨h_v_frontThen, h_v_plotsThen, h_v_rowThen⟩
      · refine ok_b (tX9_lacks hN h_v_houses) (fun x_32 hx => ?_)
        have h_x_32_0 := hx
        refine ok_if (fun c_4 => ?_) (fun c_4 => ?_)
        · refine ok_b (tX9_begin hN h_v_front h_v_plots h_v_row h_v_frontThen h_v_plotsThen h_v_rowThen) (fun x_47 hx => ?_)
          obtain ⟨h_x_47_0, h_x_47_1, h_x_47_2, h_x_47_3, h_x_47_4, h_x_47_5⟩ := hx
          exact lX9_years_59  hN (by grind) h_v_front h_v_plots h_v_row (by grind)  _ _ _ _ _ _ _ _ ⟨h_x_47_0, h_x_47_1, h_x_47_2, (by grind)⟩  (by grind)
        · exact ok_s ⟨h_v_frontThen, h_v_plotsThen, h_v_rowThen⟩
theorem tX9_image {N : Nat} {v_houses : Int32} {v_nights : Int32} {v_squaresRead : Int32} {v_front : Int32} {v_down : Int32} {v_wishesMany : Int32} {v_seenMany : Int32} {v_kinds : (Nat → Int32)} {v_plots : (Nat → Int32)} {v_row : (Nat → Int32)} {v_had : (Nat → Int32)} {v_wishes : (Nat → Int32)} {v_sights : (Nat → Int32)} {v_keptSquare : Int32} {v_keptFront : Int32} {v_keptDown : Int32} {v_keptNights : Int32} {v_keptWishesMany : Int32} {v_keptSeen : Int32} {v_keptKinds : (Nat → Int32)} {v_keptPlots : (Nat → Int32)} {v_keptRow : (Nat → Int32)} {v_keptHad : (Nat → Int32)} {v_keptWishes : (Nat → Int32)} {v_keptSights : (Nat → Int32)}  (hN : 49999 < N) (h_v_houses : RB 0 6 v_houses) (h_v_nights : RB 0 999 v_nights) (h_v_front : RB 0 11 v_front) (h_v_wishesMany : RB 0 5 v_wishesMany) (h_v_seenMany : RB 0 6 v_seenMany) (h_v_plots : RA (-1) 11 v_plots) (h_v_row : RA 0 5 v_row) (h_v_wishes : W0 v_wishes) (h_v_keptFront : RB 0 11 v_keptFront) (h_v_keptNights : RB 0 999 v_keptNights) (h_v_keptWishesMany : RB 0 5 v_keptWishesMany) (h_v_keptSeen : RB 0 6 v_keptSeen) (h_v_keptPlots : RA (-1) 11 v_keptPlots) (h_v_keptRow : RA 0 5 v_keptRow) (h_v_keptWishes : W0 v_keptWishes)  : Ok (fun r => RB 0 11 r.2.2.1 ∧ RB 0 999 r.2.2.2.2.1 ∧ RB 0 5 r.2.2.2.2.2.1 ∧ RB 0 6 r.2.2.2.2.2.2.1 ∧ RA (-1) 11 r.2.2.2.2.2.2.2.2.1 ∧ RA 0 5 r.2.2.2.2.2.2.2.2.2.1 ∧ W0 r.2.2.2.2.2.2.2.2.2.2.2.1 ∧ (v_houses = 0 ∧ r.1 = -103 ∧ r.2.1 = v_keptSquare ∧ r.2.2.2.2.1 = v_keptNights ∧ r.2.2.2.2.2.1 = v_keptWishesMany ∧ r.2.2.2.2.2.2.1 = v_keptSeen ∨ v_houses ≠ 0 ∧ r.1 = v_nights ∧ r.2.1 = v_squaresRead ∧ r.2.2.2.2.1 = v_nights ∧ r.2.2.2.2.2.1 = v_wishesMany ∧ r.2.2.2.2.2.2.1 = v_seenMany) ∧ (SG v_seenMany v_sights → SG v_keptSeen v_keptSights → SG r.2.2.2.2.2.2.1 r.2.2.2.2.2.2.2.2.2.2.2.2) ∧ (v_houses ≠ 0 → SJ v_houses v_row → SJ v_houses r.2.2.2.2.2.2.2.2.2.1) ∧ (v_houses = 0 → r.2.2.2.2.2.2.2.2.2.1 = v_keptRow) ∧ (v_houses ≠ 0 → N6 r.2.2.2.2.2.2.2.1 = N6 v_kinds ∧ N6 r.2.2.2.2.2.2.2.2.1 = N6 v_plots ∧ N6 r.2.2.2.2.2.2.2.2.2.1 = N6 v_row ∧ N6 r.2.2.2.2.2.2.2.2.2.2.1 = N6 v_had ∧ r.2.2.1 = v_front ∧ r.2.2.2.1 = v_down) ∧ (v_houses = 0 → r.2.2.2.2.2.2.2.1 = v_keptKinds ∧ r.2.2.2.2.2.2.2.2.1 = v_keptPlots ∧ r.2.2.2.2.2.2.2.2.2.1 = v_keptRow ∧ r.2.2.2.2.2.2.2.2.2.2.1 = v_keptHad ∧ r.2.2.1 = v_keptFront ∧ r.2.2.2.1 = v_keptDown)) (fX9_image N v_houses v_nights v_squaresRead v_front v_down v_wishesMany v_seenMany v_kinds v_plots v_row v_had v_wishes v_sights v_keptSquare v_keptFront v_keptDown v_keptNights v_keptWishesMany v_keptSeen v_keptKinds v_keptPlots v_keptRow v_keptHad v_keptWishes v_keptSights) := by
  unfold fX9_image
  refine ok_b (tX9_lacks hN h_v_houses) (fun x_1 hx => ?_)
  have h_x_1_0 := hx
  refine ok_if (fun c_1 => ?_) (fun c_1 => ?_)
  · refine ok_b (cp_ok hN (by decide)) (fun x_18 hx => ?_)
    subst hx
    refine ok_b (cp_ok hN (by decide)) (fun x_29 hx => ?_)
    subst hx
    refine ok_b (cp_ok hN (by decide)) (fun x_40 hx => ?_)
    subst hx
    refine ok_b (cp_ok hN (by decide)) (fun x_51 hx => ?_)
    subst hx
    refine ok_b (cp_ok hN (by decide)) (fun x_62 hx => ?_)
    subst hx
    refine ok_b (cp_ok hN (by decide)) (fun x_73 hx => ?_)
    subst hx
    exact ok_s ⟨h_v_front, h_v_nights, h_v_wishesMany, h_v_seenMany, (RA.cpy h_v_plots h_v_keptPlots), (RA.cpy h_v_row h_v_keptRow), (W0.cpy h_v_wishes h_v_keptWishes), (by grind), (by first | exact fun _ q => q | exact fun q _ => SG.cpy q h_v_seenMany), (by first | exact fun _ q => sj_cpy q h_v_houses.2 | exact fun w _ => absurd w (by grind)), (by first | exact fun _ => rfl | exact fun w => absurd w (by grind)), (by first | exact fun _ => ⟨N6_cpy, N6_cpy, N6_cpy, N6_cpy, rfl, rfl⟩ | exact fun w => absurd w (by grind)), (by first | exact fun _ => ⟨rfl, rfl, rfl, rfl, rfl, rfl⟩ | exact fun w => absurd w (by grind))⟩
  · exact ok_s ⟨h_v_keptFront, h_v_keptNights, h_v_keptWishesMany, h_v_keptSeen, h_v_keptPlots, h_v_keptRow, h_v_keptWishes, (by grind), (by first | exact fun _ q => q | exact fun q _ => SG.cpy q h_v_seenMany), (by first | exact fun _ q => sj_cpy q h_v_houses.2 | exact fun w _ => absurd w (by grind)), (by first | exact fun _ => rfl | exact fun w => absurd w (by grind)), (by first | exact fun _ => ⟨N6_cpy, N6_cpy, N6_cpy, N6_cpy, rfl, rfl⟩ | exact fun w => absurd w (by grind)), (by first | exact fun _ => ⟨rfl, rfl, rfl, rfl, rfl, rfl⟩ | exact fun w => absurd w (by grind))⟩
theorem tX9_restore {N : Nat} {v_squaresRead : Int32} {v_keptSquare : Int32} {v_keptFront : Int32} {v_keptDown : Int32} {v_keptNights : Int32} {v_keptWishesMany : Int32} {v_keptSeen : Int32} {v_keptKinds : (Nat → Int32)} {v_keptPlots : (Nat → Int32)} {v_keptRow : (Nat → Int32)} {v_keptHad : (Nat → Int32)} {v_keptWishes : (Nat → Int32)} {v_keptSights : (Nat → Int32)} {v_nights : Int32} {v_front : Int32} {v_down : Int32} {v_wishesMany : Int32} {v_seenMany : Int32} {v_kinds : (Nat → Int32)} {v_plots : (Nat → Int32)} {v_row : (Nat → Int32)} {v_had : (Nat → Int32)} {v_wishes : (Nat → Int32)} {v_sights : (Nat → Int32)}  (hN : 49999 < N) (h_v_keptFront : RB 0 11 v_keptFront) (h_v_keptNights : RB 0 999 v_keptNights) (h_v_keptWishesMany : RB 0 5 v_keptWishesMany) (h_v_keptSeen : RB 0 6 v_keptSeen) (h_v_keptPlots : RA (-1) 11 v_keptPlots) (h_v_keptRow : RA 0 5 v_keptRow) (h_v_keptWishes : W0 v_keptWishes) (h_v_nights : RB 0 999 v_nights) (h_v_front : RB 0 11 v_front) (h_v_wishesMany : RB 0 5 v_wishesMany) (h_v_seenMany : RB 0 6 v_seenMany) (h_v_plots : RA (-1) 11 v_plots) (h_v_row : RA 0 5 v_row) (h_v_wishes : W0 v_wishes)  : Ok (fun r => RB 0 999 r.2.1 ∧ RB 0 11 r.2.2.1 ∧ RB 0 5 r.2.2.2.2.1 ∧ RB 0 6 r.2.2.2.2.2.1 ∧ RA (-1) 11 r.2.2.2.2.2.2.2.1 ∧ RA 0 5 r.2.2.2.2.2.2.2.2.1 ∧ W0 r.2.2.2.2.2.2.2.2.2.2.1 ∧ (v_keptSquare ≠ v_squaresRead ∧ r.1 = -103 ∧ r.2.1 = v_nights ∧ r.2.2.2.2.1 = v_wishesMany ∧ r.2.2.2.2.2.1 = v_seenMany ∨ v_keptSquare = v_squaresRead ∧ r.1 = v_keptNights ∧ r.2.1 = v_keptNights ∧ r.2.2.2.2.1 = v_keptWishesMany ∧ r.2.2.2.2.2.1 = v_keptSeen) ∧ (SG v_keptSeen v_keptSights → SG v_seenMany v_sights → SG r.2.2.2.2.2.1 r.2.2.2.2.2.2.2.2.2.2.2) ∧ (∀ n : Int32, n ≤ 6 → (v_keptSquare = v_squaresRead → SJ n v_keptRow) → SJ n v_row → SJ n r.2.2.2.2.2.2.2.2.1) ∧ (v_keptSquare = v_squaresRead → N6 r.2.2.2.2.2.2.1 = N6 v_keptKinds ∧ N6 r.2.2.2.2.2.2.2.1 = N6 v_keptPlots ∧ N6 r.2.2.2.2.2.2.2.2.1 = N6 v_keptRow ∧ N6 r.2.2.2.2.2.2.2.2.2.1 = N6 v_keptHad ∧ r.2.2.1 = v_keptFront ∧ r.2.2.2.1 = v_keptDown) ∧ (v_keptSquare ≠ v_squaresRead → r.2.2.2.2.2.2.1 = v_kinds ∧ r.2.2.2.2.2.2.2.1 = v_plots ∧ r.2.2.2.2.2.2.2.2.1 = v_row ∧ r.2.2.2.2.2.2.2.2.2.1 = v_had ∧ r.2.2.1 = v_front ∧ r.2.2.2.1 = v_down)) (fX9_restore N v_squaresRead v_keptSquare v_keptFront v_keptDown v_keptNights v_keptWishesMany v_keptSeen v_keptKinds v_keptPlots v_keptRow v_keptHad v_keptWishes v_keptSights v_nights v_front v_down v_wishesMany v_seenMany v_kinds v_plots v_row v_had v_wishes v_sights) := by
  unfold fX9_restore
  refine ok_if (fun c_1 => ?_) (fun c_1 => ?_)
  · refine ok_b (cp_ok hN (by decide)) (fun x_22 hx => ?_)
    subst hx
    refine ok_b (cp_ok hN (by decide)) (fun x_33 hx => ?_)
    subst hx
    refine ok_b (cp_ok hN (by decide)) (fun x_44 hx => ?_)
    subst hx
    refine ok_b (cp_ok hN (by decide)) (fun x_55 hx => ?_)
    subst hx
    refine ok_b (cp_ok hN (by decide)) (fun x_66 hx => ?_)
    subst hx
    refine ok_b (cp_ok hN (by decide)) (fun x_77 hx => ?_)
    subst hx
    exact ok_s ⟨h_v_keptNights, h_v_keptFront, h_v_keptWishesMany, h_v_keptSeen, (RA.cpy h_v_keptPlots h_v_plots), (RA.cpy h_v_keptRow h_v_row), (W0.cpy h_v_keptWishes h_v_wishes), (by grind), (by first | exact fun _ q => q | exact fun q _ => SG.cpy q h_v_keptSeen), (by first | exact fun n hn q _ => sj_cpy (q c_1) hn | exact fun _ _ _ q => q), (by first | exact fun _ => ⟨N6_cpy, N6_cpy, N6_cpy, N6_cpy, rfl, rfl⟩ | exact fun w => absurd w (by grind)), (by first | exact fun _ => ⟨rfl, rfl, rfl, rfl, rfl, rfl⟩ | exact fun w => absurd w (by grind))⟩
  · exact ok_s ⟨h_v_nights, h_v_front, h_v_wishesMany, h_v_seenMany, h_v_plots, h_v_row, h_v_wishes, (by grind), (by first | exact fun _ q => q | exact fun q _ => SG.cpy q h_v_keptSeen), (by first | exact fun n hn q _ => sj_cpy (q c_1) hn | exact fun _ _ _ q => q), (by first | exact fun _ => ⟨N6_cpy, N6_cpy, N6_cpy, N6_cpy, rfl, rfl⟩ | exact fun w => absurd w (by grind)), (by first | exact fun _ => ⟨rfl, rfl, rfl, rfl, rfl, rfl⟩ | exact fun w => absurd w (by grind))⟩
theorem sX9_standing_4 {N : Nat} {v_houses : Int32} {v_plots : (Nat → Int32)} {K_4 : Int32 → Int32 → Option (Int32)} {l1 : Int32} {l2 : Int32}  {m_4 : Int32} (hN : 49999 < N) (h_v_houses : RB 0 6 v_houses) (h_v_plots : RA (-1) 11 v_plots) (hK_4 : ∀ (l1 : Int32) (l2 : Int32), 0 ≤ l2 ∧ (l1 = sm (fun k => if v_plots k = -1 then 0 else 1) l2.toNatClampNeg) ∧ (l2 ≤ v_houses) → (v_houses - l2) < m_4 → 0 < m_4 → Ok (fun r => (r = sm (fun k => if v_plots k = -1 then 0 else 1) v_houses.toNatClampNeg)) (K_4 l1 l2)) (hI : 0 ≤ l2 ∧ (l1 = sm (fun k => if v_plots k = -1 then 0 else 1) l2.toNatClampNeg) ∧ (l2 ≤ v_houses)) (hm_4 : (v_houses - l2) = m_4) : Ok (fun r => (r = sm (fun k => if v_plots k = -1 then 0 else 1) v_houses.toNatClampNeg)) (fX9_standing_4 N v_houses v_plots K_4 l1 l2) := by
  obtain ⟨h_l2, e_0, e_1⟩ := hI
  unfold fX9_standing_4
  refine ok_if (fun c_1 => ?_) (fun c_1 => ?_)
  · exact ok_s (sm_end e_0 (by clear hm_4 hK_4 e_0; grind))
  · refine ok_g (ng6 (by clear hm_4 hK_4; grind)) ?_
    refine ok_if (fun c_2 => ?_) (fun c_2 => ?_)
    · exact hK_4 _ _ ⟨(by clear hm_4 hK_4; grind), (by clear hm_4 hK_4; first | exact sm_step e_0 (if_neg (by clear e_0; grind)).symm (by clear e_0; grind) | exact sm_step e_0 (if_pos (by clear e_0; grind)).symm (by clear e_0; grind)), (by clear hm_4 hK_4; grind)⟩ (by clear hK_4; grind) (by clear hK_4; grind)
    · exact hK_4 _ _ ⟨(by clear hm_4 hK_4; grind), (by clear hm_4 hK_4; first | exact sm_step e_0 (if_neg (by clear e_0; grind)).symm (by clear e_0; grind) | exact sm_step e_0 (if_pos (by clear e_0; grind)).symm (by clear e_0; grind)), (by clear hm_4 hK_4; grind)⟩ (by clear hK_4; grind) (by clear hK_4; grind)
theorem lX9_standing_4 {N : Nat} {v_houses : Int32} {v_plots : (Nat → Int32)}  (hN : 49999 < N) (h_v_houses : RB 0 6 v_houses) (h_v_plots : RA (-1) 11 v_plots)  : ∀ (l1 : Int32) (l2 : Int32), 0 ≤ l2 ∧ (l1 = sm (fun k => if v_plots k = -1 then 0 else 1) l2.toNatClampNeg) ∧ (l2 ≤ v_houses) → (v_houses - l2) ≤ 49999 → Ok (fun r => (r = sm (fun k => if v_plots k = -1 then 0 else 1) v_houses.toNatClampNeg)) (lfix (fun (K : Int32 × Int32 → Option (Int32)) (a : Int32 × Int32) => fX9_standing_4 N v_houses v_plots (fun (l1 : Int32) (l2 : Int32) => K (l1, l2)) a.1 a.2) N (l1, l2)) := by
  intro l1 l2 hI hM
  exact ok_l (I := fun (a : Int32 × Int32) => (0 ≤ a.2 ∧ (a.1 = sm (fun k => if v_plots k = -1 then 0 else 1) a.2.toNatClampNeg) ∧ (a.2 ≤ v_houses))) (M := fun (a : Int32 × Int32) => (v_houses - a.2)) (fun K a hI hK => sX9_standing_4  hN h_v_houses h_v_plots  (fun l1 l2 hI2  hlt hp => hK (l1, l2) hI2 hlt hp) hI  rfl) N _ hI hN hM
theorem tX9_standing {N : Nat} {v_houses : Int32} {v_plots : (Nat → Int32)}  (hN : 49999 < N) (h_v_houses : RB 0 6 v_houses) (h_v_plots : RA (-1) 11 v_plots)  : Ok (fun r => (r = sm (fun k => if v_plots k = -1 then 0 else 1) v_houses.toNatClampNeg)) (fX9_standing N v_houses v_plots) := by
  unfold fX9_standing
  exact lX9_standing_4  hN h_v_houses h_v_plots  _ _ ⟨(by grind), rfl, (by grind)⟩  (by grind)
theorem sX9_worthNow_4 {N : Nat} {v_houses : Int32} {v_plots : (Nat → Int32)} {v_worths : (Nat → Int32)} {K_4 : Int32 → Int32 → Option (Int32)} {l1 : Int32} {l2 : Int32}  {m_4 : Int32} (hN : 49999 < N) (h_v_houses : RB 0 6 v_houses) (h_v_plots : RA (-1) 11 v_plots) (hK_4 : ∀ (l1 : Int32) (l2 : Int32), 0 ≤ l2 ∧ (l1 = sm (fun k => wu v_worths (v_plots k)) l2.toNatClampNeg) ∧ (l2 ≤ v_houses) → (v_houses - l2) < m_4 → 0 < m_4 → Ok (fun r => (r = sm (fun k => wu v_worths (v_plots k)) v_houses.toNatClampNeg)) (K_4 l1 l2)) (hI : 0 ≤ l2 ∧ (l1 = sm (fun k => wu v_worths (v_plots k)) l2.toNatClampNeg) ∧ (l2 ≤ v_houses)) (hm_4 : (v_houses - l2) = m_4) : Ok (fun r => (r = sm (fun k => wu v_worths (v_plots k)) v_houses.toNatClampNeg)) (fX9_worthNow_4 N v_houses v_plots v_worths K_4 l1 l2) := by
  obtain ⟨h_l2, e_0, e_1⟩ := hI
  unfold fX9_worthNow_4
  refine ok_if (fun c_1 => ?_) (fun c_1 => ?_)
  · exact ok_s (sm_end e_0 (by clear hm_4 hK_4 e_0; grind))
  · refine ok_g (ng6 (by clear hm_4 hK_4; grind)) ?_
    refine ok_b (tX9_worthOf hN (by clear hm_4 hK_4; have := h_v_plots ((l2).toNatClampNeg); grind)) (fun x_20 hx => ?_)
    have h_x_20_0 := hx
    exact hK_4 _ _ ⟨(by clear hm_4 hK_4; grind), (by clear hm_4 hK_4; first | exact sm_step e_0 h_x_20_0 (by clear e_0; grind)), (by clear hm_4 hK_4; grind)⟩ (by clear hK_4; grind) (by clear hK_4; grind)
theorem lX9_worthNow_4 {N : Nat} {v_houses : Int32} {v_plots : (Nat → Int32)} {v_worths : (Nat → Int32)}  (hN : 49999 < N) (h_v_houses : RB 0 6 v_houses) (h_v_plots : RA (-1) 11 v_plots)  : ∀ (l1 : Int32) (l2 : Int32), 0 ≤ l2 ∧ (l1 = sm (fun k => wu v_worths (v_plots k)) l2.toNatClampNeg) ∧ (l2 ≤ v_houses) → (v_houses - l2) ≤ 49999 → Ok (fun r => (r = sm (fun k => wu v_worths (v_plots k)) v_houses.toNatClampNeg)) (lfix (fun (K : Int32 × Int32 → Option (Int32)) (a : Int32 × Int32) => fX9_worthNow_4 N v_houses v_plots v_worths (fun (l1 : Int32) (l2 : Int32) => K (l1, l2)) a.1 a.2) N (l1, l2)) := by
  intro l1 l2 hI hM
  exact ok_l (I := fun (a : Int32 × Int32) => (0 ≤ a.2 ∧ (a.1 = sm (fun k => wu v_worths (v_plots k)) a.2.toNatClampNeg) ∧ (a.2 ≤ v_houses))) (M := fun (a : Int32 × Int32) => (v_houses - a.2)) (fun K a hI hK => sX9_worthNow_4  hN h_v_houses h_v_plots  (fun l1 l2 hI2  hlt hp => hK (l1, l2) hI2 hlt hp) hI  rfl) N _ hI hN hM
theorem tX9_worthNow {N : Nat} {v_houses : Int32} {v_plots : (Nat → Int32)} {v_worths : (Nat → Int32)}  (hN : 49999 < N) (h_v_houses : RB 0 6 v_houses) (h_v_plots : RA (-1) 11 v_plots)  : Ok (fun r => (r = sm (fun k => wu v_worths (v_plots k)) v_houses.toNatClampNeg)) (fX9_worthNow N v_houses v_plots v_worths) := by
  unfold fX9_worthNow
  exact lX9_worthNow_4  hN h_v_houses h_v_plots  _ _ ⟨(by grind), rfl, (by grind)⟩  (by grind)
theorem sX9_hadAll_4 {N : Nat} {v_houses : Int32} {v_had : (Nat → Int32)} {K_4 : Int32 → Int32 → Option (Int32)} {l1 : Int32} {l2 : Int32}  {m_4 : Int32} (hN : 49999 < N) (h_v_houses : RB 0 6 v_houses) (hK_4 : ∀ (l1 : Int32) (l2 : Int32), 0 ≤ l2 ∧ (l1 = sm (v_had) l2.toNatClampNeg) ∧ (l2 ≤ v_houses) → (v_houses - l2) < m_4 → 0 < m_4 → Ok (fun r => (r = sm (v_had) v_houses.toNatClampNeg)) (K_4 l1 l2)) (hI : 0 ≤ l2 ∧ (l1 = sm (v_had) l2.toNatClampNeg) ∧ (l2 ≤ v_houses)) (hm_4 : (v_houses - l2) = m_4) : Ok (fun r => (r = sm (v_had) v_houses.toNatClampNeg)) (fX9_hadAll_4 N v_houses v_had K_4 l1 l2) := by
  obtain ⟨h_l2, e_0, e_1⟩ := hI
  unfold fX9_hadAll_4
  refine ok_if (fun c_1 => ?_) (fun c_1 => ?_)
  · exact ok_s (sm_end e_0 (by clear hm_4 hK_4 e_0; grind))
  · refine ok_g (ng6 (by clear hm_4 hK_4; grind)) ?_
    exact hK_4 _ _ ⟨(by clear hm_4 hK_4; grind), (by clear hm_4 hK_4; first | exact sm_step e_0 rfl (by clear e_0; grind)), (by clear hm_4 hK_4; grind)⟩ (by clear hK_4; grind) (by clear hK_4; grind)
theorem lX9_hadAll_4 {N : Nat} {v_houses : Int32} {v_had : (Nat → Int32)}  (hN : 49999 < N) (h_v_houses : RB 0 6 v_houses)  : ∀ (l1 : Int32) (l2 : Int32), 0 ≤ l2 ∧ (l1 = sm (v_had) l2.toNatClampNeg) ∧ (l2 ≤ v_houses) → (v_houses - l2) ≤ 49999 → Ok (fun r => (r = sm (v_had) v_houses.toNatClampNeg)) (lfix (fun (K : Int32 × Int32 → Option (Int32)) (a : Int32 × Int32) => fX9_hadAll_4 N v_houses v_had (fun (l1 : Int32) (l2 : Int32) => K (l1, l2)) a.1 a.2) N (l1, l2)) := by
  intro l1 l2 hI hM
  exact ok_l (I := fun (a : Int32 × Int32) => (0 ≤ a.2 ∧ (a.1 = sm (v_had) a.2.toNatClampNeg) ∧ (a.2 ≤ v_houses))) (M := fun (a : Int32 × Int32) => (v_houses - a.2)) (fun K a hI hK => sX9_hadAll_4  hN h_v_houses  (fun l1 l2 hI2  hlt hp => hK (l1, l2) hI2 hlt hp) hI  rfl) N _ hI hN hM
theorem tX9_hadAll {N : Nat} {v_houses : Int32} {v_had : (Nat → Int32)}  (hN : 49999 < N) (h_v_houses : RB 0 6 v_houses)  : Ok (fun r => (r = sm (v_had) v_houses.toNatClampNeg)) (fX9_hadAll N v_houses v_had) := by
  unfold fX9_hadAll
  exact lX9_hadAll_4  hN h_v_houses  _ _ ⟨(by grind), rfl, (by grind)⟩  (by grind)
theorem tX9_countOf {N : Nat} {v_pageMany : Int32} {v_houses : Int32} {v_nights : Int32} {v_squaresRead : Int32} {v_front : Int32} {v_down : Int32} {v_wishesMany : Int32} {v_ordersDone : Int32} {v_seenMany : Int32} {v_had : (Nat → Int32)} {v_plots : (Nat → Int32)} {v_worths : (Nat → Int32)} {v_row : (Nat → Int32)} {a1 : Int32}  (hN : 49999 < N) (h_v_pageMany : RB 0 32 v_pageMany) (h_v_houses : RB 0 6 v_houses) (h_v_front : RB 0 11 v_front) (h_v_wishesMany : RB 0 5 v_wishesMany) (h_v_seenMany : RB 0 6 v_seenMany) (h_v_plots : RA (-1) 11 v_plots) (h_v_row : RA 0 5 v_row)  : Ok (fun r => True) (fX9_countOf N v_pageMany v_houses v_nights v_squaresRead v_front v_down v_wishesMany v_ordersDone v_seenMany v_had v_plots v_worths v_row a1) := by
  unfold fX9_countOf
  refine ok_if (fun c_1 => ?_) (fun c_1 => ?_)
  · exact ok_s trivial
  · refine ok_if (fun c_2 => ?_) (fun c_2 => ?_)
    · refine ok_b (tX9_standing hN h_v_houses h_v_plots) (fun x_74 hx => ?_)
      have h_x_74_0 := hx
      exact ok_s trivial
    · refine ok_if (fun c_3 => ?_) (fun c_3 => ?_)
      · refine ok_b (tX9_lacks hN h_v_houses) (fun x_79 hx => ?_)
        have h_x_79_0 := hx
        refine ok_if (fun c_4 => ?_) (fun c_4 => ?_)
        · exact ok_s trivial
        · exact ok_s trivial
      · refine ok_if (fun c_5 => ?_) (fun c_5 => ?_)
        · refine ok_b (tX9_lacks hN h_v_houses) (fun x_95 hx => ?_)
          have h_x_95_0 := hx
          refine ok_if (fun c_6 => ?_) (fun c_6 => ?_)
          · exact ok_s trivial
          · exact ok_s trivial
        · refine ok_if (fun c_7 => ?_) (fun c_7 => ?_)
          · exact ok_s trivial
          · refine ok_if (fun c_8 => ?_) (fun c_8 => ?_)
            · exact ok_s trivial
            · refine ok_if (fun c_9 => ?_) (fun c_9 => ?_)
              · refine ok_b (tX9_worthNow hN h_v_houses h_v_plots) (fun x_123 hx => ?_)
                have h_x_123_0 := hx
                exact ok_s trivial
              · refine ok_if (fun c_10 => ?_) (fun c_10 => ?_)
                · refine ok_b (tX9_hadAll hN h_v_houses) (fun x_128 hx => ?_)
                  have h_x_128_0 := hx
                  exact ok_s trivial
                · refine ok_if (fun c_11 => ?_) (fun c_11 => ?_)
                  · exact ok_s trivial
                  · refine ok_if (fun c_12 => ?_) (fun c_12 => ?_)
                    · exact ok_s trivial
                    · refine ok_if (fun c_13 => ?_) (fun c_13 => ?_)
                      · exact ok_s trivial
                      · refine ok_if (fun c_14 => ?_) (fun c_14 => ?_)
                        · exact ok_s trivial
                        · refine ok_if (fun c_15 => ?_) (fun c_15 => ?_)
                          · exact ok_s trivial
                          · exact ok_s trivial
theorem tX9_count {N : Nat} {v_pageMany : Int32} {v_houses : Int32} {v_nights : Int32} {v_squaresRead : Int32} {v_front : Int32} {v_down : Int32} {v_wishesMany : Int32} {v_ordersDone : Int32} {v_seenMany : Int32} {v_had : (Nat → Int32)} {v_plots : (Nat → Int32)} {v_worths : (Nat → Int32)} {v_row : (Nat → Int32)} {a1 : Int32}  (hN : 49999 < N) (h_v_pageMany : RB 0 32 v_pageMany) (h_v_houses : RB 0 6 v_houses) (h_v_front : RB 0 11 v_front) (h_v_wishesMany : RB 0 5 v_wishesMany) (h_v_seenMany : RB 0 6 v_seenMany) (h_v_plots : RA (-1) 11 v_plots) (h_v_row : RA 0 5 v_row)  : Ok (fun r => True) (fX9_count N v_pageMany v_houses v_nights v_squaresRead v_front v_down v_wishesMany v_ordersDone v_seenMany v_had v_plots v_worths v_row a1) := by
  unfold fX9_count
  refine ok_b (tX9_countOf hN h_v_pageMany h_v_houses h_v_front h_v_wishesMany h_v_seenMany h_v_plots h_v_row) (fun x_2 hx => ?_)
  exact ok_s trivial
theorem tX9_say {N : Nat} {a1 : Int64} {v_hash : Int64}  (hN : 49999 < N)   : Ok (fun r => True) (fX9_say N a1 v_hash) := by
  unfold fX9_say
  exact ok_s trivial
