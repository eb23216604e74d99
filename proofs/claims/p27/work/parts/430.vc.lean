


theorem tX9_round {N : Nat} {a0 : Int32} {a1 : Int32}  (hN : 49999 < N)   : Ok (fun r => (r = wr a0 a1)) (fX9_round N a0 a1) := by
  unfold fX9_round
  refine ok_if (fun c_1 => ?_) (fun c_1 => ?_)
  · exact ok_s (by unfold wr; first | rw [if_pos c_1] | rw [if_neg c_1])
  · exact ok_s (by unfold wr; first | rw [if_pos c_1] | rw [if_neg c_1])
theorem tX9_letter {N : Nat} {a1 : Int32} {v_pageMany : Int32} {v_page : (Nat → Int32)}  (hN : 49999 < N) (h_v_pageMany : RB 0 32 v_pageMany) (h_v_page : RA 0 126 v_page)  : Ok (fun r => RB 0 32 r.2.1 ∧ RA 0 126 r.2.2 ∧ (¬(1 ≤ a1 ∧ a1 ≤ 126) ∧ r.1 = -102 ∧ r.2.1 = v_pageMany ∧ r.2.2 = v_page ∨ (1 ≤ a1 ∧ a1 ≤ 126) ∧ ¬ v_pageMany < 32 ∧ r.1 = -104 ∧ r.2.1 = v_pageMany ∧ r.2.2 = v_page ∨ (1 ≤ a1 ∧ a1 ≤ 126) ∧ v_pageMany < 32 ∧ r.1 = v_pageMany + 1 ∧ r.2.1 = v_pageMany + 1 ∧ r.2.2 = upd v_page (v_pageMany).toNatClampNeg a1)) (fX9_letter N a1 v_pageMany v_page) := by
  unfold fX9_letter
  refine ok_b (in_ok (a := (a1)) (lo := (1 : Int32)) (hi := (126 : Int32)) rfl rfl) (fun x_6 hx => ?_)
  have h_x_6 := hx
  refine ok_if (fun c_1 => ?_) (fun c_1 => ?_)
  · exact ok_s ⟨h_v_pageMany, h_v_page, (by grind)⟩
  · refine ok_if (fun c_2 => ?_) (fun c_2 => ?_)
    · exact ok_s ⟨h_v_pageMany, h_v_page, (by grind)⟩
    · refine ok_g (ng32 (by grind)) ?_
      exact ok_s ⟨(by grind), (RA.upd h_v_page (by grind)), (by grind)⟩
theorem tX9_blank {N : Nat} {v_pageMany : Int32}  (hN : 49999 < N) (h_v_pageMany : RB 0 32 v_pageMany)  : Ok (fun r => RB 0 32 r.2 ∧ (r.1 = v_pageMany ∧ r.2 = 0)) (fX9_blank N v_pageMany) := by
  unfold fX9_blank
  exact ok_s ⟨(by grind), (by grind)⟩
theorem tX9_kindBy {N : Nat} {a0 : Int32}  (hN : 49999 < N)   : Ok (fun r => (r = kc a0)) (fX9_kindBy N a0) := by
  unfold fX9_kindBy
  refine ok_if (fun c_1 => ?_) (fun c_1 => ?_)
  · exact ok_s (by unfold kc; grind)
  · refine ok_if (fun c_2 => ?_) (fun c_2 => ?_)
    · exact ok_s (by unfold kc; grind)
    · refine ok_if (fun c_3 => ?_) (fun c_3 => ?_)
      · exact ok_s (by unfold kc; grind)
      · refine ok_if (fun c_4 => ?_) (fun c_4 => ?_)
        · exact ok_s (by unfold kc; grind)
        · refine ok_if (fun c_5 => ?_) (fun c_5 => ?_)
          · exact ok_s (by unfold kc; grind)
          · exact ok_s (by unfold kc; grind)
theorem tX9_isGood {N : Nat} {a0 : Int32} {a1 : Int32}  (hN : 49999 < N) (h_a0 : RB 0 31 a0)  : Ok (fun r => (a0 ≤ 30 → (r = 0 ∧ ¬ gd_ a0 a1 ∨ r = 1 ∧ gd_ a0 a1)) ∧ (a0 = 30 → r = 0)) (fX9_isGood N a0 a1) := by
  unfold fX9_isGood
  refine ok_if (fun c_1 => ?_) (fun c_1 => ?_)
  · refine ok_if (fun c_2 => ?_) (fun c_2 => ?_)
    · refine ok_b (tX9_kindBy hN ) (fun x_73 hx => ?_)
      have h_x_73_0 := hx
      refine ok_if (fun c_3 => ?_) (fun c_3 => ?_)
      · exact ok_s ⟨(by have kcu := kc_ne a1; intro q; have m := (fun g => m3_eq (p := a0) g q : 13 ≤ a0 → _); have m30 := (fun g w => m3_lt (p := a0) g q w : 13 ≤ a0 → _ → a0 < 30); unfold gd_; grind), (by intro q; subst q; first | rfl | (exfalso; revert c_2; decide) | (exfalso; revert c_4; decide) | grind)⟩
      · exact ok_s ⟨(by have kcu := kc_ne a1; intro q; have m := (fun g => m3_eq (p := a0) g q : 13 ≤ a0 → _); have m30 := (fun g w => m3_lt (p := a0) g q w : 13 ≤ a0 → _ → a0 < 30); unfold gd_; grind), (by intro q; subst q; first | rfl | (exfalso; revert c_2; decide) | (exfalso; revert c_4; decide) | grind)⟩
    · refine ok_if (fun c_4 => ?_) (fun c_4 => ?_)
      · refine ok_b (in_ok (a := (a1)) (lo := (97 : Int32)) (hi := (108 : Int32)) rfl rfl) (fun x_94 hx => ?_)
        have h_x_94 := hx
        refine ok_g (by grind) ?_
        exact ok_s ⟨(by have kcu := kc_ne a1; intro q; have m := (fun g => m3_eq (p := a0) g q : 13 ≤ a0 → _); have m30 := (fun g w => m3_lt (p := a0) g q w : 13 ≤ a0 → _ → a0 < 30); unfold gd_; grind), (by intro q; subst q; first | rfl | (exfalso; revert c_2; decide) | (exfalso; revert c_4; decide) | grind)⟩
      · refine ok_if (fun c_5 => ?_) (fun c_5 => ?_)
        · refine ok_if (fun c_6 => ?_) (fun c_6 => ?_)
          · exact ok_s ⟨(by have kcu := kc_ne a1; intro q; have m := (fun g => m3_eq (p := a0) g q : 13 ≤ a0 → _); have m30 := (fun g w => m3_lt (p := a0) g q w : 13 ≤ a0 → _ → a0 < 30); unfold gd_; grind), (by intro q; subst q; first | rfl | (exfalso; revert c_2; decide) | (exfalso; revert c_4; decide) | grind)⟩
          · exact ok_s ⟨(by have kcu := kc_ne a1; intro q; have m := (fun g => m3_eq (p := a0) g q : 13 ≤ a0 → _); have m30 := (fun g w => m3_lt (p := a0) g q w : 13 ≤ a0 → _ → a0 < 30); unfold gd_; grind), (by intro q; subst q; first | rfl | (exfalso; revert c_2; decide) | (exfalso; revert c_4; decide) | grind)⟩
        · exact ok_s ⟨(by have kcu := kc_ne a1; intro q; have m := (fun g => m3_eq (p := a0) g q : 13 ≤ a0 → _); have m30 := (fun g w => m3_lt (p := a0) g q w : 13 ≤ a0 → _ → a0 < 30); unfold gd_; grind), (by intro q; subst q; first | rfl | (exfalso; revert c_2; decide) | (exfalso; revert c_4; decide) | grind)⟩
  · refine ok_if (fun c_7 => ?_) (fun c_7 => ?_)
    · refine ok_if (fun c_8 => ?_) (fun c_8 => ?_)
      · exact ok_s ⟨(by have kcu := kc_ne a1; intro q; have m := (fun g => m3_eq (p := a0) g q : 13 ≤ a0 → _); have m30 := (fun g w => m3_lt (p := a0) g q w : 13 ≤ a0 → _ → a0 < 30); unfold gd_; grind), (by intro q; subst q; first | rfl | (exfalso; revert c_2; decide) | (exfalso; revert c_4; decide) | grind)⟩
      · exact ok_s ⟨(by have kcu := kc_ne a1; intro q; have m := (fun g => m3_eq (p := a0) g q : 13 ≤ a0 → _); have m30 := (fun g w => m3_lt (p := a0) g q w : 13 ≤ a0 → _ → a0 < 30); unfold gd_; grind), (by intro q; subst q; first | rfl | (exfalso; revert c_2; decide) | (exfalso; revert c_4; decide) | grind)⟩
    · refine ok_b (in_ok (a := (a1)) (lo := (48 : Int32)) (hi := (57 : Int32)) rfl rfl) (fun x_20 hx => ?_)
      have h_x_20 := hx
      refine ok_g (by grind) ?_
      exact ok_s ⟨(by have kcu := kc_ne a1; intro q; have m := (fun g => m3_eq (p := a0) g q : 13 ≤ a0 → _); have m30 := (fun g w => m3_lt (p := a0) g q w : 13 ≤ a0 → _ → a0 < 30); unfold gd_; grind), (by intro q; subst q; first | rfl | (exfalso; revert c_2; decide) | (exfalso; revert c_4; decide) | grind)⟩
theorem sX9_faultOf_2 {N : Nat} {v_pageMany : Int32} {v_page : (Nat → Int32)} {K_2 : Int32 → Option (Int32)} {l1 : Int32}  {m_2 : Int32} (hN : 49999 < N) (h_v_pageMany : RB 0 32 v_pageMany) (h_v_page : RA 0 126 v_page) (hK_2 : ∀ (l1 : Int32), 0 ≤ l1 ∧ (0 ≤ l1 ∧ l1 ≤ v_pageMany ∧ l1 ≤ 30) ∧ (∀ i : Int32, 0 ≤ i → i < l1 → gd_ i (v_page i.toNatClampNeg)) → (v_pageMany - l1) < m_2 → 0 < m_2 → Ok (fun r => (FW v_pageMany v_page r)) (K_2 l1)) (hI : 0 ≤ l1 ∧ (0 ≤ l1 ∧ l1 ≤ v_pageMany ∧ l1 ≤ 30) ∧ (∀ i : Int32, 0 ≤ i → i < l1 → gd_ i (v_page i.toNatClampNeg))) (hm_2 : (v_pageMany - l1) = m_2) : Ok (fun r => (FW v_pageMany v_page r)) (fX9_faultOf_2 N v_pageMany v_page K_2 l1) := by
  obtain ⟨h_l1, e_0, e_1⟩ := hI
  unfold fX9_faultOf_2
  refine ok_if (fun c_1 => ?_) (fun c_1 => ?_)
  · exact ok_s (by clear hK_2; first | exact fw_end' ⟨e_0.1, e_0.2.1⟩ e_1 (by clear e_1; grind) | exact fw_mid ⟨e_0.1, e_0.2.1⟩ e_1 (by clear e_1; grind))
  · refine ok_g (ng32 (by clear hm_2 hK_2; grind)) ?_
    refine ok_b (tX9_isGood hN (by clear hm_2 hK_2; grind)) (fun x_17 hx => ?_)
    obtain ⟨h_x_17_0, h_x_17_1⟩ := hx
    refine ok_if (fun c_2 => ?_) (fun c_2 => ?_)
    · exact ok_s (by clear hK_2; first | exact fw_end' ⟨e_0.1, e_0.2.1⟩ e_1 (by clear e_1; grind) | exact fw_mid ⟨e_0.1, e_0.2.1⟩ e_1 (by clear e_1; grind))
    · exact hK_2 _ ⟨(by clear hm_2 hK_2; grind), (by clear hm_2 hK_2; grind), (fw_step e_1 (by clear hK_2 e_1; grind) (by clear hK_2 e_1; grind))⟩ (by clear hK_2; grind) (by clear hK_2; grind)
theorem lX9_faultOf_2 {N : Nat} {v_pageMany : Int32} {v_page : (Nat → Int32)}  (hN : 49999 < N) (h_v_pageMany : RB 0 32 v_pageMany) (h_v_page : RA 0 126 v_page)  : ∀ (l1 : Int32), 0 ≤ l1 ∧ (0 ≤ l1 ∧ l1 ≤ v_pageMany ∧ l1 ≤ 30) ∧ (∀ i : Int32, 0 ≤ i → i < l1 → gd_ i (v_page i.toNatClampNeg)) → (v_pageMany - l1) ≤ 49999 → Ok (fun r => (FW v_pageMany v_page r)) (lfix (fun (K : Int32 → Option (Int32)) (a : Int32) => fX9_faultOf_2 N v_pageMany v_page (fun (l1 : Int32) => K l1) a) N (l1)) := by
  intro l1 hI hM
  exact ok_l (I := fun (a : Int32) => (0 ≤ a ∧ (0 ≤ a ∧ a ≤ v_pageMany ∧ a ≤ 30) ∧ (∀ i : Int32, 0 ≤ i → i < a → gd_ i (v_page i.toNatClampNeg)))) (M := fun (a : Int32) => (v_pageMany - a)) (fun K a hI hK => sX9_faultOf_2  hN h_v_pageMany h_v_page  (fun l1 hI2  hlt hp => hK (l1) hI2 hlt hp) hI  rfl) N _ hI hN hM
theorem tX9_faultOf {N : Nat} {v_pageMany : Int32} {v_page : (Nat → Int32)}  (hN : 49999 < N) (h_v_pageMany : RB 0 32 v_pageMany) (h_v_page : RA 0 126 v_page)  : Ok (fun r => (FW v_pageMany v_page r)) (fX9_faultOf N v_pageMany v_page) := by
  unfold fX9_faultOf
  exact lX9_faultOf_2  hN h_v_pageMany h_v_page  _ ⟨(by grind), (by grind), (fun i h0 h1 => absurd h0 (by grind))⟩  (by grind)
theorem tX9_fault {N : Nat} {v_pageMany : Int32} {v_page : (Nat → Int32)}  (hN : 49999 < N) (h_v_pageMany : RB 0 32 v_pageMany) (h_v_page : RA 0 126 v_page)  : Ok (fun r => (FW v_pageMany v_page r)) (fX9_fault N v_pageMany v_page) := by
  unfold fX9_fault
  refine ok_b (tX9_faultOf hN h_v_pageMany h_v_page) (fun x_1 hx => ?_)
  have h_x_1_0 := hx
  exact ok_s (by grind)
theorem sX9_square_76 {N : Nat} {v_page : (Nat → Int32)} {K_76 : Int32 → Int32 → Int32 → Int32 → Int32 → Int32 → Int32 → Int32 → Int32 → (Nat → Int32) → (Nat → Int32) → (Nat → Int32) → (Nat → Int32) → (Nat → Int32) → (Nat → Int32) → Option (Int32 × Int32 × Int32 × Int32 × Int32 × Int32 × Int32 × Int32 × Int32 × (Nat → Int32) × (Nat → Int32) × (Nat → Int32) × (Nat → Int32) × (Nat → Int32) × (Nat → Int32))} {l1 : Int32} {v_pageMany : Int32} {v_houses : Int32} {v_nights : Int32} {v_squaresRead : Int32} {v_front : Int32} {v_down : Int32} {v_wishesMany : Int32} {v_seenMany : Int32} {v_worths : (Nat → Int32)} {v_kinds : (Nat → Int32)} {v_likes : (Nat → Int32)} {v_had : (Nat → Int32)} {v_plots : (Nat → Int32)} {v_row : (Nat → Int32)} {g_v_pageMany : Int32} {g_v_squaresRead : Int32} {g_v_houses : Int32} {g_v_nights : Int32} {g_v_wishesMany : Int32} {g_v_seenMany : Int32} {g_v_row : (Nat → Int32)} {g_v_worths : (Nat → Int32)} {g_v_kinds : (Nat → Int32)} {g_v_likes : (Nat → Int32)} {g_v_had : (Nat → Int32)} {g_v_plots : (Nat → Int32)} {g_v_front : Int32} {g_v_down : Int32} {m_76 : Int32} (hN : 49999 < N) (h_v_page : RA 0 126 v_page) (hK_76 : ∀ (l1 : Int32) (v_pageMany : Int32) (v_houses : Int32) (v_nights : Int32) (v_squaresRead : Int32) (v_front : Int32) (v_down : Int32) (v_wishesMany : Int32) (v_seenMany : Int32) (v_worths : (Nat → Int32)) (v_kinds : (Nat → Int32)) (v_likes : (Nat → Int32)) (v_had : (Nat → Int32)) (v_plots : (Nat → Int32)) (v_row : (Nat → Int32)), RB 0 32 v_pageMany ∧ RB 0 6 v_houses ∧ RB 0 999 v_nights ∧ RB 0 11 v_front ∧ RB 0 5 v_wishesMany ∧ RB 0 6 v_seenMany ∧ RA (-1) 11 v_plots ∧ RA 0 5 v_row ∧ 0 ≤ l1 ∧ (SQ g_v_pageMany v_page) ∧ (v_houses = (g_v_pageMany - 12) / 3) ∧ (2 ≤ v_houses) ∧ (v_squaresRead = g_v_squaresRead) ∧ (∀ i : Nat, (i : Int) < l1.toInt → v_row i = nI i) ∧ (v_worths = fl 12 (fun k => v_page k - 48) g_v_worths) ∧ (v_kinds = fl l1 (fun k => kc (v_page (13 + 3 * k))) g_v_kinds) ∧ (v_likes = fl l1 (fun k => v_page (14 + 3 * k) - 97) g_v_likes) ∧ (v_had = fl l1 (fun _ => 0) g_v_had) ∧ (v_plots = fl l1 (fun k => nI k) g_v_plots) ∧ (v_row = fl l1 (fun k => nI k) g_v_row) ∧ (l1 ≤ v_houses) → (v_houses - l1) < m_76 → 0 < m_76 → Ok (fun r => RB 0 32 r.2.1 ∧ RB 0 6 r.2.2.1 ∧ RB 0 999 r.2.2.2.1 ∧ RB 0 11 r.2.2.2.2.2.1 ∧ RB 0 5 r.2.2.2.2.2.2.2.1 ∧ RB 0 6 r.2.2.2.2.2.2.2.2.1 ∧ RA (-1) 11 r.2.2.2.2.2.2.2.2.2.2.2.2.2.1 ∧ RA 0 5 r.2.2.2.2.2.2.2.2.2.2.2.2.2.2 ∧ (¬ SQ g_v_pageMany v_page ∧ r.1 = -103 ∧ r.2.1 = g_v_pageMany ∧ r.2.2.2.2.1 = g_v_squaresRead ∧ r.2.2.1 = g_v_houses ∧ r.2.2.2.1 = g_v_nights ∧ r.2.2.2.2.2.2.2.1 = g_v_wishesMany ∧ r.2.2.2.2.2.2.2.2.1 = g_v_seenMany ∨ SQ g_v_pageMany v_page ∧ r.1 = r.2.2.1 ∧ r.2.1 = 0 ∧ r.2.2.2.2.1 = g_v_squaresRead + 1 ∧ r.2.2.1 = (g_v_pageMany - 12) / 3 ∧ 2 ≤ r.2.2.1 ∧ r.2.2.2.1 = 0 ∧ r.2.2.2.2.2.2.2.1 = 0 ∧ r.2.2.2.2.2.2.2.2.1 = 0) ∧ (SJ g_v_houses g_v_row → SJ r.2.2.1 r.2.2.2.2.2.2.2.2.2.2.2.2.2.2) ∧ (SQ g_v_pageMany v_page → r.2.2.2.2.2.1 = r.2.2.1 - 1 ∧ r.2.2.2.2.2.2.1 = 0) ∧ (SQ g_v_pageMany v_page → r.2.2.2.2.2.2.2.2.2.1 = fl 12 (fun k => v_page k - 48) g_v_worths) ∧ (SQ g_v_pageMany v_page → r.2.2.2.2.2.2.2.2.2.2.1 = fl r.2.2.1 (fun k => kc (v_page (13 + 3 * k))) g_v_kinds) ∧ (SQ g_v_pageMany v_page → r.2.2.2.2.2.2.2.2.2.2.2.1 = fl r.2.2.1 (fun k => v_page (14 + 3 * k) - 97) g_v_likes) ∧ (SQ g_v_pageMany v_page → r.2.2.2.2.2.2.2.2.2.2.2.2.1 = fl r.2.2.1 (fun _ => 0) g_v_had) ∧ (SQ g_v_pageMany v_page → r.2.2.2.2.2.2.2.2.2.2.2.2.2.1 = fl r.2.2.1 (fun k => nI k) g_v_plots) ∧ (SQ g_v_pageMany v_page → r.2.2.2.2.2.2.2.2.2.2.2.2.2.2 = fl r.2.2.1 (fun k => nI k) g_v_row) ∧ (¬ SQ g_v_pageMany v_page → r.2.2.2.2.2.1 = g_v_front ∧ r.2.2.2.2.2.2.1 = g_v_down ∧ r.2.2.2.2.2.2.2.2.2.1 = g_v_worths ∧ r.2.2.2.2.2.2.2.2.2.2.1 = g_v_kinds ∧ r.2.2.2.2.2.2.2.2.2.2.2.1 = g_v_likes ∧ r.2.2.2.2.2.2.2.2.2.2.2.2.1 = g_v_had ∧ r.2.2.2.2.2.2.2.2.2.2.2.2.2.1 = g_v_plots ∧ r.2.2.2.2.2.2.2.2.2.2.2.2.2.2 = g_v_row)) (K_76 l1 v_pageMany v_houses v_nights v_squaresRead v_front v_down v_wishesMany v_seenMany v_worths v_kinds v_likes v_had v_plots v_row)) (hI : RB 0 32 v_pageMany ∧ RB 0 6 v_houses ∧ RB 0 999 v_nights ∧ RB 0 11 v_front ∧ RB 0 5 v_wishesMany ∧ RB 0 6 v_seenMany ∧ RA (-1) 11 v_plots ∧ RA 0 5 v_row ∧ 0 ≤ l1 ∧ (SQ g_v_pageMany v_page) ∧ (v_houses = (g_v_pageMany - 12) / 3) ∧ (2 ≤ v_houses) ∧ (v_squaresRead = g_v_squaresRead) ∧ (∀ i : Nat, (i : Int) < l1.toInt → v_row i = nI i) ∧ (v_worths = fl 12 (fun k => v_page k - 48) g_v_worths) ∧ (v_kinds = fl l1 (fun k => kc (v_page (13 + 3 * k))) g_v_kinds) ∧ (v_likes = fl l1 (fun k => v_page (14 + 3 * k) - 97) g_v_likes) ∧ (v_had = fl l1 (fun _ => 0) g_v_had) ∧ (v_plots = fl l1 (fun k => nI k) g_v_plots) ∧ (v_row = fl l1 (fun k => nI k) g_v_row) ∧ (l1 ≤ v_houses)) (hm_76 : (v_houses - l1) = m_76) : Ok (fun r => RB 0 32 r.2.1 ∧ RB 0 6 r.2.2.1 ∧ RB 0 999 r.2.2.2.1 ∧ RB 0 11 r.2.2.2.2.2.1 ∧ RB 0 5 r.2.2.2.2.2.2.2.1 ∧ RB 0 6 r.2.2.2.2.2.2.2.2.1 ∧ RA (-1) 11 r.2.2.2.2.2.2.2.2.2.2.2.2.2.1 ∧ RA 0 5 r.2.2.2.2.2.2.2.2.2.2.2.2.2.2 ∧ (¬ SQ g_v_pageMany v_page ∧ r.1 = -103 ∧ r.2.1 = g_v_pageMany ∧ r.2.2.2.2.1 = g_v_squaresRead ∧ r.2.2.1 = g_v_houses ∧ r.2.2.2.1 = g_v_nights ∧ r.2.2.2.2.2.2.2.1 = g_v_wishesMany ∧ r.2.2.2.2.2.2.2.2.1 = g_v_seenMany ∨ SQ g_v_pageMany v_page ∧ r.1 = r.2.2.1 ∧ r.2.1 = 0 ∧ r.2.2.2.2.1 = g_v_squaresRead + 1 ∧ r.2.2.1 = (g_v_pageMany - 12) / 3 ∧ 2 ≤ r.2.2.1 ∧ r.2.2.2.1 = 0 ∧ r.2.2.2.2.2.2.2.1 = 0 ∧ r.2.2.2.2.2.2.2.2.1 = 0) ∧ (SJ g_v_houses g_v_row → SJ r.2.2.1 r.2.2.2.2.2.2.2.2.2.2.2.2.2.2) ∧ (SQ g_v_pageMany v_page → r.2.2.2.2.2.1 = r.2.2.1 - 1 ∧ r.2.2.2.2.2.2.1 = 0) ∧ (SQ g_v_pageMany v_page → r.2.2.2.2.2.2.2.2.2.1 = fl 12 (fun k => v_page k - 48) g_v_worths) ∧ (SQ g_v_pageMany v_page → r.2.2.2.2.2.2.2.2.2.2.1 = fl r.2.2.1 (fun k => kc (v_page (13 + 3 * k))) g_v_kinds) ∧ (SQ g_v_pageMany v_page → r.2.2.2.2.2.2.2.2.2.2.2.1 = fl r.2.2.1 (fun k => v_page (14 + 3 * k) - 97) g_v_likes) ∧ (SQ g_v_pageMany v_page → r.2.2.2.2.2.2.2.2.2.2.2.2.1 = fl r.2.2.1 (fun _ => 0) g_v_had) ∧ (SQ g_v_pageMany v_page → r.2.2.2.2.2.2.2.2.2.2.2.2.2.1 = fl r.2.2.1 (fun k => nI k) g_v_plots) ∧ (SQ g_v_pageMany v_page → r.2.2.2.2.2.2.2.2.2.2.2.2.2.2 = fl r.2.2.1 (fun k => nI k) g_v_row) ∧ (¬ SQ g_v_pageMany v_page → r.2.2.2.2.2.1 = g_v_front ∧ r.2.2.2.2.2.2.1 = g_v_down ∧ r.2.2.2.2.2.2.2.2.2.1 = g_v_worths ∧ r.2.2.2.2.2.2.2.2.2.2.1 = g_v_kinds ∧ r.2.2.2.2.2.2.2.2.2.2.2.1 = g_v_likes ∧ r.2.2.2.2.2.2.2.2.2.2.2.2.1 = g_v_had ∧ r.2.2.2.2.2.2.2.2.2.2.2.2.2.1 = g_v_plots ∧ r.2.2.2.2.2.2.2.2.2.2.2.2.2.2 = g_v_row)) (fX9_square_76 N v_page K_76 l1 v_pageMany v_houses v_nights v_squaresRead v_front v_down v_wishesMany v_seenMany v_worths v_kinds v_likes v_had v_plots v_row) := by
  obtain ⟨h_v_pageMany, h_v_houses, h_v_nights, h_v_front, h_v_wishesMany, h_v_seenMany, h_v_plots, h_v_row, h_l1, e_0, e_1, e_2, e_3, e_4, e_5, e_6, e_7, e_8, e_9, e_10, e_11⟩ := hI
  unfold fX9_square_76
  refine ok_if (fun c_1 => ?_) (fun c_1 => ?_)
  · exact ok_s ⟨(by clear hm_76 hK_76; grind), h_v_houses, (by clear hm_76 hK_76; grind), (by clear hm_76 hK_76; grind), (by clear hm_76 hK_76; grind), (by clear hm_76 hK_76; grind), h_v_plots, h_v_row, (by clear hm_76 hK_76; grind), (fun _ => sj_id e_4 (by assumption)), (fun _ => ⟨rfl, rfl⟩), (fun _ => e_5), (fun _ => fl_end e_6 (by clear hm_76 hK_76 e_4 e_5 e_6 e_7 e_8 e_9 e_10; grind)), (fun _ => fl_end e_7 (by clear hm_76 hK_76 e_4 e_5 e_6 e_7 e_8 e_9 e_10; grind)), (fun _ => fl_end e_8 (by clear hm_76 hK_76 e_4 e_5 e_6 e_7 e_8 e_9 e_10; grind)), (fun _ => fl_end e_9 (by clear hm_76 hK_76 e_4 e_5 e_6 e_7 e_8 e_9 e_10; grind)), (fun _ => fl_end e_10 (by clear hm_76 hK_76 e_4 e_5 e_6 e_7 e_8 e_9 e_10; grind)), (fun w => absurd e_0 w)⟩
  · refine ok_g (ng32 (by clear hm_76 hK_76; grind)) ?_
    refine ok_b (tX9_kindBy hN ) (fun x_100 hx => ?_)
    have h_x_100_0 := hx
    refine ok_g (ng6 (by clear hm_76 hK_76; grind)) ?_
    refine ok_g (ng32 (by clear hm_76 hK_76; grind)) ?_
    refine ok_g (ng6 (by clear hm_76 hK_76; grind)) ?_
    refine ok_g (ng6 (by clear hm_76 hK_76; grind)) ?_
    refine ok_g (ng6 (by clear hm_76 hK_76; grind)) ?_
    refine ok_g (ng6 (by clear hm_76 hK_76; grind)) ?_
    exact hK_76 _ _ _ _ _ _ _ _ _ _ _ _ _ _ _ ⟨h_v_pageMany, h_v_houses, h_v_nights, h_v_front, h_v_wishesMany, h_v_seenMany, (RA.upd h_v_plots (by clear hm_76 hK_76; grind)), (RA.upd h_v_row (by clear hm_76 hK_76; grind)), (by clear hm_76 hK_76; grind), (by clear hm_76 hK_76; grind), (by clear hm_76 hK_76; grind), (by clear hm_76 hK_76; grind), (by clear hm_76 hK_76; grind), (id_step e_4 (by clear hm_76 hK_76 e_4 e_5 e_6 e_7 e_8 e_9 e_10; grind)), e_5, (fl_step e_6 (by rw [h_x_100_0, (ix3 (l := l1) (by clear hm_76 hK_76 e_4 e_5 e_6 e_7 e_8 e_9 e_10; grind)).2.2.1]) (by clear hm_76 hK_76 e_4 e_5 e_6 e_7 e_8 e_9 e_10; grind)), (fl_step e_7 (by rw [(ix3 (l := l1) (by clear hm_76 hK_76 e_4 e_5 e_6 e_7 e_8 e_9 e_10; grind)).2.2.2]) (by clear hm_76 hK_76 e_4 e_5 e_6 e_7 e_8 e_9 e_10; grind)), (fl_step e_8 rfl (by clear hm_76 hK_76 e_4 e_5 e_6 e_7 e_8 e_9 e_10; grind)), (fl_step e_9 (nI_tn (by clear hm_76 hK_76 e_4 e_5 e_6 e_7 e_8 e_9 e_10; grind)).symm (by clear hm_76 hK_76 e_4 e_5 e_6 e_7 e_8 e_9 e_10; grind)), (fl_step e_10 (nI_tn (by clear hm_76 hK_76 e_4 e_5 e_6 e_7 e_8 e_9 e_10; grind)).symm (by clear hm_76 hK_76 e_4 e_5 e_6 e_7 e_8 e_9 e_10; grind)), (by clear hm_76 hK_76; grind)⟩ (by clear hK_76; grind) (by clear hK_76; grind)
theorem lX9_square_76 {N : Nat} {v_page : (Nat → Int32)} {g_v_pageMany : Int32} {g_v_squaresRead : Int32} {g_v_houses : Int32} {g_v_nights : Int32} {g_v_wishesMany : Int32} {g_v_seenMany : Int32} {g_v_row : (Nat → Int32)} {g_v_worths : (Nat → Int32)} {g_v_kinds : (Nat → Int32)} {g_v_likes : (Nat → Int32)} {g_v_had : (Nat → Int32)} {g_v_plots : (Nat → Int32)} {g_v_front : Int32} {g_v_down : Int32} (hN : 49999 < N) (h_v_page : RA 0 126 v_page)  : ∀ (l1 : Int32) (v_pageMany : Int32) (v_houses : Int32) (v_nights : Int32) (v_squaresRead : Int32) (v_front : Int32) (v_down : Int32) (v_wishesMany : Int32) (v_seenMany : Int32) (v_worths : (Nat → Int32)) (v_kinds : (Nat → Int32)) (v_likes : (Nat → Int32)) (v_had : (Nat → Int32)) (v_plots : (Nat → Int32)) (v_row : (Nat → Int32)), RB 0 32 v_pageMany ∧ RB 0 6 v_houses ∧ RB 0 999 v_nights ∧ RB 0 11 v_front ∧ RB 0 5 v_wishesMany ∧ RB 0 6 v_seenMany ∧ RA (-1) 11 v_plots ∧ RA 0 5 v_row ∧ 0 ≤ l1 ∧ (SQ g_v_pageMany v_page) ∧ (v_houses = (g_v_pageMany - 12) / 3) ∧ (2 ≤ v_houses) ∧ (v_squaresRead = g_v_squaresRead) ∧ (∀ i : Nat, (i : Int) < l1.toInt → v_row i = nI i) ∧ (v_worths = fl 12 (fun k => v_page k - 48) g_v_worths) ∧ (v_kinds = fl l1 (fun k => kc (v_page (13 + 3 * k))) g_v_kinds) ∧ (v_likes = fl l1 (fun k => v_page (14 + 3 * k) - 97) g_v_likes) ∧ (v_had = fl l1 (fun _ => 0) g_v_had) ∧ (v_plots = fl l1 (fun k => nI k) g_v_plots) ∧ (v_row = fl l1 (fun k => nI k) g_v_row) ∧ (l1 ≤ v_houses) → (v_houses - l1) ≤ 49999 → Ok (fun r => RB 0 32 r.2.1 ∧ RB 0 6 r.2.2.1 ∧ RB 0 999 r.2.2.2.1 ∧ RB 0 11 r.2.2.2.2.2.1 ∧ RB 0 5 r.2.2.2.2.2.2.2.1 ∧ RB 0 6 r.2.2.2.2.2.2.2.2.1 ∧ RA (-1) 11 r.2.2.2.2.2.2.2.2.2.2.2.2.2.1 ∧ RA 0 5 r.2.2.2.2.2.2.2.2.2.2.2.2.2.2 ∧ (¬ SQ g_v_pageMany v_page ∧ r.1 = -103 ∧ r.2.1 = g_v_pageMany ∧ r.2.2.2.2.1 = g_v_squaresRead ∧ r.2.2.1 = g_v_houses ∧ r.2.2.2.1 = g_v_nights ∧ r.2.2.2.2.2.2.2.1 = g_v_wishesMany ∧ r.2.2.2.2.2.2.2.2.1 = g_v_seenMany ∨ SQ g_v_pageMany v_page ∧ r.1 = r.2.2.1 ∧ r.2.1 = 0 ∧ r.2.2.2.2.1 = g_v_squaresRead + 1 ∧ r.2.2.1 = (g_v_pageMany - 12) / 3 ∧ 2 ≤ r.2.2.1 ∧ r.2.2.2.1 = 0 ∧ r.2.2.2.2.2.2.2.1 = 0 ∧ r.2.2.2.2.2.2.2.2.1 = 0) ∧ (SJ g_v_houses g_v_row → SJ r.2.2.1 r.2.2.2.2.2.2.2.2.2.2.2.2.2.2) ∧ (SQ g_v_pageMany v_page → r.2.2.2.2.2.1 = r.2.2.1 - 1 ∧ r.2.2.2.2.2.2.1 = 0) ∧ (SQ g_v_pageMany v_page → r.2.2.2.2.2.2.2.2.2.1 = fl 12 (fun k => v_page k - 48) g_v_worths) ∧ (SQ g_v_pageMany v_page → r.2.2.2.2.2.2.2.2.2.2.1 = fl r.2.2.1 (fun k => kc (v_page (13 + 3 * k))) g_v_kinds) ∧ (SQ g_v_pageMany v_page → r.2.2.2.2.2.2.2.2.2.2.2.1 = fl r.2.2.1 (fun k => v_page (14 + 3 * k) - 97) g_v_likes) ∧ (SQ g_v_pageMany v_page → r.2.2.2.2.2.2.2.2.2.2.2.2.1 = fl r.2.2.1 (fun _ => 0) g_v_had) ∧ (SQ g_v_pageMany v_page → r.2.2.2.2.2.2.2.2.2.2.2.2.2.1 = fl r.2.2.1 (fun k => nI k) g_v_plots) ∧ (SQ g_v_pageMany v_page → r.2.2.2.2.2.2.2.2.2.2.2.2.2.2 = fl r.2.2.1 (fun k => nI k) g_v_row) ∧ (¬ SQ g_v_pageMany v_page → r.2.2.2.2.2.1 = g_v_front ∧ r.2.2.2.2.2.2.1 = g_v_down ∧ r.2.2.2.2.2.2.2.2.2.1 = g_v_worths ∧ r.2.2.2.2.2.2.2.2.2.2.1 = g_v_kinds ∧ r.2.2.2.2.2.2.2.2.2.2.2.1 = g_v_likes ∧ r.2.2.2.2.2.2.2.2.2.2.2.2.1 = g_v_had ∧ r.2.2.2.2.2.2.2.2.2.2.2.2.2.1 = g_v_plots ∧ r.2.2.2.2.2.2.2.2.2.2.2.2.2.2 = g_v_row)) (lfix (fun (K : Int32 × Int32 × Int32 × Int32 × Int32 × Int32 × Int32 × Int32 × Int32 × (Nat → Int32) × (Nat → Int32) × (Nat → Int32) × (Nat → Int32) × (Nat → Int32) × (Nat → Int32) → Option (Int32 × Int32 × Int32 × Int32 × Int32 × Int32 × Int32 × Int32 × Int32 × (Nat → Int32) × (Nat → Int32) × (Nat → Int32) × (Nat → Int32) × (Nat → Int32) × (Nat → Int32))) (a : Int32 × Int32 × Int32 × Int32 × Int32 × Int32 × Int32 × Int32 × Int32 × (Nat → Int32) × (Nat → Int32) × (Nat → Int32) × (Nat → Int32) × (Nat → Int32) × (Nat → Int32)) => fX9_square_76 N v_page (fun (l1 : Int32) (v_pageMany : Int32) (v_houses : Int32) (v_nights : Int32) (v_squaresRead : Int32) (v_front : Int32) (v_down : Int32) (v_wishesMany : Int32) (v_seenMany : Int32) (v_worths : (Nat → Int32)) (v_kinds : (Nat → Int32)) (v_likes : (Nat → Int32)) (v_had : (Nat → Int32)) (v_plots : (Nat → Int32)) (v_row : (Nat → Int32)) => K (l1, v_pageMany, v_houses, v_nights, v_squaresRead, v_front, v_down, v_wishesMany, v_seenMany, v_worths, v_kinds, v_likes, v_had, v_plots, v_row)) a.1 a.2.1 a.2.2.1 a.2.2.2.1 a.2.2.2.2.1 a.2.2.2.2.2.1 a.2.2.2.2.2.2.1 a.2.2.2.2.2.2.2.1 a.2.2.2.2.2.2.2.2.1 a.2.2.2.2.2.2.2.2.2.1 a.2.2.2.2.2.2.2.2.2.2.1 a.2.2.2.2.2.2.2.2.2.2.2.1 a.2.2.2.2.2.2.2.2.2.2.2.2.1 a.2.2.2.2.2.2.2.2.2.2.2.2.2.1 a.2.2.2.2.2.2.2.2.2.2.2.2.2.2) N (l1, v_pageMany, v_houses, v_nights, v_squaresRead, v_front, v_down, v_wishesMany, v_seenMany, v_worths, v_kinds, v_likes, v_had, v_plots, v_row)) := by
  intro l1 v_pageMany v_houses v_nights v_squaresRead v_front v_down v_wishesMany v_seenMany v_worths v_kinds v_likes v_had v_plots v_row hI hM
  exact ok_l (I := fun (a : Int32 × Int32 × Int32 × Int32 × Int32 × Int32 × Int32 × Int32 × Int32 × (Nat → Int32) × (Nat → Int32) × (Nat → Int32) × (Nat → Int32) × (Nat → Int32) × (Nat → Int32)) => (RB 0 32 a.2.1 ∧ RB 0 6 a.2.2.1 ∧ RB 0 999 a.2.2.2.1 ∧ RB 0 11 a.2.2.2.2.2.1 ∧ RB 0 5 a.2.2.2.2.2.2.2.1 ∧ RB 0 6 a.2.2.2.2.2.2.2.2.1 ∧ RA (-1) 11 a.2.2.2.2.2.2.2.2.2.2.2.2.2.1 ∧ RA 0 5 a.2.2.2.2.2.2.2.2.2.2.2.2.2.2 ∧ 0 ≤ a.1 ∧ (SQ g_v_pageMany v_page) ∧ (a.2.2.1 = (g_v_pageMany - 12) / 3) ∧ (2 ≤ a.2.2.1) ∧ (a.2.2.2.2.1 = g_v_squaresRead) ∧ (∀ i : Nat, (i : Int) < a.1.toInt → a.2.2.2.2.2.2.2.2.2.2.2.2.2.2 i = nI i) ∧ (a.2.2.2.2.2.2.2.2.2.1 = fl 12 (fun k => v_page k - 48) g_v_worths) ∧ (a.2.2.2.2.2.2.2.2.2.2.1 = fl a.1 (fun k => kc (v_page (13 + 3 * k))) g_v_kinds) ∧ (a.2.2.2.2.2.2.2.2.2.2.2.1 = fl a.1 (fun k => v_page (14 + 3 * k) - 97) g_v_likes) ∧ (a.2.2.2.2.2.2.2.2.2.2.2.2.1 = fl a.1 (fun _ => 0) g_v_had) ∧ (a.2.2.2.2.2.2.2.2.2.2.2.2.2.1 = fl a.1 (fun k => nI k) g_v_plots) ∧ (a.2.2.2.2.2.2.2.2.2.2.2.2.2.2 = fl a.1 (fun k => nI k) g_v_row) ∧ (a.1 ≤ a.2.2.1))) (M := fun (a : Int32 × Int32 × Int32 × Int32 × Int32 × Int32 × Int32 × Int32 × Int32 × (Nat → Int32) × (Nat → Int32) × (Nat → Int32) × (Nat → Int32) × (Nat → Int32) × (Nat → Int32)) => (a.2.2.1 - a.1)) (fun K a hI hK => sX9_square_76 (g_v_pageMany := g_v_pageMany) (g_v_squaresRead := g_v_squaresRead) (g_v_houses := g_v_houses) (g_v_nights := g_v_nights) (g_v_wishesMany := g_v_wishesMany) (g_v_seenMany := g_v_seenMany) (g_v_row := g_v_row) (g_v_worths := g_v_worths) (g_v_kinds := g_v_kinds) (g_v_likes := g_v_likes) (g_v_had := g_v_had) (g_v_plots := g_v_plots) (g_v_front := g_v_front) (g_v_down := g_v_down) hN h_v_page  (fun l1 v_pageMany v_houses v_nights v_squaresRead v_front v_down v_wishesMany v_seenMany v_worths v_kinds v_likes v_had v_plots v_row hI2  hlt hp => hK (l1, v_pageMany, v_houses, v_nights, v_squaresRead, v_front, v_down, v_wishesMany, v_seenMany, v_worths, v_kinds, v_likes, v_had, v_plots, v_row) hI2 hlt hp) hI  rfl) N _ hI hN hM
theorem sX9_square_47 {N : Nat} {v_page : (Nat → Int32)} {K_47 : Int32 → Int32 → Int32 → Int32 → Int32 → Int32 → Int32 → Int32 → Int32 → (Nat → Int32) → (Nat → Int32) → (Nat → Int32) → (Nat → Int32) → (Nat → Int32) → (Nat → Int32) → Option (Int32 × Int32 × Int32 × Int32 × Int32 × Int32 × Int32 × Int32 × Int32 × (Nat → Int32) × (Nat → Int32) × (Nat → Int32) × (Nat → Int32) × (Nat → Int32) × (Nat → Int32))} {l1 : Int32} {v_pageMany : Int32} {v_houses : Int32} {v_nights : Int32} {v_squaresRead : Int32} {v_front : Int32} {v_down : Int32} {v_wishesMany : Int32} {v_seenMany : Int32} {v_worths : (Nat → Int32)} {v_kinds : (Nat → Int32)} {v_likes : (Nat → Int32)} {v_had : (Nat → Int32)} {v_plots : (Nat → Int32)} {v_row : (Nat → Int32)} {g_v_pageMany : Int32} {g_v_squaresRead : Int32} {g_v_houses : Int32} {g_v_nights : Int32} {g_v_wishesMany : Int32} {g_v_seenMany : Int32} {g_v_row : (Nat → Int32)} {g_v_worths : (Nat → Int32)} {g_v_kinds : (Nat → Int32)} {g_v_likes : (Nat → Int32)} {g_v_had : (Nat → Int32)} {g_v_plots : (Nat → Int32)} {g_v_front : Int32} {g_v_down : Int32} {m_47 : Int32} (hN : 49999 < N) (h_v_page : RA 0 126 v_page) (hK_47 : ∀ (l1 : Int32) (v_pageMany : Int32) (v_houses : Int32) (v_nights : Int32) (v_squaresRead : Int32) (v_front : Int32) (v_down : Int32) (v_wishesMany : Int32) (v_seenMany : Int32) (v_worths : (Nat → Int32)) (v_kinds : (Nat → Int32)) (v_likes : (Nat → Int32)) (v_had : (Nat → Int32)) (v_plots : (Nat → Int32)) (v_row : (Nat → Int32)), RB 0 32 v_pageMany ∧ RB 0 6 v_houses ∧ RB 0 999 v_nights ∧ RB 0 11 v_front ∧ RB 0 5 v_wishesMany ∧ RB 0 6 v_seenMany ∧ RA (-1) 11 v_plots ∧ RA 0 5 v_row ∧ 0 ≤ l1 ∧ (SQ g_v_pageMany v_page) ∧ (v_houses = (g_v_pageMany - 12) / 3) ∧ (2 ≤ v_houses) ∧ (v_squaresRead = g_v_squaresRead) ∧ (v_worths = fl l1 (fun k => v_page k - 48) g_v_worths) ∧ (v_kinds = g_v_kinds) ∧ (v_likes = g_v_likes) ∧ (v_had = g_v_had) ∧ (v_plots = g_v_plots) ∧ (v_row = g_v_row) ∧ (l1 ≤ 12) → ((12 : Int32) - l1) < m_47 → 0 < m_47 → Ok (fun r => RB 0 32 r.2.1 ∧ RB 0 6 r.2.2.1 ∧ RB 0 999 r.2.2.2.1 ∧ RB 0 11 r.2.2.2.2.2.1 ∧ RB 0 5 r.2.2.2.2.2.2.2.1 ∧ RB 0 6 r.2.2.2.2.2.2.2.2.1 ∧ RA (-1) 11 r.2.2.2.2.2.2.2.2.2.2.2.2.2.1 ∧ RA 0 5 r.2.2.2.2.2.2.2.2.2.2.2.2.2.2 ∧ (¬ SQ g_v_pageMany v_page ∧ r.1 = -103 ∧ r.2.1 = g_v_pageMany ∧ r.2.2.2.2.1 = g_v_squaresRead ∧ r.2.2.1 = g_v_houses ∧ r.2.2.2.1 = g_v_nights ∧ r.2.2.2.2.2.2.2.1 = g_v_wishesMany ∧ r.2.2.2.2.2.2.2.2.1 = g_v_seenMany ∨ SQ g_v_pageMany v_page ∧ r.1 = r.2.2.1 ∧ r.2.1 = 0 ∧ r.2.2.2.2.1 = g_v_squaresRead + 1 ∧ r.2.2.1 = (g_v_pageMany - 12) / 3 ∧ 2 ≤ r.2.2.1 ∧ r.2.2.2.1 = 0 ∧ r.2.2.2.2.2.2.2.1 = 0 ∧ r.2.2.2.2.2.2.2.2.1 = 0) ∧ (SJ g_v_houses g_v_row → SJ r.2.2.1 r.2.2.2.2.2.2.2.2.2.2.2.2.2.2) ∧ (SQ g_v_pageMany v_page → r.2.2.2.2.2.1 = r.2.2.1 - 1 ∧ r.2.2.2.2.2.2.1 = 0) ∧ (SQ g_v_pageMany v_page → r.2.2.2.2.2.2.2.2.2.1 = fl 12 (fun k => v_page k - 48) g_v_worths) ∧ (SQ g_v_pageMany v_page → r.2.2.2.2.2.2.2.2.2.2.1 = fl r.2.2.1 (fun k => kc (v_page (13 + 3 * k))) g_v_kinds) ∧ (SQ g_v_pageMany v_page → r.2.2.2.2.2.2.2.2.2.2.2.1 = fl r.2.2.1 (fun k => v_page (14 + 3 * k) - 97) g_v_likes) ∧ (SQ g_v_pageMany v_page → r.2.2.2.2.2.2.2.2.2.2.2.2.1 = fl r.2.2.1 (fun _ => 0) g_v_had) ∧ (SQ g_v_pageMany v_page → r.2.2.2.2.2.2.2.2.2.2.2.2.2.1 = fl r.2.2.1 (fun k => nI k) g_v_plots) ∧ (SQ g_v_pageMany v_page → r.2.2.2.2.2.2.2.2.2.2.2.2.2.2 = fl r.2.2.1 (fun k => nI k) g_v_row) ∧ (¬ SQ g_v_pageMany v_page → r.2.2.2.2.2.1 = g_v_front ∧ r.2.2.2.2.2.2.1 = g_v_down ∧ r.2.2.2.2.2.2.2.2.2.1 = g_v_worths ∧ r.2.2.2.2.2.2.2.2.2.2.1 = g_v_kinds ∧ r.2.2.2.2.2.2.2.2.2.2.2.1 = g_v_likes ∧ r.2.2.2.2.2.2.2.2.2.2.2.2.1 = g_v_had ∧ r.2.2.2.2.2.2.2.2.2.2.2.2.2.1 = g_v_plots ∧ r.2.2.2.2.2.2.2.2.2.2.2.2.2.2 = g_v_row)) (K_47 l1 v_pageMany v_houses v_nights v_squaresRead v_front v_down v_wishesMany v_seenMany v_worths v_kinds v_likes v_had v_plots v_row)) (hI : RB 0 32 v_pageMany ∧ RB 0 6 v_houses ∧ RB 0 999 v_nights ∧ RB 0 11 v_front ∧ RB 0 5 v_wishesMany ∧ RB 0 6 v_seenMany ∧ RA (-1) 11 v_plots ∧ RA 0 5 v_row ∧ 0 ≤ l1 ∧ (SQ g_v_pageMany v_page) ∧ (v_houses = (g_v_pageMany - 12) / 3) ∧ (2 ≤ v_houses) ∧ (v_squaresRead = g_v_squaresRead) ∧ (v_worths = fl l1 (fun k => v_page k - 48) g_v_worths) ∧ (v_kinds = g_v_kinds) ∧ (v_likes = g_v_likes) ∧ (v_had = g_v_had) ∧ (v_plots = g_v_plots) ∧ (v_row = g_v_row) ∧ (l1 ≤ 12)) (hm_47 : ((12 : Int32) - l1) = m_47) : Ok (fun r => RB 0 32 r.2.1 ∧ RB 0 6 r.2.2.1 ∧ RB 0 999 r.2.2.2.1 ∧ RB 0 11 r.2.2.2.2.2.1 ∧ RB 0 5 r.2.2.2.2.2.2.2.1 ∧ RB 0 6 r.2.2.2.2.2.2.2.2.1 ∧ RA (-1) 11 r.2.2.2.2.2.2.2.2.2.2.2.2.2.1 ∧ RA 0 5 r.2.2.2.2.2.2.2.2.2.2.2.2.2.2 ∧ (¬ SQ g_v_pageMany v_page ∧ r.1 = -103 ∧ r.2.1 = g_v_pageMany ∧ r.2.2.2.2.1 = g_v_squaresRead ∧ r.2.2.1 = g_v_houses ∧ r.2.2.2.1 = g_v_nights ∧ r.2.2.2.2.2.2.2.1 = g_v_wishesMany ∧ r.2.2.2.2.2.2.2.2.1 = g_v_seenMany ∨ SQ g_v_pageMany v_page ∧ r.1 = r.2.2.1 ∧ r.2.1 = 0 ∧ r.2.2.2.2.1 = g_v_squaresRead + 1 ∧ r.2.2.1 = (g_v_pageMany - 12) / 3 ∧ 2 ≤ r.2.2.1 ∧ r.2.2.2.1 = 0 ∧ r.2.2.2.2.2.2.2.1 = 0 ∧ r.2.2.2.2.2.2.2.2.1 = 0) ∧ (SJ g_v_houses g_v_row → SJ r.2.2.1 r.2.2.2.2.2.2.2.2.2.2.2.2.2.2) ∧ (SQ g_v_pageMany v_page → r.2.2.2.2.2.1 = r.2.2.1 - 1 ∧ r.2.2.2.2.2.2.1 = 0) ∧ (SQ g_v_pageMany v_page → r.2.2.2.2.2.2.2.2.2.1 = fl 12 (fun k => v_page k - 48) g_v_worths) ∧ (SQ g_v_pageMany v_page → r.2.2.2.2.2.2.2.2.2.2.1 = fl r.2.2.1 (fun k => kc (v_page (13 + 3 * k))) g_v_kinds) ∧ (SQ g_v_pageMany v_page → r.2.2.2.2.2.2.2.2.2.2.2.1 = fl r.2.2.1 (fun k => v_page (14 + 3 * k) - 97) g_v_likes) ∧ (SQ g_v_pageMany v_page → r.2.2.2.2.2.2.2.2.2.2.2.2.1 = fl r.2.2.1 (fun _ => 0) g_v_had) ∧ (SQ g_v_pageMany v_page → r.2.2.2.2.2.2.2.2.2.2.2.2.2.1 = fl r.2.2.1 (fun k => nI k) g_v_plots) ∧ (SQ g_v_pageMany v_page → r.2.2.2.2.2.2.2.2.2.2.2.2.2.2 = fl r.2.2.1 (fun k => nI k) g_v_row) ∧ (¬ SQ g_v_pageMany v_page → r.2.2.2.2.2.1 = g_v_front ∧ r.2.2.2.2.2.2.1 = g_v_down ∧ r.2.2.2.2.2.2.2.2.2.1 = g_v_worths ∧ r.2.2.2.2.2.2.2.2.2.2.1 = g_v_kinds ∧ r.2.2.2.2.2.2.2.2.2.2.2.1 = g_v_likes ∧ r.2.2.2.2.2.2.2.2.2.2.2.2.1 = g_v_had ∧ r.2.2.2.2.2.2.2.2.2.2.2.2.2.1 = g_v_plots ∧ r.2.2.2.2.2.2.2.2.2.2.2.2.2.2 = g_v_row)) (fX9_square_47 N v_page K_47 l1 v_pageMany v_houses v_nights v_squaresRead v_front v_down v_wishesMany v_seenMany v_worths v_kinds v_likes v_had v_plots v_row) := by
  obtain ⟨h_v_pageMany, h_v_houses, h_v_nights, h_v_front, h_v_wishesMany, h_v_seenMany, h_v_plots, h_v_row, h_l1, e_0, e_1, e_2, e_3, e_4, e_5, e_6, e_7, e_8, e_9, e_10⟩ := hI
  unfold fX9_square_47
  refine ok_if (fun c_1 => ?_) (fun c_1 => ?_)
  · exact lX9_square_76 (g_v_pageMany := g_v_pageMany) (g_v_squaresRead := g_v_squaresRead) (g_v_houses := g_v_houses) (g_v_nights := g_v_nights) (g_v_wishesMany := g_v_wishesMany) (g_v_seenMany := g_v_seenMany) (g_v_row := g_v_row) (g_v_worths := g_v_worths) (g_v_kinds := g_v_kinds) (g_v_likes := g_v_likes) (g_v_had := g_v_had) (g_v_plots := g_v_plots) (g_v_front := g_v_front) (g_v_down := g_v_down) hN h_v_page  _ _ _ _ _ _ _ _ _ _ _ _ _ _ _ ⟨h_v_pageMany, h_v_houses, h_v_nights, h_v_front, h_v_wishesMany, h_v_seenMany, h_v_plots, h_v_row, (by clear hm_47 hK_47; grind), (by clear hm_47 hK_47; grind), (by clear hm_47 hK_47; grind), (by clear hm_47 hK_47; grind), (by clear hm_47 hK_47; grind), (fun i hi => absurd hi (by have : (0 : Int32).toInt = 0 := rfl; omega)), (fl_end e_4 (by clear hm_47 hK_47 e_4; grind)), (e_5.trans (fl_0 _ _)), (e_6.trans (fl_0 _ _)), (e_7.trans (fl_0 _ _)), (e_8.trans (fl_0 _ _)), (e_9.trans (fl_0 _ _)), (by clear hm_47 hK_47; grind)⟩  (by clear hm_47 hK_47; grind)
  · refine ok_g (ng32 (by clear hm_47 hK_47; grind)) ?_
    refine ok_g (ng12 (by clear hm_47 hK_47; grind)) ?_
    exact hK_47 _ _ _ _ _ _ _ _ _ _ _ _ _ _ _ ⟨h_v_pageMany, h_v_houses, h_v_nights, h_v_front, h_v_wishesMany, h_v_seenMany, h_v_plots, h_v_row, (by clear hm_47 hK_47; grind), (by clear hm_47 hK_47; grind), (by clear hm_47 hK_47; grind), (by clear hm_47 hK_47; grind), (by clear hm_47 hK_47; grind), (fl_step e_4 rfl (by clear hm_47 hK_47 e_4; grind)), (by clear hm_47 hK_47; grind), (by clear hm_47 hK_47; grind), (by clear hm_47 hK_47; grind), (by clear hm_47 hK_47; grind), (by clear hm_47 hK_47; grind), (by clear hm_47 hK_47; grind)⟩ (by clear hK_47; grind) (by clear hK_47; grind)
theorem lX9_square_47 {N : Nat} {v_page : (Nat → Int32)} {g_v_pageMany : Int32} {g_v_squaresRead : Int32} {g_v_houses : Int32} {g_v_nights : Int32} {g_v_wishesMany : Int32} {g_v_seenMany : Int32} {g_v_row : (Nat → Int32)} {g_v_worths : (Nat → Int32)} {g_v_kinds : (Nat → Int32)} {g_v_likes : (Nat → Int32)} {g_v_had : (Nat → Int32)} {g_v_plots : (Nat → Int32)} {g_v_front : Int32} {g_v_down : Int32} (hN : 49999 < N) (h_v_page : RA 0 126 v_page)  : ∀ (l1 : Int32) (v_pageMany : Int32) (v_houses : Int32) (v_nights : Int32) (v_squaresRead : Int32) (v_front : Int32) (v_down : Int32) (v_wishesMany : Int32) (v_seenMany : Int32) (v_worths : (Nat → Int32)) (v_kinds : (Nat → Int32)) (v_likes : (Nat → Int32)) (v_had : (Nat → Int32)) (v_plots : (Nat → Int32)) (v_row : (Nat → Int32)), RB 0 32 v_pageMany ∧ RB 0 6 v_houses ∧ RB 0 999 v_nights ∧ RB 0 11 v_front ∧ RB 0 5 v_wishesMany ∧ RB 0 6 v_seenMany ∧ RA (-1) 11 v_plots ∧ RA 0 5 v_row ∧ 0 ≤ l1 ∧ (SQ g_v_pageMany v_page) ∧ (v_houses = (g_v_pageMany - 12) / 3) ∧ (2 ≤ v_houses) ∧ (v_squaresRead = g_v_squaresRead) ∧ (v_worths = fl l1 (fun k => v_page k - 48) g_v_worths) ∧ (v_kinds = g_v_kinds) ∧ (v_likes = g_v_likes) ∧ (v_had = g_v_had) ∧ (v_plots = g_v_plots) ∧ (v_row = g_v_row) ∧ (l1 ≤ 12) → ((12 : Int32) - l1) ≤ 49999 → Ok (fun r => RB 0 32 r.2.1 ∧ RB 0 6 r.2.2.1 ∧ RB 0 999 r.2.2.2.1 ∧ RB 0 11 r.2.2.2.2.2.1 ∧ RB 0 5 r.2.2.2.2.2.2.2.1 ∧ RB 0 6 r.2.2.2.2.2.2.2.2.1 ∧ RA (-1) 11 r.2.2.2.2.2.2.2.2.2.2.2.2.2.1 ∧ RA 0 5 r.2.2.2.2.2.2.2.2.2.2.2.2.2.2 ∧ (¬ SQ g_v_pageMany v_page ∧ r.1 = -103 ∧ r.2.1 = g_v_pageMany ∧ r.2.2.2.2.1 = g_v_squaresRead ∧ r.2.2.1 = g_v_houses ∧ r.2.2.2.1 = g_v_nights ∧ r.2.2.2.2.2.2.2.1 = g_v_wishesMany ∧ r.2.2.2.2.2.2.2.2.1 = g_v_seenMany ∨ SQ g_v_pageMany v_page ∧ r.1 = r.2.2.1 ∧ r.2.1 = 0 ∧ r.2.2.2.2.1 = g_v_squaresRead + 1 ∧ r.2.2.1 = (g_v_pageMany - 12) / 3 ∧ 2 ≤ r.2.2.1 ∧ r.2.2.2.1 = 0 ∧ r.2.2.2.2.2.2.2.1 = 0 ∧ r.2.2.2.2.2.2.2.2.1 = 0) ∧ (SJ g_v_houses g_v_row → SJ r.2.2.1 r.2.2.2.2.2.2.2.2.2.2.2.2.2.2) ∧ (SQ g_v_pageMany v_page → r.2.2.2.2.2.1 = r.2.2.1 - 1 ∧ r.2.2.2.2.2.2.1 = 0) ∧ (SQ g_v_pageMany v_page → r.2.2.2.2.2.2.2.2.2.1 = fl 12 (fun k => v_page k - 48) g_v_worths) ∧ (SQ g_v_pageMany v_page → r.2.2.2.2.2.2.2.2.2.2.1 = fl r.2.2.1 (fun k => kc (v_page (13 + 3 * k))) g_v_kinds) ∧ (SQ g_v_pageMany v_page → r.2.2.2.2.2.2.2.2.2.2.2.1 = fl r.2.2.1 (fun k => v_page (14 + 3 * k) - 97) g_v_likes) ∧ (SQ g_v_pageMany v_page → r.2.2.2.2.2.2.2.2.2.2.2.2.1 = fl r.2.2.1 (fun _ => 0) g_v_had) ∧ (SQ g_v_pageMany v_page → r.2.2.2.2.2.2.2.2.2.2.2.2.2.1 = fl r.2.2.1 (fun k => nI k) g_v_plots) ∧ (SQ g_v_pageMany v_page → r.2.2.2.2.2.2.2.2.2.2.2.2.2.2 = fl r.2.2.1 (fun k => nI k) g_v_row) ∧ (¬ SQ g_v_pageMany v_page → r.2.2.2.2.2.1 = g_v_front ∧ r.2.2.2.2.2.2.1 = g_v_down ∧ r.2.2.2.2.2.2.2.2.2.1 = g_v_worths ∧ r.2.2.2.2.2.2.2.2.2.2.1 = g_v_kinds ∧ r.2.2.2.2.2.2.2.2.2.2.2.1 = g_v_likes ∧ r.2.2.2.2.2.2.2.2.2.2.2.2.1 = g_v_had ∧ r.2.2.2.2.2.2.2.2.2.2.2.2.2.1 = g_v_plots ∧ r.2.2.2.2.2.2.2.2.2.2.2.2.2.2 = g_v_row)) (lfix (fun (K : Int32 × Int32 × Int32 × Int32 × Int32 × Int32 × Int32 × Int32 × Int32 × (Nat → Int32) × (Nat → Int32) × (Nat → Int32) × (Nat → Int32) × (Nat → Int32) × (Nat → Int32) → Option (Int32 × Int32 × Int32 × Int32 × Int32 × Int32 × Int32 × Int32 × Int32 × (Nat → Int32) × (Nat → Int32) × (Nat → Int32) × (Nat → Int32) × (Nat → Int32) × (Nat → Int32))) (a : Int32 × Int32 × Int32 × Int32 × Int32 × Int32 × Int32 × Int32 × Int32 × (Nat → Int32) × (Nat → Int32) × (Nat → Int32) × (Nat → Int32) × (Nat → Int32) × (Nat → Int32)) => fX9_square_47 N v_page (fun (l1 : Int32) (v_pageMany : Int32) (v_houses : Int32) (v_nights : Int32) (v_squaresRead : Int32) (v_front : Int32) (v_down : Int32) (v_wishesMany : Int32) (v_seenMany : Int32) (v_worths : (Nat → Int32)) (v_kinds : (Nat → Int32)) (v_likes : (Nat → Int32)) (v_had : (Nat → Int32)) (v_plots : (Nat → Int32)) (v_row : (Nat → Int32)) => K (l1, v_pageMany, v_houses, v_nights, v_squaresRead, v_front, v_down, v_wishesMany, v_seenMany, v_worths, v_kinds, v_likes, v_had, v_plots, v_row)) a.1 a.2.1 a.2.2.1 a.2.2.2.1 a.2.2.2.2.1 a.2.2.2.2.2.1 a.2.2.2.2.2.2.1 a.2.2.2.2.2.2.2.1 a.2.2.2.2.2.2.2.2.1 a.2.2.2.2.2.2.2.2.2.1 a.2.2.2.2.2.2.2.2.2.2.1 a.2.2.2.2.2.2.2.2.2.2.2.1 a.2.2.2.2.2.2.2.2.2.2.2.2.1 a.2.2.2.2.2.2.2.2.2.2.2.2.2.1 a.2.2.2.2.2.2.2.2.2.2.2.2.2.2) N (l1, v_pageMany, v_houses, v_nights, v_squaresRead, v_front, v_down, v_wishesMany, v_seenMany, v_worths, v_kinds, v_likes, v_had, v_plots, v_row)) := by
  intro l1 v_pageMany v_houses v_nights v_squaresRead v_front v_down v_wishesMany v_seenMany v_worths v_kinds v_likes v_had v_plots v_row hI hM
  exact ok_l (I := fun (a : Int32 × Int32 × Int32 × Int32 × Int32 × Int32 × Int32 × Int32 × Int32 × (Nat → Int32) × (Nat → Int32) × (Nat → Int32) × (Nat → Int32) × (Nat → Int32) × (Nat → Int32)) => (RB 0 32 a.2.1 ∧ RB 0 6 a.2.2.1 ∧ RB 0 999 a.2.2.2.1 ∧ RB 0 11 a.2.2.2.2.2.1 ∧ RB 0 5 a.2.2.2.2.2.2.2.1 ∧ RB 0 6 a.2.2.2.2.2.2.2.2.1 ∧ RA (-1) 11 a.2.2.2.2.2.2.2.2.2.2.2.2.2.1 ∧ RA 0 5 a.2.2.2.2.2.2.2.2.2.2.2.2.2.2 ∧ 0 ≤ a.1 ∧ (SQ g_v_pageMany v_page) ∧ (a.2.2.1 = (g_v_pageMany - 12) / 3) ∧ (2 ≤ a.2.2.1) ∧ (a.2.2.2.2.1 = g_v_squaresRead) ∧ (a.2.2.2.2.2.2.2.2.2.1 = fl a.1 (fun k => v_page k - 48) g_v_worths) ∧ (a.2.2.2.2.2.2.2.2.2.2.1 = g_v_kinds) ∧ (a.2.2.2.2.2.2.2.2.2.2.2.1 = g_v_likes) ∧ (a.2.2.2.2.2.2.2.2.2.2.2.2.1 = g_v_had) ∧ (a.2.2.2.2.2.2.2.2.2.2.2.2.2.1 = g_v_plots) ∧ (a.2.2.2.2.2.2.2.2.2.2.2.2.2.2 = g_v_row) ∧ (a.1 ≤ 12))) (M := fun (a : Int32 × Int32 × Int32 × Int32 × Int32 × Int32 × Int32 × Int32 × Int32 × (Nat → Int32) × (Nat → Int32) × (Nat → Int32) × (Nat → Int32) × (Nat → Int32) × (Nat → Int32)) => ((12 : Int32) - a.1)) (fun K a hI hK => sX9_square_47 (g_v_pageMany := g_v_pageMany) (g_v_squaresRead := g_v_squaresRead) (g_v_houses := g_v_houses) (g_v_nights := g_v_nights) (g_v_wishesMany := g_v_wishesMany) (g_v_seenMany := g_v_seenMany) (g_v_row := g_v_row) (g_v_worths := g_v_worths) (g_v_kinds := g_v_kinds) (g_v_likes := g_v_likes) (g_v_had := g_v_had) (g_v_plots := g_v_plots) (g_v_front := g_v_front) (g_v_down := g_v_down) hN h_v_page  (fun l1 v_pageMany v_houses v_nights v_squaresRead v_front v_down v_wishesMany v_seenMany v_worths v_kinds v_likes v_had v_plots v_row hI2  hlt hp => hK (l1, v_pageMany, v_houses, v_nights, v_squaresRead, v_front, v_down, v_wishesMany, v_seenMany, v_worths, v_kinds, v_likes, v_had, v_plots, v_row) hI2 hlt hp) hI  rfl) N _ hI hN hM
theorem tX9_square {N : Nat} {v_page : (Nat → Int32)} {v_pageMany : Int32} {v_houses : Int32} {v_nights : Int32} {v_squaresRead : Int32} {v_front : Int32} {v_down : Int32} {v_wishesMany : Int32} {v_seenMany : Int32} {v_worths : (Nat → Int32)} {v_kinds : (Nat → Int32)} {v_likes : (Nat → Int32)} {v_had : (Nat → Int32)} {v_plots : (Nat → Int32)} {v_row : (Nat → Int32)}  (hN : 49999 < N) (h_v_page : RA 0 126 v_page) (h_v_pageMany : RB 0 32 v_pageMany) (h_v_houses : RB 0 6 v_houses) (h_v_nights : RB 0 999 v_nights) (h_v_front : RB 0 11 v_front) (h_v_wishesMany : RB 0 5 v_wishesMany) (h_v_seenMany : RB 0 6 v_seenMany) (h_v_plots : RA (-1) 11 v_plots) (h_v_row : RA 0 5 v_row)  : Ok (fun r => RB 0 32 r.2.1 ∧ RB 0 6 r.2.2.1 ∧ RB 0 999 r.2.2.2.1 ∧ RB 0 11 r.2.2.2.2.2.1 ∧ RB 0 5 r.2.2.2.2.2.2.2.1 ∧ RB 0 6 r.2.2.2.2.2.2.2.2.1 ∧ RA (-1) 11 r.2.2.2.2.2.2.2.2.2.2.2.2.2.1 ∧ RA 0 5 r.2.2.2.2.2.2.2.2.2.2.2.2.2.2 ∧ (¬ SQ v_pageMany v_page ∧ r.1 = -103 ∧ r.2.1 = v_pageMany ∧ r.2.2.2.2.1 = v_squaresRead ∧ r.2.2.1 = v_houses ∧ r.2.2.2.1 = v_nights ∧ r.2.2.2.2.2.2.2.1 = v_wishesMany ∧ r.2.2.2.2.2.2.2.2.1 = v_seenMany ∨ SQ v_pageMany v_page ∧ r.1 = r.2.2.1 ∧ r.2.1 = 0 ∧ r.2.2.2.2.1 = v_squaresRead + 1 ∧ r.2.2.1 = (v_pageMany - 12) / 3 ∧ 2 ≤ r.2.2.1 ∧ r.2.2.2.1 = 0 ∧ r.2.2.2.2.2.2.2.1 = 0 ∧ r.2.2.2.2.2.2.2.2.1 = 0) ∧ (SJ v_houses v_row → SJ r.2.2.1 r.2.2.2.2.2.2.2.2.2.2.2.2.2.2) ∧ (SQ v_pageMany v_page → r.2.2.2.2.2.1 = r.2.2.1 - 1 ∧ r.2.2.2.2.2.2.1 = 0) ∧ (SQ v_pageMany v_page → r.2.2.2.2.2.2.2.2.2.1 = fl 12 (fun k => v_page k - 48) v_worths) ∧ (SQ v_pageMany v_page → r.2.2.2.2.2.2.2.2.2.2.1 = fl r.2.2.1 (fun k => kc (v_page (13 + 3 * k))) v_kinds) ∧ (SQ v_pageMany v_page → r.2.2.2.2.2.2.2.2.2.2.2.1 = fl r.2.2.1 (fun k => v_page (14 + 3 * k) - 97) v_likes) ∧ (SQ v_pageMany v_page → r.2.2.2.2.2.2.2.2.2.2.2.2.1 = fl r.2.2.1 (fun _ => 0) v_had) ∧ (SQ v_pageMany v_page → r.2.2.2.2.2.2.2.2.2.2.2.2.2.1 = fl r.2.2.1 (fun k => nI k) v_plots) ∧ (SQ v_pageMany v_page → r.2.2.2.2.2.2.2.2.2.2.2.2.2.2 = fl r.2.2.1 (fun k => nI k) v_row) ∧ (¬ SQ v_pageMany v_page → r.2.2.2.2.2.1 = v_front ∧ r.2.2.2.2.2.2.1 = v_down ∧ r.2.2.2.2.2.2.2.2.2.1 = v_worths ∧ r.2.2.2.2.2.2.2.2.2.2.1 = v_kinds ∧ r.2.2.2.2.2.2.2.2.2.2.2.1 = v_likes ∧ r.2.2.2.2.2.2.2.2.2.2.2.2.1 = v_had ∧ r.2.2.2.2.2.2.2.2.2.2.2.2.2.1 = v_plots ∧ r.2.2.2.2.2.2.2.2.2.2.2.2.2.2 = v_row)) (fX9_square N v_page v_pageMany v_houses v_nights v_squaresRead v_front v_down v_wishesMany v_seenMany v_worths v_kinds v_likes v_had v_plots v_row) := by
  unfold fX9_square
  refine ok_if (fun c_1 => ?_) (fun c_1 => ?_)
  · exact ok_s ⟨h_v_pageMany, h_v_houses, h_v_nights, h_v_front, h_v_wishesMany, h_v_seenMany, h_v_plots, h_v_row, (by have q : ¬ SQ v_pageMany v_page := (by first | exact sqr_no1 c_1 | exact sqr_no2 h_v_pageMany c_1 c_2 | exact sqr_no3 h_x_19_0 c_3); grind), (fun q => q), (fun w => absurd w (by first | exact sqr_no1 c_1 | exact sqr_no2 h_v_pageMany c_1 c_2 | exact sqr_no3 h_x_19_0 c_3)), (fun w => absurd w (by first | exact sqr_no1 c_1 | exact sqr_no2 h_v_pageMany c_1 c_2 | exact sqr_no3 h_x_19_0 c_3)), (fun w => absurd w (by first | exact sqr_no1 c_1 | exact sqr_no2 h_v_pageMany c_1 c_2 | exact sqr_no3 h_x_19_0 c_3)), (fun w => absurd w (by first | exact sqr_no1 c_1 | exact sqr_no2 h_v_pageMany c_1 c_2 | exact sqr_no3 h_x_19_0 c_3)), (fun w => absurd w (by first | exact sqr_no1 c_1 | exact sqr_no2 h_v_pageMany c_1 c_2 | exact sqr_no3 h_x_19_0 c_3)), (fun w => absurd w (by first | exact sqr_no1 c_1 | exact sqr_no2 h_v_pageMany c_1 c_2 | exact sqr_no3 h_x_19_0 c_3)), (fun w => absurd w (by first | exact sqr_no1 c_1 | exact sqr_no2 h_v_pageMany c_1 c_2 | exact sqr_no3 h_x_19_0 c_3)), (fun _ => ⟨rfl, rfl, rfl, rfl, rfl, rfl, rfl, rfl⟩)⟩
  · refine ok_if (fun c_2 => ?_) (fun c_2 => ?_)
    · refine ok_b (tX9_faultOf hN h_v_pageMany h_v_page) (fun x_19 hx => ?_)
      have h_x_19_0 := hx
      refine ok_if (fun c_3 => ?_) (fun c_3 => ?_)
      · exact lX9_square_47 (g_v_pageMany := v_pageMany) (g_v_squaresRead := v_squaresRead) (g_v_houses := v_houses) (g_v_nights := v_nights) (g_v_wishesMany := v_wishesMany) (g_v_seenMany := v_seenMany) (g_v_row := v_row) (g_v_worths := v_worths) (g_v_kinds := v_kinds) (g_v_likes := v_likes) (g_v_had := v_had) (g_v_plots := v_plots) (g_v_front := v_front) (g_v_down := v_down) hN h_v_page  _ _ _ _ _ _ _ _ _ _ _ _ _ _ _ ⟨h_v_pageMany, (by have := (fun q => dv_h h_v_pageMany q : 18 ≤ v_pageMany → _); grind), h_v_nights, h_v_front, h_v_wishesMany, h_v_seenMany, h_v_plots, h_v_row, (by have := (fun q => dv_h h_v_pageMany q : 18 ≤ v_pageMany → _); grind), (sqr_yes h_v_pageMany c_1 c_2 h_x_19_0 c_3), (by have := (fun q => dv_h h_v_pageMany q : 18 ≤ v_pageMany → _); grind), (by have := (fun q => dv_h h_v_pageMany q : 18 ≤ v_pageMany → _); grind), (by have := (fun q => dv_h h_v_pageMany q : 18 ≤ v_pageMany → _); grind), (fl_0 _ _), (by have := (fun q => dv_h h_v_pageMany q : 18 ≤ v_pageMany → _); grind), (by have := (fun q => dv_h h_v_pageMany q : 18 ≤ v_pageMany → _); grind), (by have := (fun q => dv_h h_v_pageMany q : 18 ≤ v_pageMany → _); grind), (by have := (fun q => dv_h h_v_pageMany q : 18 ≤ v_pageMany → _); grind), (by have := (fun q => dv_h h_v_pageMany q : 18 ≤ v_pageMany → _); grind), (by have := (fun q => dv_h h_v_pageMany q : 18 ≤ v_pageMany → _); grind)⟩  (by have := (fun q => dv_h h_v_pageMany q : 18 ≤ v_pageMany → _); grind)
      · exact ok_s ⟨h_v_pageMany, h_v_houses, h_v_nights, h_v_front, h_v_wishesMany, h_v_seenMany, h_v_plots, h_v_row, (by have q : ¬ SQ v_pageMany v_page := (by first | exact sqr_no1 c_1 | exact sqr_no2 h_v_pageMany c_1 c_2 | exact sqr_no3 h_x_19_0 c_3); grind), (fun q => q), (fun w => absurd w (by first | exact sqr_no1 c_1 | exact sqr_no2 h_v_pageMany c_1 c_2 | exact sqr_no3 h_x_19_0 c_3)), (fun w => absurd w (by first | exact sqr_no1 c_1 | exact sqr_no2 h_v_pageMany c_1 c_2 | exact sqr_no3 h_x_19_0 c_3)), (fun w => absurd w (by first | exact sqr_no1 c_1 | exact sqr_no2 h_v_pageMany c_1 c_2 | exact sqr_no3 h_x_19_0 c_3)), (fun w => absurd w (by first | exact sqr_no1 c_1 | exact sqr_no2 h_v_pageMany c_1 c_2 | exact sqr_no3 h_x_19_0 c_3)), (fun w => absurd w (by first | exact sqr_no1 c_1 | exact sqr_no2 h_v_pageMany c_1 c_2 | exact sqr_no3 h_x_19_0 c_3)), (fun w => absurd w (by first | exact sqr_no1 c_1 | exact sqr_no2 h_v_pageMany c_1 c_2 | exact sqr_no3 h_x_19_0 c_3)), (fun w => absurd w (by first | exact sqr_no1 c_1 | exact sqr_no2 h_v_pageMany c_1 c_2 | exact sqr_no3 h_x_19_0 c_3)), (fun _ => ⟨rfl, rfl, rfl, rfl, rfl, rfl, rfl, rfl⟩)⟩
    · exact ok_s ⟨h_v_pageMany, h_v_houses, h_v_nights, h_v_front, h_v_wishesMany, h_v_seenMany, h_v_plots, h_v_row, (by have q : ¬ SQ v_pageMany v_page := (by first | exact sqr_no1 c_1 | exact sqr_no2 h_v_pageMany c_1 c_2 | exact sqr_no3 h_x_19_0 c_3); grind), (fun q => q), (fun w => absurd w (by first | exact sqr_no1 c_1 | exact sqr_no2 h_v_pageMany c_1 c_2 | exact sqr_no3 h_x_19_0 c_3)), (fun w => absurd w (by first | exact sqr_no1 c_1 | exact sqr_no2 h_v_pageMany c_1 c_2 | exact sqr_no3 h_x_19_0 c_3)), (fun w => absurd w (by first | exact sqr_no1 c_1 | exact sqr_no2 h_v_pageMany c_1 c_2 | exact sqr_no3 h_x_19_0 c_3)), (fun w => absurd w (by first | exact sqr_no1 c_1 | exact sqr_no2 h_v_pageMany c_1 c_2 | exact sqr_no3 h_x_19_0 c_3)), (fun w => absurd w (by first | exact sqr_no1 c_1 | exact sqr_no2 h_v_pageMany c_1 c_2 | exact sqr_no3 h_x_19_0 c_3)), (fun w => absurd w (by first | exact sqr_no1 c_1 | exact sqr_no2 h_v_pageMany c_1 c_2 | exact sqr_no3 h_x_19_0 c_3)), (fun w => absurd w (by first | exact sqr_no1 c_1 | exact sqr_no2 h_v_pageMany c_1 c_2 | exact sqr_no3 h_x_19_0 c_3)), (fun _ => ⟨rfl, rfl, rfl, rfl, rfl, rfl, rfl, rfl⟩)⟩
theorem tX9_lacks {N : Nat} {v_houses : Int32}  (hN : 49999 < N) (h_v_houses : RB 0 6 v_houses)  : Ok (fun r => (r = 0 ∧ ¬(v_houses = 0) ∨ r = 1 ∧ v_houses = 0)) (fX9_lacks N v_houses) := by
  unfold fX9_lacks
  refine ok_if (fun c_1 => ?_) (fun c_1 => ?_)
  · exact ok_s (by grind)
  · exact ok_s (by grind)
theorem tX9_isHouse {N : Nat} {v_houses : Int32} {a1 : Int32}  (hN : 49999 < N) (h_v_houses : RB 0 6 v_houses)  : Ok (fun r => (r = 0 ∧ ¬(0 ≤ a1 ∧ a1 < v_houses) ∨ r = 1 ∧ 0 ≤ a1 ∧ a1 < v_houses)) (fX9_isHouse N v_houses a1) := by
  unfold fX9_isHouse
  refine ok_b (in_ok (a := (a1)) (lo := (0 : Int32)) (hi := ((v_houses - (1 : Int32)))) rfl rfl) (fun x_10 hx => ?_)
  have h_x_10 := hx
  refine ok_g (by grind) ?_
  exact ok_s (by grind)
theorem tX9_areTwo {N : Nat} {v_houses : Int32} {a1 : Int32} {a2 : Int32}  (hN : 49999 < N) (h_v_houses : RB 0 6 v_houses)  : Ok (fun r => (r = 0 ∧ ¬(0 ≤ a1 ∧ a1 < v_houses ∧ 0 ≤ a2 ∧ a2 < v_houses ∧ a1 ≠ a2) ∨ r = 1 ∧ 0 ≤ a1 ∧ a1 < v_houses ∧ 0 ≤ a2 ∧ a2 < v_houses ∧ a1 ≠ a2)) (fX9_areTwo N v_houses a1 a2) := by
  unfold fX9_areTwo
  refine ok_b (tX9_isHouse hN h_v_houses) (fun x_2 hx => ?_)
  have h_x_2_0 := hx
  refine ok_if (fun c_1 => ?_) (fun c_1 => ?_)
  · exact ok_s (by grind)
  · refine ok_b (tX9_isHouse hN h_v_houses) (fun x_10 hx => ?_)
    have h_x_10_0 := hx
    refine ok_if (fun c_2 => ?_) (fun c_2 => ?_)
    · exact ok_s (by grind)
    · refine ok_if (fun c_3 => ?_) (fun c_3 => ?_)
      · exact ok_s (by grind)
      · exact ok_s (by grind)
theorem tX9_isPlot {N : Nat} {a0 : Int32}  (hN : 49999 < N)   : Ok (fun r => (r = 0 ∧ ¬(0 ≤ a0 ∧ a0 < 12) ∨ r = 1 ∧ 0 ≤ a0 ∧ a0 < 12)) (fX9_isPlot N a0) := by
  unfold fX9_isPlot
  refine ok_b (in_ok (a := (a0)) (lo := (0 : Int32)) (hi := (11 : Int32)) rfl rfl) (fun x_6 hx => ?_)
  have h_x_6 := hx
  refine ok_g (by grind) ?_
  exact ok_s (by grind)
theorem tX9_begin {N : Nat} {v_front : Int32} {v_down : Int32} {v_plots : (Nat → Int32)} {v_row : (Nat → Int32)} {v_frontThen : Int32} {v_downThen : Int32} {v_plotsThen : (Nat → Int32)} {v_rowThen : (Nat → Int32)}  (hN : 49999 < N) (h_v_front : RB 0 11 v_front) (h_v_plots : RA (-1) 11 v_plots) (h_v_row : RA 0 5 v_row) (h_v_frontThen : RB 0 11 v_frontThen) (h_v_plotsThen : RA (-1) 11 v_plotsThen) (h_v_rowThen : RA 0 5 v_rowThen)  : Ok (fun r => RB 0 11 r.1 ∧ RA (-1) 11 r.2.2.1 ∧ RA 0 5 r.2.2.2 ∧ (r.2.2.2 = va_cpy v_row v_rowThen 0 0 6) ∧ (r.2.2.1 = va_cpy v_plots v_plotsThen 0 0 6) ∧ (r.1 = v_front ∧ r.2.1 = v_down)) (fX9_begin N v_front v_down v_plots v_row v_frontThen v_downThen v_plotsThen v_rowThen) := by
  unfold fX9_begin
  refine ok_b (cp_ok hN (by decide)) (fun x_8 hx => ?_)
  subst hx
  refine ok_b (cp_ok hN (by decide)) (fun x_19 hx => ?_)
  subst hx
  exact ok_s ⟨h_v_front, (RA.cpy h_v_plots h_v_plotsThen), (RA.cpy h_v_row h_v_rowThen), (by grind), (by grind), (by grind)⟩
theorem tX9_takeThen {N : Nat} {v_frontThen : Int32} {v_downThen : Int32} {v_plotsThen : (Nat → Int32)} {v_rowThen : (Nat → Int32)} {v_front : Int32} {v_down : Int32} {v_plots : (Nat → Int32)} {v_row : (Nat → Int32)}  (hN : 49999 < N) (h_v_frontThen : RB 0 11 v_frontThen) (h_v_plotsThen : RA (-1) 11 v_plotsThen) (h_v_rowThen : RA 0 5 v_rowThen) (h_v_front : RB 0 11 v_front) (h_v_plots : RA (-1) 11 v_plots) (h_v_row : RA 0 5 v_row)  : Ok (fun r => RB 0 11 r.1 ∧ RA (-1) 11 r.2.2.1 ∧ RA 0 5 r.2.2.2 ∧ (r.2.2.2 = va_cpy v_rowThen v_row 0 0 6) ∧ (r.2.2.1 = va_cpy v_plotsThen v_plots 0 0 6 ∧ r.1 = v_frontThen ∧ r.2.1 = v_downThen)) (fX9_takeThen N v_frontThen v_downThen v_plotsThen v_rowThen v_front v_down v_plots v_row) := by
  unfold fX9_takeThen
  refine ok_b (cp_ok hN (by decide)) (fun x_8 hx => ?_)
  subst hx
  refine ok_b (cp_ok hN (by decide)) (fun x_19 hx => ?_)
  subst hx
  exact ok_s ⟨h_v_frontThen, (RA.cpy h_v_plotsThen h_v_plots), (RA.cpy h_v_rowThen h_v_row), (by grind), (by grind)⟩
theorem sX9_onThen_2 {N : Nat} {v_houses : Int32} {v_plotsThen : (Nat → Int32)} {a1 : Int32} {K_2 : Int32 → Option (Int32)} {l2 : Int32}  {m_2 : Int32} (hN : 49999 < N) (h_v_houses : RB 0 6 v_houses) (h_v_plotsThen : RA (-1) 11 v_plotsThen) (hK_2 : ∀ (l2 : Int32), 0 ≤ l2 ∧ (FR l2 v_plotsThen a1) → (v_houses - l2) < m_2 → 0 < m_2 → Ok (fun r => (r = -1 ∧ FR v_houses v_plotsThen a1 ∨ r ≠ -1 ∧ ¬ FR v_houses v_plotsThen a1)) (K_2 l2)) (hI : 0 ≤ l2 ∧ (FR l2 v_plotsThen a1)) (hm_2 : (v_houses - l2) = m_2) : Ok (fun r => (r = -1 ∧ FR v_houses v_plotsThen a1 ∨ r ≠ -1 ∧ ¬ FR v_houses v_plotsThen a1)) (fX9_onThen_2 N v_houses v_plotsThen a1 K_2 l2) := by
  obtain ⟨h_l2, e_0⟩ := hI
  unfold fX9_onThen_2
  refine ok_if (fun c_1 => ?_) (fun c_1 => ?_)
  · exact ok_s (by clear hK_2; first | exact Or.inl ⟨rfl, fr_end e_0 (by assumption)⟩ | exact Or.inr ⟨by grind, fun q => q l2 (by grind) (by grind) (by assumption)⟩)
  · refine ok_g (ng6 (by clear hm_2 hK_2; grind)) ?_
    refine ok_if (fun c_2 => ?_) (fun c_2 => ?_)
    · exact ok_s (by clear hK_2; first | exact Or.inl ⟨rfl, fr_end e_0 (by assumption)⟩ | exact Or.inr ⟨by grind, fun q => q l2 (by grind) (by grind) (by assumption)⟩)
    · exact hK_2 _ ⟨(by clear hm_2 hK_2; grind), (fr_step e_0 (by assumption) (by clear hK_2; grind))⟩ (by clear hK_2; grind) (by clear hK_2; grind)
theorem lX9_onThen_2 {N : Nat} {v_houses : Int32} {v_plotsThen : (Nat → Int32)} {a1 : Int32}  (hN : 49999 < N) (h_v_houses : RB 0 6 v_houses) (h_v_plotsThen : RA (-1) 11 v_plotsThen)  : ∀ (l2 : Int32), 0 ≤ l2 ∧ (FR l2 v_plotsThen a1) → (v_houses - l2) ≤ 49999 → Ok (fun r => (r = -1 ∧ FR v_houses v_plotsThen a1 ∨ r ≠ -1 ∧ ¬ FR v_houses v_plotsThen a1)) (lfix (fun (K : Int32 → Option (Int32)) (a : Int32) => fX9_onThen_2 N v_houses v_plotsThen a1 (fun (l2 : Int32) => K l2) a) N (l2)) := by
  intro l2 hI hM
  exact ok_l (I := fun (a : Int32) => (0 ≤ a ∧ (FR a v_plotsThen a1))) (M := fun (a : Int32) => (v_houses - a)) (fun K a hI hK => sX9_onThen_2  hN h_v_houses h_v_plotsThen  (fun l2 hI2  hlt hp => hK (l2) hI2 hlt hp) hI  rfl) N _ hI hN hM
theorem tX9_onThen {N : Nat} {v_houses : Int32} {v_plotsThen : (Nat → Int32)} {a1 : Int32}  (hN : 49999 < N) (h_v_houses : RB 0 6 v_houses) (h_v_plotsThen : RA (-1) 11 v_plotsThen)  : Ok (fun r => (r = -1 ∧ FR v_houses v_plotsThen a1 ∨ r ≠ -1 ∧ ¬ FR v_houses v_plotsThen a1)) (fX9_onThen N v_houses v_plotsThen a1) := by
  unfold fX9_onThen
  exact lX9_onThen_2  hN h_v_houses h_v_plotsThen  _ ⟨(by grind), fr_0⟩  (by grind)
theorem sX9_putUp_74 {N : Nat} {v_houses : Int32} {v_kinds : (Nat → Int32)} {K_74 : Int32 → Int32 → Int32 → (Nat → Int32) → (Nat → Int32) → Option (Int32 × (Nat → Int32) × (Nat → Int32))} {l1 : Int32} {l4 : Int32} {v_frontThen : Int32} {v_rowThen : (Nat → Int32)} {v_plotsThen : (Nat → Int32)} {g_v_rowThen : (Nat → Int32)} {g_v_frontThen : Int32} {g_v_plotsThen : (Nat → Int32)} {m_74 : Int32} (hN : 49999 < N) (h_v_houses : RB 1 6 v_houses) (hK_74 : ∀ (l1 : Int32) (l4 : Int32) (v_frontThen : Int32) (v_rowThen : (Nat → Int32)) (v_plotsThen : (Nat → Int32)), RB 0 5 l1 ∧ RB 1 6 l4 ∧ RB 0 11 v_frontThen ∧ RA 0 5 v_rowThen ∧ RA (-1) 11 v_plotsThen ∧ (v_rowThen = rotp l4 g_v_rowThen) ∧ (l1 = g_v_rowThen 0) ∧ (l4 ≤ v_houses) ∧ (v_frontThen = mvq v_houses v_kinds g_v_frontThen g_v_rowThen g_v_plotsThen ∧ v_plotsThen = upd g_v_plotsThen (g_v_rowThen 0).toNatClampNeg v_frontThen) → (v_houses - l4) < m_74 → 0 < m_74 → Ok (fun r => RB 0 11 r.1 ∧ RA 0 5 r.2.1 ∧ RA (-1) 11 r.2.2 ∧ (r.2.1 = rot v_houses g_v_rowThen) ∧ (r.1 = mvq v_houses v_kinds g_v_frontThen g_v_rowThen g_v_plotsThen ∧ r.2.2 = upd g_v_plotsThen (g_v_rowThen 0).toNatClampNeg r.1)) (K_74 l1 l4 v_frontThen v_rowThen v_plotsThen)) (hI : RB 0 5 l1 ∧ RB 1 6 l4 ∧ RB 0 11 v_frontThen ∧ RA 0 5 v_rowThen ∧ RA (-1) 11 v_plotsThen ∧ (v_rowThen = rotp l4 g_v_rowThen) ∧ (l1 = g_v_rowThen 0) ∧ (l4 ≤ v_houses) ∧ (v_frontThen = mvq v_houses v_kinds g_v_frontThen g_v_rowThen g_v_plotsThen ∧ v_plotsThen = upd g_v_plotsThen (g_v_rowThen 0).toNatClampNeg v_frontThen)) (hm_74 : (v_houses - l4) = m_74) : Ok (fun r => RB 0 11 r.1 ∧ RA 0 5 r.2.1 ∧ RA (-1) 11 r.2.2 ∧ (r.2.1 = rot v_houses g_v_rowThen) ∧ (r.1 = mvq v_houses v_kinds g_v_frontThen g_v_rowThen g_v_plotsThen ∧ r.2.2 = upd g_v_plotsThen (g_v_rowThen 0).toNatClampNeg r.1)) (fX9_putUp_74 N v_houses v_kinds K_74 l1 l4 v_frontThen v_rowThen v_plotsThen) := by
  obtain ⟨h_l1, h_l4, h_v_frontThen, h_v_rowThen, h_v_plotsThen, e_0, e_1, e_2, e_3⟩ := hI
  unfold fX9_putUp_74
  refine ok_if (fun c_1 => ?_) (fun c_1 => ?_)
  · refine ok_g (ng6 (by clear hm_74 hK_74; grind)) ?_
    exact ok_s ⟨h_v_frontThen, (RA.upd h_v_rowThen (by clear hm_74 hK_74; grind)), h_v_plotsThen, (by clear hm_74 hK_74 e_3; rw [e_1]; exact rotp_end (by grind) (by grind) e_0), e_3⟩
  · refine ok_g (ng6 (by clear hm_74 hK_74; grind)) ?_
    refine ok_g (ng6 (by clear hm_74 hK_74; grind)) ?_
    exact hK_74 _ _ _ _ _ ⟨h_l1, (by clear hm_74 hK_74; grind), h_v_frontThen, (RA.upd h_v_rowThen (by clear hm_74 hK_74; have := h_v_rowThen ((l4).toNatClampNeg); grind)), h_v_plotsThen, (rotp_step (by clear hm_74 hK_74 e_3; grind) e_0), (by clear hm_74 hK_74; grind), (by clear hm_74 hK_74; grind), e_3⟩ (by clear hK_74; grind) (by clear hK_74; grind)
theorem lX9_putUp_74 {N : Nat} {v_houses : Int32} {v_kinds : (Nat → Int32)} {g_v_rowThen : (Nat → Int32)} {g_v_frontThen : Int32} {g_v_plotsThen : (Nat → Int32)} (hN : 49999 < N) (h_v_houses : RB 1 6 v_houses)  : ∀ (l1 : Int32) (l4 : Int32) (v_frontThen : Int32) (v_rowThen : (Nat → Int32)) (v_plotsThen : (Nat → Int32)), RB 0 5 l1 ∧ RB 1 6 l4 ∧ RB 0 11 v_frontThen ∧ RA 0 5 v_rowThen ∧ RA (-1) 11 v_plotsThen ∧ (v_rowThen = rotp l4 g_v_rowThen) ∧ (l1 = g_v_rowThen 0) ∧ (l4 ≤ v_houses) ∧ (v_frontThen = mvq v_houses v_kinds g_v_frontThen g_v_rowThen g_v_plotsThen ∧ v_plotsThen = upd g_v_plotsThen (g_v_rowThen 0).toNatClampNeg v_frontThen) → (v_houses - l4) ≤ 49999 → Ok (fun r => RB 0 11 r.1 ∧ RA 0 5 r.2.1 ∧ RA (-1) 11 r.2.2 ∧ (r.2.1 = rot v_houses g_v_rowThen) ∧ (r.1 = mvq v_houses v_kinds g_v_frontThen g_v_rowThen g_v_plotsThen ∧ r.2.2 = upd g_v_plotsThen (g_v_rowThen 0).toNatClampNeg r.1)) (lfix (fun (K : Int32 × Int32 × Int32 × (Nat → Int32) × (Nat → Int32) → Option (Int32 × (Nat → Int32) × (Nat → Int32))) (a : Int32 × Int32 × Int32 × (Nat → Int32) × (Nat → Int32)) => fX9_putUp_74 N v_houses v_kinds (fun (l1 : Int32) (l4 : Int32) (v_frontThen : Int32) (v_rowThen : (Nat → Int32)) (v_plotsThen : (Nat → Int32)) => K (l1, l4, v_frontThen, v_rowThen, v_plotsThen)) a.1 a.2.1 a.2.2.1 a.2.2.2.1 a.2.2.2.2) N (l1, l4, v_frontThen, v_rowThen, v_plotsThen)) := by
  intro l1 l4 v_frontThen v_rowThen v_plotsThen hI hM
  exact ok_l (I := fun (a : Int32 × Int32 × Int32 × (Nat → Int32) × (Nat → Int32)) => (RB 0 5 a.1 ∧ RB 1 6 a.2.1 ∧ RB 0 11 a.2.2.1 ∧ RA 0 5 a.2.2.2.1 ∧ RA (-1) 11 a.2.2.2.2 ∧ (a.2.2.2.1 = rotp a.2.1 g_v_rowThen) ∧ (a.1 = g_v_rowThen 0) ∧ (a.2.1 ≤ v_houses) ∧ (a.2.2.1 = mvq v_houses v_kinds g_v_frontThen g_v_rowThen g_v_plotsThen ∧ a.2.2.2.2 = upd g_v_plotsThen (g_v_rowThen 0).toNatClampNeg a.2.2.1))) (M := fun (a : Int32 × Int32 × Int32 × (Nat → Int32) × (Nat → Int32)) => (v_houses - a.2.1)) (fun K a hI hK => sX9_putUp_74 (g_v_rowThen := g_v_rowThen) (g_v_frontThen := g_v_frontThen) (g_v_plotsThen := g_v_plotsThen) hN h_v_houses  (fun l1 l4 v_frontThen v_rowThen v_plotsThen hI2  hlt hp => hK (l1, l4, v_frontThen, v_rowThen, v_plotsThen) hI2 hlt hp) hI  rfl) N _ hI hN hM
theorem pu_step {N : Nat} {v_houses : Int32} {v_kinds : Nat → Int32} {P : Int32 × (Nat → Int32) × (Nat → Int32) → Prop} {K : Int32 → Int32 → Int32 → Int32 → (Nat → Int32) → (Nat → Int32) → Option (Int32 × (Nat → Int32) × (Nat → Int32))} {h p f : Int32} {row plots : Nat → Int32} {c : Nat} (hN : 49999 < N) (hh : RB 1 6 v_houses) (hp : RA (-1) 11 plots) (hc : c ≤ 1) (a : FR v_houses plots (nx p) → Ok P (K h (nI c) (nx p) f row plots)) (b : ¬ FR v_houses plots (nx p) → Ok P (K h (nI (c + 1)) (nx p) f row plots)) : Ok P (fX9_putUp_28 N v_houses v_kinds K h (nI (c + 1)) p f row plots) := by
  have e1 : nI (c + 1) - 1 = nI c ∧ nI (c + 1) - 0 = nI (c + 1) ∧ ¬ nI (c + 1) ≤ 0 := by
    have : c = 0 ∨ c = 1 := by omega
    rcases this with rfl | rfl
    · exact ⟨rfl, rfl, by decide⟩
    · exact ⟨rfl, rfl, by decide⟩
  unfold fX9_putUp_28
  refine ok_if (fun q => absurd q e1.2.2) (fun _ => ?_)
  refine ok_b (tX9_onThen hN (by grind) hp) (fun x hx => ?_)
  refine ok_if (fun q => ?_) (fun q => ?_)
  · rw [e1.1]
    refine a ?_
    rcases hx with hx | hx
    · exact hx.2
    · exact absurd q hx.1
  · rw [e1.2.1]
    refine b ?_
    rcases hx with hx | hx
    · exact absurd hx.1 q
    · exact hx.2
theorem pu_all {N : Nat} {v_houses : Int32} {v_kinds : Nat → Int32} {h f E : Int32} {row plots : Nat → Int32} (hN : 49999 < N) (hh : RB 1 6 v_houses) (hp : RA (-1) 11 plots) (hr : RA 0 5 row) (hf : RB 0 11 f) (hl : RB 0 5 h) (eh : h = row 0) (hE : E = mvq v_houses v_kinds f row plots) : ∀ (c : Nat), c ≤ 2 → ∀ (s : Nat) (p : Int32) (n k : Nat), RB 0 11 p → (c = 0 ∨ 1 ≤ s ∧ s ≤ k ∧ FR v_houses plots (pos p s)) → 8 * c + s + 1 ≤ n → (c = 0 → E = p) → (c = 1 → E = sr (FR v_houses plots) k p) → (c = 2 → E = sr (FR v_houses plots) 11 (sr (FR v_houses plots) k p)) → Ok (fun r => RB 0 11 r.1 ∧ RA 0 5 r.2.1 ∧ RA (-1) 11 r.2.2 ∧ (r.2.1 = rot v_houses row) ∧ (r.1 = mvq v_houses v_kinds f row plots ∧ r.2.2 = upd plots (row 0).toNatClampNeg r.1)) (lfix (fun (K : Int32 × Int32 × Int32 × Int32 × (Nat → Int32) × (Nat → Int32) → Option (Int32 × (Nat → Int32) × (Nat → Int32))) (a : Int32 × Int32 × Int32 × Int32 × (Nat → Int32) × (Nat → Int32)) => fX9_putUp_28 N v_houses v_kinds (fun (l1 : Int32) (l2 : Int32) (l3 : Int32) (v_frontThen : Int32) (v_rowThen : (Nat → Int32)) (v_plotsThen : (Nat → Int32)) => K (l1, l2, l3, v_frontThen, v_rowThen, v_plotsThen)) a.1 a.2.1 a.2.2.1 a.2.2.2.1 a.2.2.2.2.1 a.2.2.2.2.2) n (h, nI c, p, f, row, plots)) := by
  intro c
  induction c with
  | zero =>
    intro _ s p n k hpp _ hn E0 _ _
    obtain ⟨m, rfl⟩ : ∃ m, n = m + 1 := ⟨n - 1, by omega⟩
    rw [lfix_s]
    show Ok _ (fX9_putUp_28 N v_houses v_kinds _ h (nI 0) p f row plots)
    unfold fX9_putUp_28
    refine ok_n (by decide) (ok_g (ng6 (by clear hE E0; grind)) ?_)
    have ep : p = mvq v_houses v_kinds f row plots := by rw [← hE, E0 rfl]
    exact lX9_putUp_74 (g_v_rowThen := row) (g_v_frontThen := f) (g_v_plotsThen := plots) hN hh _ _ _ _ _ ⟨hl, by clear hE E0 ep; grind, hpp, hr, RA.upd hp (by clear hE E0 ep; grind), (rotp_1 row).symm, eh, hh.1, ep, by rw [eh]⟩ (by clear hE E0 ep; grind)
  | succ c ih =>
    intro hc s
    induction s with
    | zero => intro p n k hpp hs; rcases hs with hs | hs <;> omega
    | succ s ihs =>
      intro p n k hpp hs hn E0 E1 E2
      obtain ⟨m, rfl⟩ : ∃ m, n = m + 1 := ⟨n - 1, by omega⟩
      rw [lfix_s]
      show Ok _ (fX9_putUp_28 N v_houses v_kinds _ h (nI (c + 1)) p f row plots)
      have hq := (nx_i hpp).2
      have hs2 := hs.resolve_left (by omega)
      obtain ⟨k, rfl⟩ : ∃ j, k = j + 1 := ⟨k - 1, by omega⟩
      refine pu_step hN hh hp (by omega) (fun fr => ?_) (fun q => ?_)
      · obtain ⟨t, t1, t2, t3⟩ := free_in (n := v_houses) (a := plots) hq hh.2
        refine ih (by omega) t (nx p) m 11 hq (Or.inr ⟨t1, by omega, t3⟩) (by omega) (fun z => ?_) (fun z => ?_) (fun z => by omega)
        · rw [E1 (by omega), sr_y fr]
        · rw [E2 (by omega), sr_y fr]
      · by_cases s0 : s = 0
        · subst s0
          exact absurd hs2.2.2 q
        · refine ihs (nx p) m k hq (Or.inr ⟨by omega, by omega, hs2.2.2⟩) (by omega) (fun z => by omega) (fun z => ?_) (fun z => ?_)
          · rw [E1 z, sr_n q]
          · rw [E2 z, sr_n q]
theorem tX9_putUp {N : Nat} {v_houses : Int32} {v_kinds : Nat → Int32} {v_frontThen : Int32} {v_rowThen v_plotsThen : Nat → Int32} (hN : 49999 < N) (h_v_houses : RB 1 6 v_houses) (h_v_frontThen : RB 0 11 v_frontThen) (h_v_rowThen : RA 0 5 v_rowThen) (h_v_plotsThen : RA (-1) 11 v_plotsThen) : Ok (fun r => RB 0 11 r.1 ∧ RA 0 5 r.2.1 ∧ RA (-1) 11 r.2.2 ∧ (r.2.1 = rot v_houses v_rowThen) ∧ (r.1 = mvq v_houses v_kinds v_frontThen v_rowThen v_plotsThen ∧ r.2.2 = upd v_plotsThen (v_rowThen 0).toNatClampNeg r.1)) (fX9_putUp N v_houses v_kinds v_frontThen v_rowThen v_plotsThen) := by
  unfold fX9_putUp
  have r0 := h_v_rowThen ((0 : Int32)).toNatClampNeg
  obtain ⟨t, t1, t2, t3⟩ := free_in (n := v_houses) (a := v_plotsThen) h_v_frontThen h_v_houses.2
  refine ok_g (ng6 (by grind)) (ok_if (fun c => ?_) (fun c => ?_))
  · exact pu_all hN h_v_houses h_v_plotsThen h_v_rowThen h_v_frontThen r0 rfl rfl 2 (by omega) t v_frontThen N 11 h_v_frontThen (Or.inr ⟨t1, by omega, t3⟩) (by omega) (fun z => absurd z (by omega)) (fun z => absurd z (by omega)) (fun _ => if_pos c)
  · exact pu_all hN h_v_houses h_v_plotsThen h_v_rowThen h_v_frontThen r0 rfl rfl 1 (by omega) t v_frontThen N 11 h_v_frontThen (Or.inr ⟨t1, by omega, t3⟩) (by omega) (fun z => absurd z (by omega)) (fun _ => if_neg c) (fun z => absurd z (by omega))
theorem tX9_goOn_59 {N : Nat} {v_houses : Int32} {v_kinds : (Nat → Int32)} {l1 : Int32} {v_frontThen : Int32} {v_downThen : Int32} {v_rowThen : (Nat → Int32)} {v_plotsThen : (Nat → Int32)} {g_v_rowThen : (Nat → Int32)} {g_v_downThen : Int32} {g_v_frontThen : Int32} {g_v_plotsThen : (Nat → Int32)} (hN : 49999 < N) (h_v_houses : RB 1 6 v_houses) (h_l1 : RB 0 5 l1) (h_v_frontThen : RB 0 11 v_frontThen) (h_v_rowThen : RA 0 5 v_rowThen) (h_v_plotsThen : RA (-1) 11 v_plotsThen) (e_0 : v_rowThen = g_v_rowThen) (e_1 : v_plotsThen = g_v_plotsThen) (e_2 : v_frontThen = g_v_frontThen) (e_3 : v_downThen = g_v_downThen) (e_4 : l1 = g_v_rowThen 0) (e_5 : v_downThen ≤ 0) (e_6 : v_kinds l1.toNatClampNeg = 1 ∨ v_kinds l1.toNatClampNeg = 4)  : Ok (fun r => RB 0 11 r.2.1 ∧ RA 0 5 r.2.2.2.1 ∧ RA (-1) 11 r.2.2.2.2 ∧ (SJ v_houses g_v_rowThen → SJ v_houses r.2.2.2.1) ∧ (0 ≤ g_v_downThen ∧ g_v_downThen ≤ 2 → r.1 = tnM v_kinds g_v_downThen g_v_rowThen ∧ (r.2.1, r.2.2.1, r.2.2.2.1, r.2.2.2.2) = tnS v_houses v_kinds (g_v_frontThen, g_v_downThen, g_v_rowThen, g_v_plotsThen) ∧ (0 ≤ r.2.2.1 ∧ r.2.2.1 ≤ 2))) (fX9_goOn_59 N v_houses v_kinds l1 v_frontThen v_downThen v_rowThen v_plotsThen) := by
  unfold fX9_goOn_59
  refine ok_g (ng6 (by grind)) ?_
  refine ok_g (ng6 (by grind)) ?_
  refine ok_if (fun c_1 => ?_) (fun c_1 => ?_)
  · exact ok_s ⟨h_v_frontThen, h_v_rowThen, (RA.upd h_v_plotsThen (by grind)), (e_0 ▸ fun q => q), (by subst e_0; subst e_1; subst e_2; subst e_3; subst e_4; intro hd; first | exact tr_down1 hd e_5 c_1 | exact tr_down4 hd e_5 (e_6.resolve_left c_1))⟩
  · exact ok_s ⟨h_v_frontThen, h_v_rowThen, (RA.upd h_v_plotsThen (by grind)), (e_0 ▸ fun q => q), (by subst e_0; subst e_1; subst e_2; subst e_3; subst e_4; intro hd; first | exact tr_down1 hd e_5 c_1 | exact tr_down4 hd e_5 (e_6.resolve_left c_1))⟩
theorem tX9_goOn {N : Nat} {v_houses : Int32} {v_kinds : (Nat → Int32)} {v_frontThen : Int32} {v_downThen : Int32} {v_rowThen : (Nat → Int32)} {v_plotsThen : (Nat → Int32)}  (hN : 49999 < N) (h_v_houses : RB 1 6 v_houses) (h_v_frontThen : RB 0 11 v_frontThen) (h_v_rowThen : RA 0 5 v_rowThen) (h_v_plotsThen : RA (-1) 11 v_plotsThen)  : Ok (fun r => RB 0 11 r.2.1 ∧ RA 0 5 r.2.2.2.1 ∧ RA (-1) 11 r.2.2.2.2 ∧ (SJ v_houses v_rowThen → SJ v_houses r.2.2.2.1) ∧ (0 ≤ v_downThen ∧ v_downThen ≤ 2 → r.1 = tnM v_kinds v_downThen v_rowThen ∧ (r.2.1, r.2.2.1, r.2.2.2.1, r.2.2.2.2) = tnS v_houses v_kinds (v_frontThen, v_downThen, v_rowThen, v_plotsThen) ∧ (0 ≤ r.2.2.1 ∧ r.2.2.1 ≤ 2))) (fX9_goOn N v_houses v_kinds v_frontThen v_downThen v_rowThen v_plotsThen) := by
  unfold fX9_goOn
  refine ok_if (fun c_1 => ?_) (fun c_1 => ?_)
  · refine ok_g (ng6 (by have := h_v_rowThen (((0 : Int32)).toNatClampNeg); grind)) ?_
    refine ok_if (fun c_2 => ?_) (fun c_2 => ?_)
    · exact tX9_goOn_59 (g_v_rowThen := v_rowThen) (g_v_downThen := v_downThen) (g_v_frontThen := v_frontThen) (g_v_plotsThen := v_plotsThen) hN h_v_houses (by have := h_v_rowThen (((0 : Int32)).toNatClampNeg); grind) h_v_frontThen h_v_rowThen h_v_plotsThen (by grind) (by grind) (by grind) (by grind) rfl (by grind) (by have := h_v_rowThen (((0 : Int32)).toNatClampNeg); grind)
    · refine ok_g (ng6 (by have := h_v_rowThen (((0 : Int32)).toNatClampNeg); grind)) ?_
      refine ok_if (fun c_3 => ?_) (fun c_3 => ?_)
      · exact tX9_goOn_59 (g_v_rowThen := v_rowThen) (g_v_downThen := v_downThen) (g_v_frontThen := v_frontThen) (g_v_plotsThen := v_plotsThen) hN h_v_houses (by have := h_v_rowThen (((0 : Int32)).toNatClampNeg); grind) h_v_frontThen h_v_rowThen h_v_plotsThen (by grind) (by grind) (by grind) (by grind) rfl (by grind) (by have := h_v_rowThen (((0 : Int32)).toNatClampNeg); grind)
      · refine ok_b (tX9_putUp hN h_v_houses h_v_frontThen h_v_rowThen h_v_plotsThen) (fun x_88 hx => ?_)
        obtain ⟨h_x_88_0, h_x_88_1, h_x_88_2, h_x_88_3, h_x_88_4⟩ := hx
        refine ok_g (ng6 (by have := h_v_rowThen (((0 : Int32)).toNatClampNeg); grind)) ?_
        refine ok_if (fun c_4 => ?_) (fun c_4 => ?_)
        · refine ok_b (tX9_putUp hN h_v_houses h_x_88_0 h_x_88_1 h_x_88_2) (fun x_104 hx => ?_)
          obtain ⟨h_x_104_0, h_x_104_1, h_x_104_2, h_x_104_3, h_x_104_4⟩ := hx
          exact ok_s ⟨h_x_104_0, h_x_104_1, h_x_104_2, (fun q => by first | exact q | (rw [h_x_27_3]; exact sj_rot q h_v_houses) | (rw [h_x_104_3, h_x_88_3]; exact sj_rot (sj_rot q h_v_houses) h_v_houses) | (rw [h_x_88_3]; exact sj_rot q h_v_houses)), (by intro hd; first | exact tr_wait hd c_5 | exact tr_up hd c_1 c_5 h_x_27_3 h_x_27_4 | exact tr_two hd c_1 c_4 h_x_88_3 h_x_88_4 h_x_104_3 h_x_104_4 | exact tr_one hd c_1 c_2 c_3 c_4 h_x_88_3 h_x_88_4)⟩
        · exact ok_s ⟨h_x_88_0, h_x_88_1, h_x_88_2, (fun q => by first | exact q | (rw [h_x_27_3]; exact sj_rot q h_v_houses) | (rw [h_x_104_3, h_x_88_3]; exact sj_rot (sj_rot q h_v_houses) h_v_houses) | (rw [h_x_88_3]; exact sj_rot q h_v_houses)), (by intro hd; first | exact tr_wait hd c_5 | exact tr_up hd c_1 c_5 h_x_27_3 h_x_27_4 | exact tr_two hd c_1 c_4 h_x_88_3 h_x_88_4 h_x_104_3 h_x_104_4 | exact tr_one hd c_1 c_2 c_3 c_4 h_x_88_3 h_x_88_4)⟩
  · refine ok_if (fun c_5 => ?_) (fun c_5 => ?_)
    · refine ok_b (tX9_putUp hN h_v_houses h_v_frontThen h_v_rowThen h_v_plotsThen) (fun x_27 hx => ?_)
      obtain ⟨h_x_27_0, h_x_27_1, h_x_27_2, h_x_27_3, h_x_27_4⟩ := hx
      exact ok_s ⟨h_x_27_0, h_x_27_1, h_x_27_2, (fun q => by first | exact q | (rw [h_x_27_3]; exact sj_rot q h_v_houses) | (rw [h_x_104_3, h_x_88_3]; exact sj_rot (sj_rot q h_v_houses) h_v_houses) | (rw [h_x_88_3]; exact sj_rot q h_v_houses)), (by intro hd; first | exact tr_wait hd c_5 | exact tr_up hd c_1 c_5 h_x_27_3 h_x_27_4 | exact tr_two hd c_1 c_4 h_x_88_3 h_x_88_4 h_x_104_3 h_x_104_4 | exact tr_one hd c_1 c_2 c_3 c_4 h_x_88_3 h_x_88_4)⟩
    · exact ok_s ⟨h_v_frontThen, h_v_rowThen, h_v_plotsThen, (fun q => by first | exact q | (rw [h_x_27_3]; exact sj_rot q h_v_houses) | (rw [h_x_104_3, h_x_88_3]; exact sj_rot (sj_rot q h_v_houses) h_v_houses) | (rw [h_x_88_3]; exact sj_rot q h_v_houses)), (by intro hd; first | exact tr_wait hd c_5 | exact tr_up hd c_1 c_5 h_x_27_3 h_x_27_4 | exact tr_two hd c_1 c_4 h_x_88_3 h_x_88_4 h_x_104_3 h_x_104_4 | exact tr_one hd c_1 c_2 c_3 c_4 h_x_88_3 h_x_88_4)⟩
theorem tX9_worthOf {N : Nat} {v_worths : (Nat → Int32)} {a1 : Int32}  (hN : 49999 < N) (h_a1 : RB (-1) 11 a1)  : Ok (fun r => (r = wu v_worths a1)) (fX9_worthOf N v_worths a1) := by
  unfold fX9_worthOf
  refine ok_if (fun c_1 => ?_) (fun c_1 => ?_)
  · exact ok_s (by unfold wu; grind)
  · refine ok_g (ng12 (by grind)) ?_
    exact ok_s (by unfold wu; grind)
theorem sX9_have_2 {N : Nat} {v_houses : Int32} {v_plots : (Nat → Int32)} {v_worths : (Nat → Int32)} {K_2 : Int32 → Int32 → (Nat → Int32) → Option (Int32 × (Nat → Int32))} {l1 : Int32} {v_nights : Int32} {v_had : (Nat → Int32)} {g_v_nights : Int32} {g_v_had : (Nat → Int32)} {m_2 : Int32} (hN : 49999 < N) (h_v_houses : RB 0 6 v_houses) (h_v_plots : RA (-1) 11 v_plots) (hK_2 : ∀ (l1 : Int32) (v_nights : Int32) (v_had : (Nat → Int32)), 0 ≤ l1 ∧ (v_nights = g_v_nights) ∧ (v_had = hdp l1 v_worths v_plots g_v_had) ∧ (l1 ≤ v_houses) → (v_houses - l1) < m_2 → 0 < m_2 → Ok (fun r => (r.1 = g_v_nights + 1) ∧ (r.2 = hdp v_houses v_worths v_plots g_v_had)) (K_2 l1 v_nights v_had)) (hI : 0 ≤ l1 ∧ (v_nights = g_v_nights) ∧ (v_had = hdp l1 v_worths v_plots g_v_had) ∧ (l1 ≤ v_houses)) (hm_2 : (v_houses - l1) = m_2) : Ok (fun r => (r.1 = g_v_nights + 1) ∧ (r.2 = hdp v_houses v_worths v_plots g_v_had)) (fX9_have_2 N v_houses v_plots v_worths K_2 l1 v_nights v_had) := by
  obtain ⟨h_l1, e_0, e_1, e_2⟩ := hI
  unfold fX9_have_2
  refine ok_if (fun c_1 => ?_) (fun c_1 => ?_)
  · exact ok_s ⟨(by clear hm_2 hK_2; grind), (hdp_end e_1 (by clear hm_2 hK_2 e_1; grind))⟩
  · refine ok_g (ng6 (by clear hm_2 hK_2; grind)) ?_
    refine ok_g (ng6 (by clear hm_2 hK_2; grind)) ?_
    refine ok_b (tX9_worthOf hN (by clear hm_2 hK_2; have := h_v_plots ((l1).toNatClampNeg); grind)) (fun x_24 hx => ?_)
    have h_x_24_0 := hx
    refine ok_g (ng6 (by clear hm_2 hK_2; grind)) ?_
    exact hK_2 _ _ _ ⟨(by clear hm_2 hK_2; grind), (by clear hm_2 hK_2; grind), (hdp_step e_1 h_x_24_0 (by clear hm_2 hK_2 e_1; grind)), (by clear hm_2 hK_2; grind)⟩ (by clear hK_2; grind) (by clear hK_2; grind)
theorem lX9_have_2 {N : Nat} {v_houses : Int32} {v_plots : (Nat → Int32)} {v_worths : (Nat → Int32)} {g_v_nights : Int32} {g_v_had : (Nat → Int32)} (hN : 49999 < N) (h_v_houses : RB 0 6 v_houses) (h_v_plots : RA (-1) 11 v_plots)  : ∀ (l1 : Int32) (v_nights : Int32) (v_had : (Nat → Int32)), 0 ≤ l1 ∧ (v_nights = g_v_nights) ∧ (v_had = hdp l1 v_worths v_plots g_v_had) ∧ (l1 ≤ v_houses) → (v_houses - l1) ≤ 49999 → Ok (fun r => (r.1 = g_v_nights + 1) ∧ (r.2 = hdp v_houses v_worths v_plots g_v_had)) (lfix (fun (K : Int32 × Int32 × (Nat → Int32) → Option (Int32 × (Nat → Int32))) (a : Int32 × Int32 × (Nat → Int32)) => fX9_have_2 N v_houses v_plots v_worths (fun (l1 : Int32) (v_nights : Int32) (v_had : (Nat → Int32)) => K (l1, v_nights, v_had)) a.1 a.2.1 a.2.2) N (l1, v_nights, v_had)) := by
  intro l1 v_nights v_had hI hM
  exact ok_l (I := fun (a : Int32 × Int32 × (Nat → Int32)) => (0 ≤ a.1 ∧ (a.2.1 = g_v_nights) ∧ (a.2.2 = hdp a.1 v_worths v_plots g_v_had) ∧ (a.1 ≤ v_houses))) (M := fun (a : Int32 × Int32 × (Nat → Int32)) => (v_houses - a.1)) (fun K a hI hK => sX9_have_2 (g_v_nights := g_v_nights) (g_v_had := g_v_had) hN h_v_houses h_v_plots  (fun l1 v_nights v_had hI2  hlt hp => hK (l1, v_nights, v_had) hI2 hlt hp) hI  rfl) N _ hI hN hM
theorem tX9_have {N : Nat} {v_houses : Int32} {v_plots : (Nat → Int32)} {v_worths : (Nat → Int32)} {v_nights : Int32} {v_had : (Nat → Int32)}  (hN : 49999 < N) (h_v_houses : RB 0 6 v_houses) (h_v_plots : RA (-1) 11 v_plots)  : Ok (fun r => (r.1 = v_nights + 1) ∧ (r.2 = hdp v_houses v_worths v_plots v_had)) (fX9_have N v_houses v_plots v_worths v_nights v_had) := by
  unfold fX9_have
  exact lX9_have_2 (g_v_nights := v_nights) (g_v_had := v_had) hN h_v_houses h_v_plots  _ _ _ ⟨(by grind), (by grind), (hdp_0 _ _ _), (by grind)⟩  (by grind)
theorem tX9_night {N : Nat} {v_houses : Int32} {v_kinds : (Nat → Int32)} {v_worths : (Nat → Int32)} {v_nights : Int32} {v_front : Int32} {v_down : Int32} {v_frontThen : Int32} {v_downThen : Int32} {v_plots : (Nat → Int32)} {v_plotsThen : (Nat → Int32)} {v_row : (Nat → Int32)} {v_rowThen : (Nat → Int32)} {v_had : (Nat → Int32)}  (hN : 49999 < N) (h_v_houses : RB 0 6 v_houses) (h_v_nights : RB 0 999 v_nights) (h_v_front : RB 0 11 v_front) (h_v_frontThen : RB 0 11 v_frontThen) (h_v_plots : RA (-1) 11 v_plots) (h_v_plotsThen : RA (-1) 11 v_plotsThen) (h_v_row : RA 0 5 v_row) (h_v_rowThen : RA 0 5 v_rowThen)  : Ok (fun r => RB 0 999 r.2.1 ∧ RB 0 11 r.2.2.1 ∧ RB 0 11 r.2.2.2.2.1 ∧ RA (-1) 11 r.2.2.2.2.2.2.1 ∧ RA (-1) 11 r.2.2.2.2.2.2.2.1 ∧ RA 0 5 r.2.2.2.2.2.2.2.2.1 ∧ RA 0 5 r.2.2.2.2.2.2.2.2.2.1 ∧ (v_houses = 0 ∧ r.1 = -103 ∧ r.2.1 = v_nights ∨ v_houses ≠ 0 ∧ v_nights < 999 ∧ r.2.1 = v_nights + 1 ∨ v_houses ≠ 0 ∧ ¬ v_nights < 999 ∧ r.1 = -104 ∧ r.2.1 = v_nights) ∧ (SJ v_houses v_row → SJ v_houses r.2.2.2.2.2.2.2.2.1) ∧ (v_houses ≠ 0 → v_nights < 999 → 0 ≤ v_down ∧ v_down ≤ 2 → r.1 = tnM (N6 v_kinds) v_down (N6 v_row) ∧ (r.2.2.1, r.2.2.2.1, N6 r.2.2.2.2.2.2.2.2.1, N6 r.2.2.2.2.2.2.1) = tnS v_houses (N6 v_kinds) (v_front, v_down, N6 v_row, N6 v_plots) ∧ (0 ≤ r.2.2.2.1 ∧ r.2.2.2.1 ≤ 2)) ∧ (v_houses ≠ 0 → v_nights < 999 → r.2.2.2.2.2.2.2.2.2.2 = hdp v_houses v_worths r.2.2.2.2.2.2.1 v_had) ∧ ((v_houses = 0 ∨ ¬ v_nights < 999) → r.2.2.1 = v_front ∧ r.2.2.2.1 = v_down ∧ r.2.2.2.2.2.2.2.2.1 = v_row ∧ r.2.2.2.2.2.2.1 = v_plots ∧ r.2.2.2.2.2.2.2.2.2.2 = v_had)) (fX9_night N v_houses v_kinds v_worths v_nights v_front v_down v_frontThen v_downThen v_plots v_plotsThen v_row v_rowThen v_had) := by
  unfold fX9_night
  refine ok_b (tX9_lacks hN h_v_houses) (fun x_1 hx => ?_)
  have h_x_1_0 := hx
  refine ok_if (fun c_1 => ?_) (fun c_1 => ?_)
  · refine ok_if (fun c_2 => ?_) (fun c_2 => ?_)
    · exact ok_s ⟨h_v_nights, h_v_front, h_v_frontThen, h_v_plots, h_v_plotsThen, h_v_row, h_v_rowThen, (by grind), (by first | exact fun q => q | (intro q; rw [h_x_33_3]; exact sj_cpy (h_x_28_3 (by rw [h_x_24_3]; exact sj_cpy q h_v_houses.2)) h_v_houses.2)), (by first | (intro _ _ hd; have q := h_x_28_4; rw [h_x_24_5.1, h_x_24_5.2] at q; rw [h_x_33_4.2.1, h_x_33_4.2.2]; exact night_r (by grind) h_v_front h_x_24_2 h_x_24_3 h_x_24_4 (q hd) h_x_33_3 h_x_33_4.1) | exact fun w _ _ => absurd w (by grind) | exact fun _ w _ => absurd w (by grind)), (by first | exact fun _ _ => h_x_37_1 | exact fun w _ => absurd w (by grind) | exact fun _ w => absurd w (by grind)), (by grind)⟩
    · refine ok_b (tX9_begin hN h_v_front h_v_plots h_v_row h_v_frontThen h_v_plotsThen h_v_rowThen) (fun x_24 hx => ?_)
      obtain ⟨h_x_24_0, h_x_24_1, h_x_24_2, h_x_24_3, h_x_24_4, h_x_24_5⟩ := hx
      refine ok_b (tX9_goOn hN (by grind) h_x_24_0 h_x_24_2 h_x_24_1) (fun x_28 hx => ?_)
      obtain ⟨h_x_28_0, h_x_28_1, h_x_28_2, h_x_28_3, h_x_28_4⟩ := hx
      refine ok_b (tX9_takeThen hN h_x_28_0 h_x_28_2 h_x_28_1 h_v_front h_v_plots h_v_row) (fun x_33 hx => ?_)
      obtain ⟨h_x_33_0, h_x_33_1, h_x_33_2, h_x_33_3, h_x_33_4⟩ := hx
      refine ok_b (tX9_have hN h_v_houses h_x_33_1) (fun x_37 hx => ?_)
      obtain ⟨h_x_37_0, h_x_37_1⟩ := hx
      exact ok_s ⟨(by grind), h_x_33_0, h_x_28_0, h_x_33_1, h_x_28_2, h_x_33_2, h_x_28_1, (by grind), (by first | exact fun q => q | (intro q; rw [h_x_33_3]; exact sj_cpy (h_x_28_3 (by rw [h_x_24_3]; exact sj_cpy q h_v_houses.2)) h_v_houses.2)), (by first | (intro _ _ hd; have q := h_x_28_4; rw [h_x_24_5.1, h_x_24_5.2] at q; rw [h_x_33_4.2.1, h_x_33_4.2.2]; exact night_r (by grind) h_v_front h_x_24_2 h_x_24_3 h_x_24_4 (q hd) h_x_33_3 h_x_33_4.1) | exact fun w _ _ => absurd w (by grind) | exact fun _ w _ => absurd w (by grind)), (by first | exact fun _ _ => h_x_37_1 | exact fun w _ => absurd w (by grind) | exact fun _ w => absurd w (by grind)), (by grind)⟩
  · exact ok_s ⟨h_v_nights, h_v_front, h_v_frontThen, h_v_plots, h_v_plotsThen, h_v_row, h_v_rowThen, (by grind), (by first | exact fun q => q | (intro q; rw [h_x_33_3]; exact sj_cpy (h_x_28_3 (by rw [h_x_24_3]; exact sj_cpy q h_v_houses.2)) h_v_houses.2)), (by first | (intro _ _ hd; have q := h_x_28_4; rw [h_x_24_5.1, h_x_24_5.2] at q; rw [h_x_33_4.2.1, h_x_33_4.2.2]; exact night_r (by grind) h_v_front h_x_24_2 h_x_24_3 h_x_24_4 (q hd) h_x_33_3 h_x_33_4.1) | exact fun w _ _ => absurd w (by grind) | exact fun _ w _ => absurd w (by grind)), (by first | exact fun _ _ => h_x_37_1 | exact fun w _ => absurd w (by grind) | exact fun _ w => absurd w (by grind)), (by grind)⟩
theorem tX9_snow {N : Nat} {v_houses : Int32} {v_plots : (Nat → Int32)} {v_worths : (Nat → Int32)} {v_nights : Int32} {v_had : (Nat → Int32)}  (hN : 49999 < N) (h_v_houses : RB 0 6 v_houses) (h_v_plots : RA (-1) 11 v_plots) (h_v_nights : RB 0 999 v_nights)  : Ok (fun r => RB 0 999 r.2.1 ∧ (v_houses = 0 ∧ r.1 = -103 ∧ r.2.1 = v_nights ∨ v_houses ≠ 0 ∧ v_nights < 999 ∧ r.1 = v_nights + 1 ∧ r.2.1 = v_nights + 1 ∨ v_houses ≠ 0 ∧ ¬ v_nights < 999 ∧ r.1 = -104 ∧ r.2.1 = v_nights) ∧ (v_houses ≠ 0 → v_nights < 999 → r.2.2 = hdp v_houses v_worths v_plots v_had) ∧ ((v_houses = 0 ∨ ¬ v_nights < 999) → r.2.2 = v_had)) (fX9_snow N v_houses v_plots v_worths v_nights v_had) := by
  unfold fX9_snow
  refine ok_b (tX9_lacks hN h_v_houses) (fun x_1 hx => ?_)
  have h_x_1_0 := hx
  refine ok_if (fun c_1 => ?_) (fun c_1 => ?_)
  · refine ok_if (fun c_2 => ?_) (fun c_2 => ?_)
    · exact ok_s ⟨h_v_nights, (by grind), (by grind), (by grind)⟩
    · refine ok_b (tX9_have hN h_v_houses h_v_plots) (fun x_24 hx => ?_)
      obtain ⟨h_x_24_0, h_x_24_1⟩ := hx
      exact ok_s ⟨(by grind), (by grind), (by grind), (by grind)⟩
  · exact ok_s ⟨h_v_nights, (by grind), (by grind), (by grind)⟩
theorem tX9_build {N : Nat} {v_houses : Int32} {v_plots : (Nat → Int32)} {a1 : Int32} {a2 : Int32} {v_kinds : (Nat → Int32)}  (hN : 49999 < N) (h_v_houses : RB 0 6 v_houses) (h_v_plots : RA (-1) 11 v_plots)  : Ok (fun r => (¬ (0 ≤ a1 ∧ a1 < v_houses) ∧ r.1 = -101 ∧ r.2 = v_kinds ∨ (0 ≤ a1 ∧ a1 < v_houses) ∧ ¬ (0 ≤ a2 ∧ a2 < 5) ∧ r.1 = -102 ∧ r.2 = v_kinds ∨ (0 ≤ a1 ∧ a1 < v_houses) ∧ (0 ≤ a2 ∧ a2 < 5) ∧ v_plots a1.toNatClampNeg = -1 ∧ r.1 = -103 ∧ r.2 = v_kinds ∨ (0 ≤ a1 ∧ a1 < v_houses) ∧ (0 ≤ a2 ∧ a2 < 5) ∧ ¬ v_plots a1.toNatClampNeg = -1 ∧ r.1 = v_kinds a1.toNatClampNeg ∧ r.2 = upd v_kinds a1.toNatClampNeg a2)) (fX9_build N v_houses v_plots a1 a2 v_kinds) := by
  unfold fX9_build
  refine ok_b (tX9_isHouse hN h_v_houses) (fun x_2 hx => ?_)
  have h_x_2_0 := hx
  refine ok_if (fun c_1 => ?_) (fun c_1 => ?_)
  · exact ok_s (by grind)
  · refine ok_b (in_ok (a := (a2)) (lo := (0 : Int32)) (hi := (4 : Int32)) rfl rfl) (fun x_17 hx => ?_)
    have h_x_17 := hx
    refine ok_if (fun c_2 => ?_) (fun c_2 => ?_)
    · exact ok_s (by grind)
    · refine ok_g (ng6 (by grind)) ?_
      refine ok_if (fun c_3 => ?_) (fun c_3 => ?_)
      · exact ok_s (by grind)
      · refine ok_g (ng6 (by grind)) ?_
        refine ok_g (ng6 (by grind)) ?_
        exact ok_s (by grind)
theorem tX9_swap {N : Nat} {v_houses : Int32} {a1 : Int32} {a2 : Int32} {v_plots : (Nat → Int32)}  (hN : 49999 < N) (h_v_houses : RB 0 6 v_houses) (h_v_plots : RA (-1) 11 v_plots)  : Ok (fun r => RA (-1) 11 r.2 ∧ (¬ (0 ≤ a1 ∧ a1 < v_houses ∧ 0 ≤ a2 ∧ a2 < v_houses ∧ a1 ≠ a2) ∧ r.1 = -101 ∧ r.2 = v_plots ∨ (0 ≤ a1 ∧ a1 < v_houses ∧ 0 ≤ a2 ∧ a2 < v_houses ∧ a1 ≠ a2) ∧ (v_plots a1.toNatClampNeg = -1 ∨ v_plots a2.toNatClampNeg = -1) ∧ r.1 = -103 ∧ r.2 = v_plots ∨ (0 ≤ a1 ∧ a1 < v_houses ∧ 0 ≤ a2 ∧ a2 < v_houses ∧ a1 ≠ a2) ∧ ¬ (v_plots a1.toNatClampNeg = -1 ∨ v_plots a2.toNatClampNeg = -1) ∧ r.1 = v_plots a2.toNatClampNeg ∧ r.2 = upd (upd v_plots a1.toNatClampNeg (v_plots a2.toNatClampNeg)) a2.toNatClampNeg (v_plots a1.toNatClampNeg))) (fX9_swap N v_houses a1 a2 v_plots) := by
  unfold fX9_swap
  refine ok_b (tX9_areTwo hN h_v_houses) (fun x_3 hx => ?_)
  have h_x_3_0 := hx
  refine ok_if (fun c_1 => ?_) (fun c_1 => ?_)
  · exact ok_s ⟨h_v_plots, (by first | (have q1 := (sw_at (a := v_plots) (tn_ne (a := a1) (b := a2) (by grind) (by grind) (by grind))).1; rw [q1]; grind) | grind)⟩
  · refine ok_g (ng6 (by grind)) ?_
    refine ok_if (fun c_2 => ?_) (fun c_2 => ?_)
    · exact ok_s ⟨h_v_plots, (by first | (have q1 := (sw_at (a := v_plots) (tn_ne (a := a1) (b := a2) (by grind) (by grind) (by grind))).1; rw [q1]; grind) | grind)⟩
    · refine ok_g (ng6 (by grind)) ?_
      refine ok_if (fun c_3 => ?_) (fun c_3 => ?_)
      · exact ok_s ⟨h_v_plots, (by first | (have q1 := (sw_at (a := v_plots) (tn_ne (a := a1) (b := a2) (by grind) (by grind) (by grind))).1; rw [q1]; grind) | grind)⟩
      · refine ok_g (ng6 (by grind)) ?_
        refine ok_g (ng6 (by grind)) ?_
        refine ok_g (ng6 (by grind)) ?_
        refine ok_g (ng6 (by grind)) ?_
        refine ok_g (ng6 (by grind)) ?_
        exact ok_s ⟨(RA.upd (RA.upd h_v_plots (by have := h_v_plots ((a2).toNatClampNeg); grind)) (by have := h_v_plots ((a1).toNatClampNeg); grind)), (by first | (have q1 := (sw_at (a := v_plots) (tn_ne (a := a1) (b := a2) (by grind) (by grind) (by grind))).1; rw [q1]; grind) | grind)⟩
theorem sX9_placeOf_2 {N : Nat} {v_row : (Nat → Int32)} {a1 : Int32} {K_2 : Int32 → Option (Int32)} {l2 : Int32}  {m_2 : Int32} (hN : 49999 < N) (h_v_row : RA 0 5 v_row) (h_a1 : RB 0 5 a1) (hK_2 : ∀ (l2 : Int32), (0 ≤ l2 ∧ l2 < 6) ∧ (∃ k : Int32, (l2 ≤ k ∧ k < 6) ∧ v_row k.toNatClampNeg = a1) → (6 - l2) < m_2 → 0 < m_2 → Ok (fun r => True) (K_2 l2)) (hI : (0 ≤ l2 ∧ l2 < 6) ∧ (∃ k : Int32, (l2 ≤ k ∧ k < 6) ∧ v_row k.toNatClampNeg = a1)) (hm_2 : (6 - l2) = m_2) : Ok (fun r => True) (fX9_placeOf_2 N v_row a1 K_2 l2) := by
  obtain ⟨e_0, e_1⟩ := hI
  unfold fX9_placeOf_2
  refine ok_g (ng6 (by clear hm_2 hK_2; grind)) ?_
  refine ok_if (fun c_1 => ?_) (fun c_1 => ?_)
  · exact ok_s trivial
  · exact hK_2 _ ⟨(by obtain ⟨k, hk, hx⟩ := e_1; have := pl_step hx (by assumption) hk; clear hK_2; grind), (by obtain ⟨k, hk, hx⟩ := e_1; exact ⟨k, ⟨pl_step hx (by assumption) hk, hk.2⟩, hx⟩)⟩ (by clear hK_2; grind) (by clear hK_2; grind)
theorem lX9_placeOf_2 {N : Nat} {v_row : (Nat → Int32)} {a1 : Int32}  (hN : 49999 < N) (h_v_row : RA 0 5 v_row) (h_a1 : RB 0 5 a1)  : ∀ (l2 : Int32), (0 ≤ l2 ∧ l2 < 6) ∧ (∃ k : Int32, (l2 ≤ k ∧ k < 6) ∧ v_row k.toNatClampNeg = a1) → (6 - l2) ≤ 49999 → Ok (fun r => True) (lfix (fun (K : Int32 → Option (Int32)) (a : Int32) => fX9_placeOf_2 N v_row a1 (fun (l2 : Int32) => K l2) a) N (l2)) := by
  intro l2 hI hM
  exact ok_l (I := fun (a : Int32) => ((0 ≤ a ∧ a < 6) ∧ (∃ k : Int32, (a ≤ k ∧ k < 6) ∧ v_row k.toNatClampNeg = a1))) (M := fun (a : Int32) => (6 - a)) (fun K a hI hK => sX9_placeOf_2  hN h_v_row h_a1  (fun l2 hI2  hlt hp => hK (l2) hI2 hlt hp) hI  rfl) N _ hI hN hM
theorem tX9_placeOf {N : Nat} {v_row : (Nat → Int32)} {a1 : Int32}  (hN : 49999 < N) (h_v_row : RA 0 5 v_row) (h_a1 : RB 0 5 a1) (e_0 : ∃ k : Int32, (0 ≤ k ∧ k < 6) ∧ v_row k.toNatClampNeg = a1)  : Ok (fun r => True) (fX9_placeOf N v_row a1) := by
  unfold fX9_placeOf
  exact lX9_placeOf_2  hN h_v_row h_a1  _ ⟨(by grind), (by grind)⟩  (by grind)
theorem tX9_isLeft {N : Nat} {v_plots : (Nat → Int32)} {v_traded : (Nat → Int32)} {a1 : Int32}  (hN : 49999 < N) (h_v_plots : RA (-1) 11 v_plots) (h_a1 : RB 0 5 a1)  : Ok (fun r => (r = 0 ∧ ¬(LFT v_plots v_traded a1) ∨ r = 1 ∧ LFT v_plots v_traded a1)) (fX9_isLeft N v_plots v_traded a1) := by
  unfold fX9_isLeft
  refine ok_g (ng6 (by grind)) ?_
  refine ok_if (fun c_1 => ?_) (fun c_1 => ?_)
  · exact ok_s (by unfold LFT; grind)
  · refine ok_g (ng6 (by grind)) ?_
    refine ok_if (fun c_2 => ?_) (fun c_2 => ?_)
    · exact ok_s (by unfold LFT; grind)
    · exact ok_s (by unfold LFT; grind)
theorem sX9_leftMany_4 {N : Nat} {v_houses : Int32} {v_plots : (Nat → Int32)} {v_traded : (Nat → Int32)} {K_4 : Int32 → Int32 → Option (Int32)} {l1 : Int32} {l2 : Int32}  {m_4 : Int32} (hN : 49999 < N) (h_v_houses : RB 0 6 v_houses) (h_v_plots : RA (-1) 11 v_plots) (hK_4 : ∀ (l1 : Int32) (l2 : Int32), 0 ≤ l2 ∧ (l1 = nI (cl v_plots v_traded l2.toNatClampNeg)) ∧ (l2 ≤ v_houses) → (v_houses - l2) < m_4 → 0 < m_4 → Ok (fun r => (r = nI (cl v_plots v_traded v_houses.toNatClampNeg))) (K_4 l1 l2)) (hI : 0 ≤ l2 ∧ (l1 = nI (cl v_plots v_traded l2.toNatClampNeg)) ∧ (l2 ≤ v_houses)) (hm_4 : (v_houses - l2) = m_4) : Ok (fun r => (r = nI (cl v_plots v_traded v_houses.toNatClampNeg))) (fX9_leftMany_4 N v_houses v_plots v_traded K_4 l1 l2) := by
  obtain ⟨h_l2, e_0, e_1⟩ := hI
  unfold fX9_leftMany_4
  refine ok_if (fun c_1 => ?_) (fun c_1 => ?_)
  · exact ok_s (by have q : l2 = v_houses := (by clear hK_4; grind); rw [← q]; exact e_0)
  · refine ok_b (tX9_isLeft hN h_v_plots (by clear hm_4 hK_4; grind)) (fun x_15 hx => ?_)
    have h_x_15_0 := hx
    refine ok_if (fun c_2 => ?_) (fun c_2 => ?_)
    · exact hK_4 _ _ ⟨(by clear hm_4 hK_4; grind), (by clear hK_4; first | exact clm_n e_0 (by grind) (by grind) | exact clm_y e_0 (by grind) (by grind)), (by clear hm_4 hK_4; grind)⟩ (by clear hK_4; grind) (by clear hK_4; grind)
    · exact hK_4 _ _ ⟨(by clear hm_4 hK_4; grind), (by clear hK_4; first | exact clm_n e_0 (by grind) (by grind) | exact clm_y e_0 (by grind) (by grind)), (by clear hm_4 hK_4; grind)⟩ (by clear hK_4; grind) (by clear hK_4; grind)
theorem lX9_leftMany_4 {N : Nat} {v_houses : Int32} {v_plots : (Nat → Int32)} {v_traded : (Nat → Int32)}  (hN : 49999 < N) (h_v_houses : RB 0 6 v_houses) (h_v_plots : RA (-1) 11 v_plots)  : ∀ (l1 : Int32) (l2 : Int32), 0 ≤ l2 ∧ (l1 = nI (cl v_plots v_traded l2.toNatClampNeg)) ∧ (l2 ≤ v_houses) → (v_houses - l2) ≤ 49999 → Ok (fun r => (r = nI (cl v_plots v_traded v_houses.toNatClampNeg))) (lfix (fun (K : Int32 × Int32 → Option (Int32)) (a : Int32 × Int32) => fX9_leftMany_4 N v_houses v_plots v_traded (fun (l1 : Int32) (l2 : Int32) => K (l1, l2)) a.1 a.2) N (l1, l2)) := by
  intro l1 l2 hI hM
  exact ok_l (I := fun (a : Int32 × Int32) => (0 ≤ a.2 ∧ (a.1 = nI (cl v_plots v_traded a.2.toNatClampNeg)) ∧ (a.2 ≤ v_houses))) (M := fun (a : Int32 × Int32) => (v_houses - a.2)) (fun K a hI hK => sX9_leftMany_4  hN h_v_houses h_v_plots  (fun l1 l2 hI2  hlt hp => hK (l1, l2) hI2 hlt hp) hI  rfl) N _ hI hN hM
theorem tX9_leftMany {N : Nat} {v_houses : Int32} {v_plots : (Nat → Int32)} {v_traded : (Nat → Int32)}  (hN : 49999 < N) (h_v_houses : RB 0 6 v_houses) (h_v_plots : RA (-1) 11 v_plots)  : Ok (fun r => (r = nI (cl v_plots v_traded v_houses.toNatClampNeg))) (fX9_leftMany N v_houses v_plots v_traded) := by
  unfold fX9_leftMany
  exact lX9_leftMany_4  hN h_v_houses h_v_plots  _ _ ⟨(by grind), rfl, (by grind)⟩  (by grind)
theorem sX9_pointsTo_4 {N : Nat} {v_houses : Int32} {v_plots : (Nat → Int32)} {v_traded : (Nat → Int32)} {v_likes : (Nat → Int32)} {a1 : Int32} {K_4 : Int32 → Int32 → Option (Int32)} {l2 : Int32} {l3 : Int32}  {m_4 : Int32} (hN : 49999 < N) (h_v_houses : RB 0 6 v_houses) (h_v_plots : RA (-1) 11 v_plots) (h_a1 : RB 0 5 a1) (hK_4 : ∀ (l2 : Int32) (l3 : Int32), RB (-1) 5 l2 ∧ 0 ≤ l3 ∧ (PTI v_houses v_plots v_traded l2 l3) → (v_houses - l3) < m_4 → 0 < m_4 → Ok (fun r => RB (-1) 5 r ∧ (PTI v_houses v_plots v_traded r v_houses)) (K_4 l2 l3)) (hI : RB (-1) 5 l2 ∧ 0 ≤ l3 ∧ (PTI v_houses v_plots v_traded l2 l3)) (hm_4 : (v_houses - l3) = m_4) : Ok (fun r => RB (-1) 5 r ∧ (PTI v_houses v_plots v_traded r v_houses)) (fX9_pointsTo_4 N v_houses v_plots v_traded v_likes a1 K_4 l2 l3) := by
  obtain ⟨h_l2, h_l3, e_0⟩ := hI
  unfold fX9_pointsTo_4
  refine ok_if (fun c_1 => ?_) (fun c_1 => ?_)
  · exact ok_s ⟨h_l2, (PTI.fin e_0 (by assumption))⟩
  · refine ok_b (tX9_isLeft hN h_v_plots (by clear hm_4 hK_4; grind)) (fun x_14 hx => ?_)
    have h_x_14_0 := hx
    refine ok_if (fun c_2 => ?_) (fun c_2 => ?_)
    · exact hK_4 _ _ ⟨h_l2, (by clear hm_4 hK_4; grind), (by clear hK_4; first | exact PTI.skip e_0 (by grind) (by grind) | exact PTI.take (by grind) (by grind) | exact PTI.keep e_0 (by grind))⟩ (by clear hK_4; grind) (by clear hK_4; grind)
    · refine ok_g (ng6 (by clear hm_4 hK_4; grind)) ?_
      refine ok_g (ng6 (by clear hm_4 hK_4; grind)) ?_
      refine ok_b (tX9_round hN ) (fun x_34 hx => ?_)
      have h_x_34_0 := hx
      refine ok_g (ng6 (by clear hm_4 hK_4; grind)) ?_
      refine ok_if (fun c_3 => ?_) (fun c_3 => ?_)
      · exact hK_4 _ _ ⟨(by clear hm_4 hK_4; grind), (by clear hm_4 hK_4; grind), (by clear hK_4; first | exact PTI.skip e_0 (by grind) (by grind) | exact PTI.take (by grind) (by grind) | exact PTI.keep e_0 (by grind))⟩ (by clear hK_4; grind) (by clear hK_4; grind)
      · refine ok_g (ng6 (by clear hm_4 hK_4; grind)) ?_
        refine ok_g (ng6 (by clear hm_4 hK_4; grind)) ?_
        refine ok_b (tX9_round hN ) (fun x_68 hx => ?_)
        have h_x_68_0 := hx
        refine ok_g (ng6 (by clear hm_4 hK_4; grind)) ?_
        refine ok_if (fun c_4 => ?_) (fun c_4 => ?_)
        · exact hK_4 _ _ ⟨h_l2, (by clear hm_4 hK_4; grind), (by clear hK_4; first | exact PTI.skip e_0 (by grind) (by grind) | exact PTI.take (by grind) (by grind) | exact PTI.keep e_0 (by grind))⟩ (by clear hK_4; grind) (by clear hK_4; grind)
        · exact hK_4 _ _ ⟨(by clear hm_4 hK_4; grind), (by clear hm_4 hK_4; grind), (by clear hK_4; first | exact PTI.skip e_0 (by grind) (by grind) | exact PTI.take (by grind) (by grind) | exact PTI.keep e_0 (by grind))⟩ (by clear hK_4; grind) (by clear hK_4; grind)
theorem lX9_pointsTo_4 {N : Nat} {v_houses : Int32} {v_plots : (Nat → Int32)} {v_traded : (Nat → Int32)} {v_likes : (Nat → Int32)} {a1 : Int32}  (hN : 49999 < N) (h_v_houses : RB 0 6 v_houses) (h_v_plots : RA (-1) 11 v_plots) (h_a1 : RB 0 5 a1)  : ∀ (l2 : Int32) (l3 : Int32), RB (-1) 5 l2 ∧ 0 ≤ l3 ∧ (PTI v_houses v_plots v_traded l2 l3) → (v_houses - l3) ≤ 49999 → Ok (fun r => RB (-1) 5 r ∧ (PTI v_houses v_plots v_traded r v_houses)) (lfix (fun (K : Int32 × Int32 → Option (Int32)) (a : Int32 × Int32) => fX9_pointsTo_4 N v_houses v_plots v_traded v_likes a1 (fun (l2 : Int32) (l3 : Int32) => K (l2, l3)) a.1 a.2) N (l2, l3)) := by
  intro l2 l3 hI hM
  exact ok_l (I := fun (a : Int32 × Int32) => (RB (-1) 5 a.1 ∧ 0 ≤ a.2 ∧ (PTI v_houses v_plots v_traded a.1 a.2))) (M := fun (a : Int32 × Int32) => (v_houses - a.2)) (fun K a hI hK => sX9_pointsTo_4  hN h_v_houses h_v_plots h_a1  (fun l2 l3 hI2  hlt hp => hK (l2, l3) hI2 hlt hp) hI  rfl) N _ hI hN hM
theorem tX9_pointsTo {N : Nat} {v_houses : Int32} {v_plots : (Nat → Int32)} {v_traded : (Nat → Int32)} {v_likes : (Nat → Int32)} {a1 : Int32}  (hN : 49999 < N) (h_v_houses : RB 0 6 v_houses) (h_v_plots : RA (-1) 11 v_plots) (h_a1 : RB 0 5 a1)  : Ok (fun r => RB (-1) 5 r ∧ (PTI v_houses v_plots v_traded r v_houses)) (fX9_pointsTo N v_houses v_plots v_traded v_likes a1) := by
  unfold fX9_pointsTo
  exact lX9_pointsTo_4  hN h_v_houses h_v_plots h_a1  _ _ ⟨(by grind), (by grind), PTI.zero⟩  (by grind)
theorem sX9_ringOf_9 {N : Nat} {v_points : (Nat → Int32)} {a1 : Int32} {K_9 : Int32 → Int32 → Option (Int32)} {l2 : Int32} {l3 : Int32}  {m_9 : Int32} (hN : 49999 < N) (h_v_points : RA 0 5 v_points) (h_a1 : RB 0 5 a1) (hK_9 : ∀ (l2 : Int32) (l3 : Int32), RB 0 5 l2 ∧ RB 1 7 l3 ∧ (l2 = itr v_points l3.toNatClampNeg a1) ∧ (∀ m : Nat, 1 ≤ m → (m : Int) < l3.toInt → itr v_points m a1 ≠ a1) → (7 - l3) < m_9 → 0 < m_9 → Ok (fun r => (RG v_points a1 r)) (K_9 l2 l3)) (hI : RB 0 5 l2 ∧ RB 1 7 l3 ∧ (l2 = itr v_points l3.toNatClampNeg a1) ∧ (∀ m : Nat, 1 ≤ m → (m : Int) < l3.toInt → itr v_points m a1 ≠ a1)) (hm_9 : (7 - l3) = m_9) : Ok (fun r => (RG v_points a1 r)) (fX9_ringOf_9 N v_points a1 K_9 l2 l3) := by
  obtain ⟨h_l2, h_l3, e_0, e_1⟩ := hI
  unfold fX9_ringOf_9
  refine ok_if (fun c_1 => ?_) (fun c_1 => ?_)
  · refine ok_if (fun c_2 => ?_) (fun c_2 => ?_)
    · exact ok_s (by clear hK_9; first | exact rg_1 e_0 (by assumption) (by clear e_1; grind) | exact rg_0 e_0 e_1 c_1 (by clear e_1; grind) | exact absurd (by assumption) c_1 | exact absurd c_1 (by assumption))
    · exact ok_s (by clear hK_9; first | exact rg_1 e_0 (by assumption) (by clear e_1; grind) | exact rg_0 e_0 e_1 c_1 (by clear e_1; grind) | exact absurd (by assumption) c_1 | exact absurd c_1 (by assumption))
  · refine ok_if (fun c_3 => ?_) (fun c_3 => ?_)
    · refine ok_if (fun c_4 => ?_) (fun c_4 => ?_)
      · exact ok_s (by clear hK_9; first | exact rg_1 e_0 (by assumption) (by clear e_1; grind) | exact rg_0 e_0 e_1 c_1 (by clear e_1; grind) | exact absurd (by assumption) c_1 | exact absurd c_1 (by assumption))
      · exact ok_s (by clear hK_9; first | exact rg_1 e_0 (by assumption) (by clear e_1; grind) | exact rg_0 e_0 e_1 c_1 (by clear e_1; grind) | exact absurd (by assumption) c_1 | exact absurd c_1 (by assumption))
    · refine ok_g (ng6 (by clear hm_9 hK_9; grind)) ?_
      exact hK_9 _ _ ⟨(by clear hm_9 hK_9; have := h_v_points ((l2).toNatClampNeg); grind), (by clear hm_9 hK_9; grind), (rg_a e_0 (by clear hK_9 e_1; grind)), (rg_b e_0 e_1 c_1 (by clear hK_9 e_1; grind))⟩ (by clear hK_9; grind) (by clear hK_9; grind)
theorem lX9_ringOf_9 {N : Nat} {v_points : (Nat → Int32)} {a1 : Int32}  (hN : 49999 < N) (h_v_points : RA 0 5 v_points) (h_a1 : RB 0 5 a1)  : ∀ (l2 : Int32) (l3 : Int32), RB 0 5 l2 ∧ RB 1 7 l3 ∧ (l2 = itr v_points l3.toNatClampNeg a1) ∧ (∀ m : Nat, 1 ≤ m → (m : Int) < l3.toInt → itr v_points m a1 ≠ a1) → (7 - l3) ≤ 49999 → Ok (fun r => (RG v_points a1 r)) (lfix (fun (K : Int32 × Int32 → Option (Int32)) (a : Int32 × Int32) => fX9_ringOf_9 N v_points a1 (fun (l2 : Int32) (l3 : Int32) => K (l2, l3)) a.1 a.2) N (l2, l3)) := by
  intro l2 l3 hI hM
  exact ok_l (I := fun (a : Int32 × Int32) => (RB 0 5 a.1 ∧ RB 1 7 a.2 ∧ (a.1 = itr v_points a.2.toNatClampNeg a1) ∧ (∀ m : Nat, 1 ≤ m → (m : Int) < a.2.toInt → itr v_points m a1 ≠ a1))) (M := fun (a : Int32 × Int32) => (7 - a.2)) (fun K a hI hK => sX9_ringOf_9  hN h_v_points h_a1  (fun l2 l3 hI2  hlt hp => hK (l2, l3) hI2 hlt hp) hI  rfl) N _ hI hN hM
theorem tX9_ringOf {N : Nat} {v_points : (Nat → Int32)} {a1 : Int32}  (hN : 49999 < N) (h_v_points : RA 0 5 v_points) (h_a1 : RB 0 5 a1)  : Ok (fun r => (RG v_points a1 r)) (fX9_ringOf N v_points a1) := by
  unfold fX9_ringOf
  refine ok_g (ng6 (by grind)) ?_
  exact lX9_ringOf_9  hN h_v_points h_a1  _ _ ⟨(by have := h_v_points ((a1).toNatClampNeg); grind), (by grind), rfl, (fun m h1 h2 => absurd h2 (by have : (1 : Int32).toInt = 1 := rfl; omega))⟩  (by grind)
theorem lo_all {N : Nat} {v_points : Nat → Int32} {a1 : Int32} (hr : RA 0 5 v_points) : ∀ (m : Nat) (l2 l3 : Int32) (n : Nat), RB 0 5 l3 → (l2 = 0 ∨ l2 = 1) → itr v_points m l3 = a1 → m < n → Ok (fun r => (r = 0 ∨ r = 1)) (lfix (fun (K : Int32 × Int32 → Option (Int32)) (a : Int32 × Int32) => fX9_isLeastOn_9 N v_points a1 (fun (l2 : Int32) (l3 : Int32) => K (l2, l3)) a.1 a.2) n (l2, l3)) := by
  intro m
  induction m with
  | zero =>
    intro l2 l3 n h3 h2 e hn
    obtain ⟨k, rfl⟩ : ∃ k, n = k + 1 := ⟨n - 1, by omega⟩
    rw [lfix_s]
    show Ok _ (fX9_isLeastOn_9 N v_points a1 _ l2 l3)
    unfold fX9_isLeastOn_9
    exact ok_n e (ok_g (fun q => q h2) (ok_s h2))
  | succ m ih =>
    intro l2 l3 n h3 h2 e hn
    obtain ⟨k, rfl⟩ : ∃ k, n = k + 1 := ⟨n - 1, by omega⟩
    rw [lfix_s]
    show Ok _ (fX9_isLeastOn_9 N v_points a1 _ l2 l3)
    unfold fX9_isLeastOn_9
    have g : ¬ (l3 < 0 ∨ 6 ≤ l3.toNatClampNeg) := ng6 (by grind)
    have r := hr l3.toNatClampNeg
    refine ok_if (fun c => ok_g (fun q => q h2) (ok_s h2)) (fun c => ?_)
    refine ok_if (fun c2 => ok_g g (ih _ _ k r (Or.inl rfl) e (by omega))) (fun c2 => ?_)
    exact ok_if (fun c3 => ok_g g (ih _ _ k r (Or.inl rfl) e (by omega))) (fun c3 => ok_g g (ih _ _ k r (Or.inr rfl) e (by omega)))
theorem tX9_isLeastOn {N : Nat} {v_points : Nat → Int32} {a1 : Int32} (hN : 49999 < N) (h_v_points : RA 0 5 v_points) (h_a1 : RB 0 5 a1) (e_0 : ∃ m : Nat, (1 ≤ m ∧ m ≤ 7) ∧ itr v_points m a1 = a1) : Ok (fun r => (r = 0 ∨ r = 1)) (fX9_isLeastOn N v_points a1) := by
  unfold fX9_isLeastOn
  obtain ⟨m, hm, e⟩ := e_0
  obtain ⟨k, rfl⟩ : ∃ k, m = k + 1 := ⟨m - 1, by omega⟩
  exact ok_g (ng6 (by grind)) (lo_all h_v_points k 1 _ N (h_v_points _) (Or.inr rfl) e (by omega))
theorem tr_161 {N : Nat} {v_houses : Int32} {v_plots v_likes : Nat → Int32} {K_26 : Int32 → (Nat → Int32) → (Nat → Int32) → (Nat → Int32) → Option (Int32 × (Nat → Int32) × (Nat → Int32) × (Nat → Int32))} {P : Int32 × (Nat → Int32) × (Nat → Int32) × (Nat → Int32) → Prop} {T pts rl : Nat → Int32} (hN : 49999 < N) (hh : RB 0 6 v_houses) (hr : RA 0 5 pts) (hK : ∀ rm t, (∀ k : Nat, (k : Int) < v_houses.toInt → t k = if 0 < rl k then v_plots (pts k).toNatClampNeg else T k) → Ok P (K_26 rm t pts rl)) (rm : Int32) : Ok P (lfix (fun (K : Int32 × Int32 × (Nat → Int32) × (Nat → Int32) × (Nat → Int32) → Option (Int32 × (Nat → Int32) × (Nat → Int32) × (Nat → Int32))) (a : Int32 × Int32 × (Nat → Int32) × (Nat → Int32) × (Nat → Int32)) => fX9_trade_161 N v_houses v_plots v_likes K_26 (fun (l1 : Int32) (v_ringsMany : Int32) (v_traded : (Nat → Int32)) (v_points : (Nat → Int32)) (v_ringLong : (Nat → Int32)) => K (l1, v_ringsMany, v_traded, v_points, v_ringLong)) a.1 a.2.1 a.2.2.1 a.2.2.2.1 a.2.2.2.2) N (0, rm, T, pts, rl)) := by
  refine ok_l (I := fun (a : Int32 × Int32 × (Nat → Int32) × (Nat → Int32) × (Nat → Int32)) => 0 ≤ a.1 ∧ a.2.2.2.1 = pts ∧ a.2.2.2.2 = rl ∧ ∀ k : Nat, ((k : Int) < a.1.toInt → a.2.2.1 k = if 0 < rl k then v_plots (pts k).toNatClampNeg else T k) ∧ (a.1.toInt ≤ k → a.2.2.1 k = T k)) (M := fun (a : Int32 × Int32 × (Nat → Int32) × (Nat → Int32) × (Nat → Int32)) => v_houses - a.1) (fun K a hI hK2 => ?_) N _ ⟨(show (0 : Int32) ≤ 0 from by decide), rfl, rfl, fun k => ⟨fun q => absurd q (by have : (0 : Int32).toInt = 0 := rfl; show ¬ ((k : Int) < (0 : Int32).toInt); omega), fun _ => rfl⟩⟩ hN (by show v_houses - 0 ≤ 49999; grind)
  obtain ⟨l, rm, t, p, r⟩ := a
  obtain ⟨h0, e1, e2, ht⟩ := hI
  have h0 : 0 ≤ l := h0
  have e1 : p = pts := e1
  have e2 : r = rl := e2
  have ht : ∀ k : Nat, ((k : Int) < l.toInt → t k = if 0 < rl k then v_plots (pts k).toNatClampNeg else T k) ∧ (l.toInt ≤ k → t k = T k) := ht
  subst e1
  subst e2
  have hK2 : ∀ b : Int32 × Int32 × (Nat → Int32) × (Nat → Int32) × (Nat → Int32), _ → v_houses - b.1 < v_houses - l → 0 < v_houses - l → Ok P (K b) := hK2
  show Ok _ (fX9_trade_161 N v_houses v_plots v_likes K_26 _ l rm t p r)
  unfold fX9_trade_161
  refine ok_if (fun c => hK _ _ (fun k hk => (ht k).1 (by rw [fa_le] at c; omega))) (fun c => ?_)
  have g : ¬ (l < 0 ∨ 6 ≤ l.toNatClampNeg) := ng6 (by clear hK2 ht; grind)
  have q := hr l.toNatClampNeg
  have t1 := tnc h0
  have a1 := add1 h0 (by clear hK2 ht; grind)
  have stp : ∀ v : Int32, (v = if 0 < r l.toNatClampNeg then v_plots (p l.toNatClampNeg).toNatClampNeg else T l.toNatClampNeg) → ∀ k : Nat, ((k : Int) < (l + 1).toInt → upd t l.toNatClampNeg v k = if 0 < r k then v_plots (p k).toNatClampNeg else T k) ∧ ((l + 1).toInt ≤ k → upd t l.toNatClampNeg v k = T k) := fun v hv k => by
    by_cases kk : k = l.toNatClampNeg
    · subst kk
      rw [pk_us]
      exact ⟨fun _ => hv, fun w => by omega⟩
    · rw [pk_un kk]
      exact ⟨fun w => (ht k).1 (by omega), fun w => (ht k).2 (by omega)⟩
  refine ok_g g (ok_if (fun c2 => ?_) (fun c2 => ?_))
  · refine ok_g g (ok_g g (hK2 (l + 1, rm, _, p, r) ⟨by show 0 ≤ l + 1; clear hK2 ht stp; grind, rfl, rfl, stp _ ?_⟩ (by show v_houses - (l + 1) < v_houses - l; clear hK2 ht stp; grind) (by clear hK2 ht stp; grind)))
    rw [if_neg (by clear hK2 ht stp; grind)]
    exact (ht _).2 (by omega)
  · refine ok_g g (ok_g (ng6 (by clear hK2 ht stp; grind)) (ok_g g (hK2 (l + 1, rm, _, p, r) ⟨by show 0 ≤ l + 1; clear hK2 ht stp; grind, rfl, rfl, stp _ ?_⟩ (by show v_houses - (l + 1) < v_houses - l; clear hK2 ht stp; grind) (by clear hK2 ht stp; grind))))
    rw [if_pos (by clear hK2 ht stp; grind)]
theorem tr_113 {N : Nat} {v_houses : Int32} {v_plots v_likes : Nat → Int32} {K_26 : Int32 → (Nat → Int32) → (Nat → Int32) → (Nat → Int32) → Option (Int32 × (Nat → Int32) × (Nat → Int32) × (Nat → Int32))} {P : Int32 × (Nat → Int32) × (Nat → Int32) × (Nat → Int32) → Prop} {T pts rl : Nat → Int32} (hN : 49999 < N) (hh : RB 0 6 v_houses) (hr : RA 0 5 pts) (hl : ∀ h : Int32, 0 ≤ h → h < v_houses → 1 < rl h.toNatClampNeg → RG pts h (rl h.toNatClampNeg)) (hK : ∀ rm t, (∀ k : Nat, (k : Int) < v_houses.toInt → t k = if 0 < rl k then v_plots (pts k).toNatClampNeg else T k) → Ok P (K_26 rm t pts rl)) (rm : Int32) : Ok P (lfix (fun (K : Int32 × Int32 × (Nat → Int32) × (Nat → Int32) × (Nat → Int32) → Option (Int32 × (Nat → Int32) × (Nat → Int32) × (Nat → Int32))) (a : Int32 × Int32 × (Nat → Int32) × (Nat → Int32) × (Nat → Int32)) => fX9_trade_113 N v_houses v_plots v_likes K_26 (fun (l1 : Int32) (v_ringsMany : Int32) (v_traded : (Nat → Int32)) (v_points : (Nat → Int32)) (v_ringLong : (Nat → Int32)) => K (l1, v_ringsMany, v_traded, v_points, v_ringLong)) a.1 a.2.1 a.2.2.1 a.2.2.2.1 a.2.2.2.2) N (0, rm, T, pts, rl)) := by
  refine ok_l (I := fun (a : Int32 × Int32 × (Nat → Int32) × (Nat → Int32) × (Nat → Int32)) => 0 ≤ a.1 ∧ a.2.2.1 = T ∧ a.2.2.2.1 = pts ∧ a.2.2.2.2 = rl) (M := fun (a : Int32 × Int32 × (Nat → Int32) × (Nat → Int32) × (Nat → Int32)) => v_houses - a.1) (fun K a hI hK2 => ?_) N _ ⟨(show (0 : Int32) ≤ 0 from by decide), rfl, rfl, rfl⟩ hN (by show v_houses - 0 ≤ 49999; grind)
  obtain ⟨l, rm, t, p, r⟩ := a
  obtain ⟨h0, e0, e1, e2⟩ := hI
  have h0 : 0 ≤ l := h0
  have e0 : t = T := e0
  have e1 : p = pts := e1
  have e2 : r = rl := e2
  subst e0
  subst e1
  subst e2
  have hK2 : ∀ b : Int32 × Int32 × (Nat → Int32) × (Nat → Int32) × (Nat → Int32), _ → v_houses - b.1 < v_houses - l → 0 < v_houses - l → Ok P (K b) := hK2
  show Ok _ (fX9_trade_113 N v_houses v_plots v_likes K_26 _ l rm t p r)
  unfold fX9_trade_113
  refine ok_if (fun c => tr_161 hN hh hr hK _) (fun c => ?_)
  have g : ¬ (l < 0 ∨ 6 ≤ l.toNatClampNeg) := ng6 (by clear hK2 hl hK; grind)
  have kk : ∀ rm2, Ok P (K (l + 1, rm2, t, p, r)) := fun rm2 => hK2 (l + 1, rm2, t, p, r) ⟨by show 0 ≤ l + 1; clear hK2 hl hK; grind, rfl, rfl, rfl⟩ (by show v_houses - (l + 1) < v_houses - l; clear hK2 hl hK; grind) (by clear hK2 hl hK; grind)
  refine ok_g g (ok_if (fun c2 => kk _) (fun c2 => ?_))
  have hg := hl l h0 (by clear hK2 hl hK kk; grind) (by clear hK2 hl hK kk; grind)
  have ex : ∃ m : Nat, (1 ≤ m ∧ m ≤ 7) ∧ itr p m l = l := by
    rcases hg with hg | hg
    · exact absurd hg.1 (by clear hK2 hl hK kk hg; grind)
    · have b1 := hg.1.1
      have b2 := hg.1.2
      have t1 := tnc (x := r l.toNatClampNeg) (by clear hK2 hl hK kk hg; grind)
      have z7 : (7 : Int32).toInt = 7 := rfl
      have z1 : (1 : Int32).toInt = 1 := rfl
      rw [fa_le, z1] at b1
      rw [fa_le, z7] at b2
      exact ⟨_, ⟨by omega, by omega⟩, hg.2⟩
  refine ok_b (tX9_isLeastOn hN hr (by clear hK2 hl hK kk hg; grind) ex) (fun x _ => ?_)
  exact ok_if (fun _ => kk _) (fun _ => kk _)
theorem tr_74 {N : Nat} {v_houses : Int32} {v_plots v_likes : Nat → Int32} {K_26 : Int32 → (Nat → Int32) → (Nat → Int32) → (Nat → Int32) → Option (Int32 × (Nat → Int32) × (Nat → Int32) × (Nat → Int32))} {P : Int32 × (Nat → Int32) × (Nat → Int32) × (Nat → Int32) → Prop} {T pts : Nat → Int32} (hN : 49999 < N) (hh : RB 0 6 v_houses) (hp : RA (-1) 11 v_plots) (hr : RA 0 5 pts) (hK : ∀ rl rm t, (∀ h : Int32, 0 ≤ h → h < v_houses → (LFT v_plots T h → RG pts h (rl h.toNatClampNeg)) ∧ (¬ LFT v_plots T h → rl h.toNatClampNeg = 0)) → (∀ k : Nat, (k : Int) < v_houses.toInt → t k = if 0 < rl k then v_plots (pts k).toNatClampNeg else T k) → Ok P (K_26 rm t pts rl)) (rm : Int32) (rl : Nat → Int32) : Ok P (lfix (fun (K : Int32 × Int32 × (Nat → Int32) × (Nat → Int32) × (Nat → Int32) → Option (Int32 × (Nat → Int32) × (Nat → Int32) × (Nat → Int32))) (a : Int32 × Int32 × (Nat → Int32) × (Nat → Int32) × (Nat → Int32)) => fX9_trade_74 N v_houses v_plots v_likes K_26 (fun (l1 : Int32) (v_ringsMany : Int32) (v_traded : (Nat → Int32)) (v_points : (Nat → Int32)) (v_ringLong : (Nat → Int32)) => K (l1, v_ringsMany, v_traded, v_points, v_ringLong)) a.1 a.2.1 a.2.2.1 a.2.2.2.1 a.2.2.2.2) N (0, rm, T, pts, rl)) := by
  refine ok_l (I := fun (a : Int32 × Int32 × (Nat → Int32) × (Nat → Int32) × (Nat → Int32)) => 0 ≤ a.1 ∧ a.2.2.1 = T ∧ a.2.2.2.1 = pts ∧ ∀ h : Int32, 0 ≤ h → h < a.1 → (LFT v_plots T h → RG pts h (a.2.2.2.2 h.toNatClampNeg)) ∧ (¬ LFT v_plots T h → a.2.2.2.2 h.toNatClampNeg = 0)) (M := fun (a : Int32 × Int32 × (Nat → Int32) × (Nat → Int32) × (Nat → Int32)) => v_houses - a.1) (fun K a hI hK2 => ?_) N _ ⟨(show (0 : Int32) ≤ 0 from by decide), rfl, rfl, fun h h0 h1 => absurd h1 (by show ¬ h < 0; grind)⟩ hN (by show v_houses - 0 ≤ 49999; grind)
  obtain ⟨l, rm, t, p, r⟩ := a
  obtain ⟨h0, e0, e1, hg⟩ := hI
  have h0 : 0 ≤ l := h0
  have e0 : t = T := e0
  have e1 : p = pts := e1
  have hg : ∀ h : Int32, 0 ≤ h → h < l → (LFT v_plots T h → RG pts h (r h.toNatClampNeg)) ∧ (¬ LFT v_plots T h → r h.toNatClampNeg = 0) := hg
  subst e0
  subst e1
  have hK2 : ∀ b : Int32 × Int32 × (Nat → Int32) × (Nat → Int32) × (Nat → Int32), _ → v_houses - b.1 < v_houses - l → 0 < v_houses - l → Ok P (K b) := hK2
  show Ok _ (fX9_trade_74 N v_houses v_plots v_likes K_26 _ l rm t p r)
  unfold fX9_trade_74
  refine ok_if (fun c => ?_) (fun c => ?_)
  · have fin : ∀ h : Int32, 0 ≤ h → h < v_houses → (LFT v_plots t h → RG p h (r h.toNatClampNeg)) ∧ (¬ LFT v_plots t h → r h.toNatClampNeg = 0) := fun h q0 q1 => hg h q0 (by clear hK2 hK hg; grind)
    refine tr_113 hN hh hr (fun h q0 q1 q2 => ?_) (fun rm2 t2 ht2 => hK r rm2 t2 fin ht2) rm
    by_cases w : LFT v_plots t h
    · exact (fin h q0 q1).1 w
    · have := (fin h q0 q1).2 w
      rw [this] at q2
      exact absurd q2 (by decide)
  · have g : ¬ (l < 0 ∨ 6 ≤ l.toNatClampNeg) := ng6 (by clear hK2 hK hg; grind)
    have stp : ∀ v : Int32, ((LFT v_plots t l → RG p l v) ∧ (¬ LFT v_plots t l → v = 0)) → ∀ h : Int32, 0 ≤ h → h < l + 1 → (LFT v_plots t h → RG p h (upd r l.toNatClampNeg v h.toNatClampNeg)) ∧ (¬ LFT v_plots t h → upd r l.toNatClampNeg v h.toNatClampNeg = 0) := fun v hv h q0 q1 => by
      by_cases w : h = l
      · subst w; rw [pk_us]; exact hv
      · rw [pk_un (fun z => w (tn_inj q0 h0 z))]
        exact hg h q0 (by clear hK2 hK hg; grind)
    have kk : ∀ v : Int32, ((LFT v_plots t l → RG p l v) ∧ (¬ LFT v_plots t l → v = 0)) → Ok P (K (l + 1, rm, t, p, upd r l.toNatClampNeg v)) := fun v hv => hK2 (l + 1, rm, t, p, _) ⟨by show 0 ≤ l + 1; clear hK2 hK hg stp; grind, rfl, rfl, stp v hv⟩ (by show v_houses - (l + 1) < v_houses - l; clear hK2 hK hg stp; grind) (by clear hK2 hK hg stp; grind)
    refine ok_b (tX9_isLeft hN hp (by clear hK2 hK hg stp kk; grind)) (fun x hx => ?_)
    refine ok_if (fun c2 => ?_) (fun c2 => ?_)
    · have nl : ¬ LFT v_plots t l := by clear hK2 hK hg stp kk; grind
      exact ok_g g (kk 0 ⟨fun q => absurd q nl, fun _ => rfl⟩)
    · have yl : LFT v_plots t l := by clear hK2 hK hg stp kk; grind
      refine ok_b (tX9_ringOf hN hr (by clear hK2 hK hg stp kk; grind)) (fun y hy => ?_)
      exact ok_g g (kk y ⟨fun _ => hy, fun q => absurd yl q⟩)
