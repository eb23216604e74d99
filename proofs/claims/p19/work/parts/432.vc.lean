theorem sX9_placeOf_2 {N : Nat} {v_row : (Nat → Int32)} {a1 : Int32} {K_2 : Int32 → Option (Int32)} {l2 : Int32}  {m_2 : Int32} (hN : 49999 < N) (h_v_row : RA 0 5 v_row) (h_a1 : RB 0 5 a1) (hK_2 : ∀ (l2 : Int32), (0 ≤ l2 ∧ l2 < 6) ∧ (∃ k : Int32, (l2 ≤ k ∧ k < 6) ∧ v_row k.toNatClampNeg = a1) → (6 - l2) < m_2 → 0 < m_2 → Ok (fun r => True) (K_2 l2)) (hI : (0 ≤ l2 ∧ l2 < 6) ∧ (∃ k : Int32, (l2 ≤ k ∧ k < 6) ∧ v_row k.toNatClampNeg = a1)) (hm_2 : (6 - l2) = m_2) : Ok (fun r => True) (fX9_placeOf_2 N v_row a1 K_2 l2) := by
  obtain ⟨e_0, e_1⟩ := hI
  unfold fX9_placeOf_2
  refine ok_g (ng6 (by clear hm_2 hK_2; grind)) ?_
  refine ok_if (fun c_1 => ?_) (fun c_1 => ?_)
  · exact ok_s trivial
  · exact hK_2 _ ⟨(by obtain ⟨k, hk, hx⟩ := e_1; have := pl_step hx (by assumption) hk; clear hK_2; grind), (by obtain ⟨k, hk, hx⟩ := e_1; exact ⟨k, ⟨pl_step hx (by assumption) hk, hk.2⟩, hx⟩)⟩ (by clear hK_2; grind) (by clear hK_2; grind)
theorem lX9_placeOf_2 {N : Nat} {v_row : (Nat → Int32)} {a1 : Int32}  (hN : 49999 < N) (h_v_row : RA 0 5 v_row) (h_a1 : RB 0 5 a1)  : ∀ (l2 : Int32), (0 ≤ l2 ∧ l2 < 6) ∧ (∃ k : Int32, (l2 ≤ k ∧ k < 6) ∧ v_row k.toNatClampNeg = a1) → (6 - l2) ≤ 49999 → Ok (fun r => True) (lfix (fun (K : Int32 → Option (Int32)) (a : Int32) => fX9_placeOf_2 N v_row a1 (fun (l2 : Int32) => K l2) a) N (l2)) := by
  intro l2 hI hM
  exact ok_l (I := fun (a : Int32) => ((0 ≤ a ∧ a < 6) ∧ (∃ k : Int32, (a ≤ k ∧ k < 6) ∧ v_row k.toNatClampNeg = a1))) (M := fun (a : Int32) => (6 - a)) (fun K a hI hK => sX9_placeOf_2  hN h_v_row h_a1  (fun l2 hI2  hlt hp => hK (l2) hI2 hlt hp) hI  rfl) N _ hI hN hM
theorem tX9_placeOf {N : Nat} {v_row : (Nat → Int32)} {a1 : Int32}  (hN : 49999 < N) (h_v_row : RA 0 5 v_row) (h_a1 : RB 0 5 a1) (e_0 : ∃ k : Int32, (0 ≤ k ∧ k < 6) ∧ v_row k.toNatClampNeg = a1)  : Ok (fun r => True) (fX9_placeOf N v_row a1) := by
  unfold fX9_placeOf
  exact lX9_placeOf_2  hN h_v_row h_a1  _ ⟨(by grind), (by grind)⟩  (by grind)
theorem tX9_isLeft {N : Nat} {v_plots : (Nat → Int32)} {v_traded : (Nat → Int32)} {a1 : Int32}  (hN : 49999 < N) (h_v_plots : RA (-1) 11 v_plots) (h_a1 : RB 0 5 a1)  : Ok (fun r => (r = 0 ∧ ¬(LFT v_plots v_traded a1) ∨ r = 1 ∧ LFT v_plots v_traded a1)) (fX9_isLeft N v_plots v_traded a1) := by
  unfold fX9_isLeft
  refine ok_g (ng6 (by grind)) ?_
  refine ok_if (fun c_1 => ?_) (fun c_1 => ?_)
  · exact ok_s (by unfold LFT; grind)
  · refine ok_g (ng6 (by grind)) ?_
    refine ok_if (fun c_2 => ?_) (fun c_2 => ?_)
    · exact ok_s (by unfold LFT; grind)
    · exact ok_s (by unfold LFT; grind)
theorem sX9_leftMany_4 {N : Nat} {v_houses : Int32} {v_plots : (Nat → Int32)} {v_traded : (Nat → Int32)} {K_4 : Int32 → Int32 → Option (Int32)} {l1 : Int32} {l2 : Int32}  {m_4 : Int32} (hN : 49999 < N) (h_v_houses : RB 0 6 v_houses) (h_v_plots : RA (-1) 11 v_plots) (hK_4 : ∀ (l1 : Int32) (l2 : Int32), 0 ≤ l2 ∧ (l1 = nI (cl v_plots v_traded l2.toNatClampNeg)) ∧ (l2 ≤ v_houses) → (v_houses - l2) < m_4 → 0 < m_4 → Ok (fun r => (r = nI (cl v_plots v_traded v_houses.toNatClampNeg))) (K_4 l1 l2)) (hI : 0 ≤ l2 ∧ (l1 = nI (cl v_plots v_traded l2.toNatClampNeg)) ∧ (l2 ≤ v_houses)) (hm_4 : (v_houses - l2) = m_4) : Ok (fun r => (r = nI (cl v_plots v_traded v_houses.toNatClampNeg))) (fX9_leftMany_4 N v_houses v_plots v_traded K_4 l1 l2) := by
  obtain ⟨h_l2, e_0, e_1⟩ := hI
  unfold fX9_leftMany_4
  refine ok_if (fun c_1 => ?_) (fun c_1 => ?_)
  · exact ok_s (by have q : l2 = v_houses := (by clear hK_4; grind); rw [← q]; exact e_0)
  · refine ok_b (tX9_isLeft hN h_v_plots (by clear hm_4 hK_4; grind)) (fun x_15 hx => ?_)
    have h_x_15_0 := hx
    refine ok_if (fun c_2 => ?_) (fun c_2 => ?_)
    · exact hK_4 _ _ ⟨(by clear hm_4 hK_4; grind), (by clear hK_4; first | exact clm_n e_0 (by grind) (by grind) | exact clm_y e_0 (by grind) (by grind)), (by clear hm_4 hK_4; grind)⟩ (by clear hK_4; grind) (by clear hK_4; grind)
    · exact hK_4 _ _ ⟨(by clear hm_4 hK_4; grind), (by clear hK_4; first | exact clm_n e_0 (by grind) (by grind) | exact clm_y e_0 (by grind) (by grind)), (by clear hm_4 hK_4; grind)⟩ (by clear hK_4; grind) (by clear hK_4; grind)
theorem lX9_leftMany_4 {N : Nat} {v_houses : Int32} {v_plots : (Nat → Int32)} {v_traded : (Nat → Int32)}  (hN : 49999 < N) (h_v_houses : RB 0 6 v_houses) (h_v_plots : RA (-1) 11 v_plots)  : ∀ (l1 : Int32) (l2 : Int32), 0 ≤ l2 ∧ (l1 = nI (cl v_plots v_traded l2.toNatClampNeg)) ∧ (l2 ≤ v_houses) → (v_houses - l2) ≤ 49999 → Ok (fun r => (r = nI (cl v_plots v_traded v_houses.toNatClampNeg))) (lfix (fun (K : Int32 × Int32 → Option (Int32)) (a : Int32 × Int32) => fX9_leftMany_4 N v_houses v_plots v_traded (fun (l1 : Int32) (l2 : Int32) => K (l1, l2)) a.1 a.2) N (l1, l2)) := by
  intro l1 l2 hI hM
  exact ok_l (I := fun (a : Int32 × Int32) => (0 ≤ a.2 ∧ (a.1 = nI (cl v_plots v_traded a.2.toNatClampNeg)) ∧ (a.2 ≤ v_houses))) (M := fun (a : Int32 × Int32) => (v_houses - a.2)) (fun K a hI hK => sX9_leftMany_4  hN h_v_houses h_v_plots  (fun l1 l2 hI2  hlt hp => hK (l1, l2) hI2 hlt hp) hI  rfl) N _ hI hN hM
theorem tX9_leftMany {N : Nat} {v_houses : Int32} {v_plots : (Nat → Int32)} {v_traded : (Nat → Int32)}  (hN : 49999 < N) (h_v_houses : RB 0 6 v_houses) (h_v_plots : RA (-1) 11 v_plots)  : Ok (fun r => (r = nI (cl v_plots v_traded v_houses.toNatClampNeg))) (fX9_leftMany N v_houses v_plots v_traded) := by
  unfold fX9_leftMany
  exact lX9_leftMany_4  hN h_v_houses h_v_plots  _ _ ⟨(by grind), rfl, (by grind)⟩  (by grind)
theorem sX9_pointsTo_4 {N : Nat} {v_houses : Int32} {v_plots : (Nat → Int32)} {v_traded : (Nat → Int32)} {v_likes : (Nat → Int32)} {a1 : Int32} {K_4 : Int32 → Int32 → Option (Int32)} {l2 : Int32} {l3 : Int32}  {m_4 : Int32} (hN : 49999 < N) (h_v_houses : RB 0 6 v_houses) (h_v_plots : RA (-1) 11 v_plots) (h_a1 : RB 0 5 a1) (hK_4 : ∀ (l2 : Int32) (l3 : Int32), RB (-1) 5 l2 ∧ 0 ≤ l3 ∧ (PTI v_houses v_plots v_traded l2 l3) ∧ (PTM v_plots v_traded v_likes a1 l2 l3) → (v_houses - l3) < m_4 → 0 < m_4 → Ok (fun r => RB (-1) 5 r ∧ (PTI v_houses v_plots v_traded r v_houses) ∧ (PTM v_plots v_traded v_likes a1 r v_houses)) (K_4 l2 l3)) (hI : RB (-1) 5 l2 ∧ 0 ≤ l3 ∧ (PTI v_houses v_plots v_traded l2 l3) ∧ (PTM v_plots v_traded v_likes a1 l2 l3)) (hm_4 : (v_houses - l3) = m_4) : Ok (fun r => RB (-1) 5 r ∧ (PTI v_houses v_plots v_traded r v_houses) ∧ (PTM v_plots v_traded v_likes a1 r v_houses)) (fX9_pointsTo_4 N v_houses v_plots v_traded v_likes a1 K_4 l2 l3) := by
  obtain ⟨h_l2, h_l3, e_0, e_1⟩ := hI
  unfold fX9_pointsTo_4
  refine ok_if (fun c_1 => ?_) (fun c_1 => ?_)
  · exact ok_s ⟨h_l2, PTI.fin e_0 c_1, PTM.fin e_1 c_1⟩
  · have l3n : 0 ≤ l3 ∧ l3 < v_houses := by clear e_0 e_1 hm_4 hK_4; grind
    have l35 : RB 0 5 l3 := by clear e_0 e_1 hm_4 hK_4 c_1; grind
    have l3h : 0 ≤ l3 ∧ l3 ≤ 100 := by clear e_0 e_1 hm_4 hK_4 c_1 l3n; grind
    have l3s : 0 ≤ l3 + 1 := by clear e_0 e_1 hm_4 hK_4 c_1 l3n l35; grind
    have l3b : RB (-1) 5 l3 := by clear e_0 e_1 hm_4 hK_4 c_1 l3n l3h; grind
    have k1 : v_houses - (l3 + 1) < m_4 := by clear e_0 e_1 hK_4 l3b l3s; grind
    have k2 : 0 < m_4 := by clear e_0 e_1 hK_4 l3b l3s k1; grind
    have g3 : ¬ (l3 < 0 ∨ 6 ≤ l3.toNatClampNeg) := ng6 (by clear e_0 e_1 hm_4 hK_4 c_1 l3n l3h k1 k2; grind)
    have ga : ¬ (a1 < 0 ∨ 6 ≤ a1.toNatClampNeg) := ng6 (by clear e_0 e_1 hm_4 hK_4 c_1 l3n l3h k1 k2 g3; grind)
    refine ok_b (tX9_isLeft hN h_v_plots l35) (fun x_14 hx => ?_)
    refine ok_if (fun c_2 => ?_) (fun c_2 => ?_)
    · have nl : ¬ LFT v_plots v_traded l3 := by
        rcases hx with hx | hx
        · exact hx.2
        · rw [hx.1] at c_2
          exact absurd c_2 (by decide)
      exact hK_4 _ _ ⟨h_l2, l3s, PTI.skip e_0 nl l3h, PTM.skip e_1 nl l3h⟩ k1 k2
    · have yl : LFT v_plots v_traded l3 := by
        rcases hx with hx | hx
        · exact absurd hx.1 c_2
        · exact hx.2
      refine ok_g g3 (ok_g ga (ok_b (tX9_round hN) (fun x_34 h34 => ok_g g3 (ok_if (fun c_3 => ?_) (fun c_3 => ?_)))))
      · exact hK_4 _ _ ⟨l3b, l3s, PTI.take yl l3n, PTM.first e_0 c_3 l3h⟩ k1 k2
      · have g2 : ¬ (l2 < 0 ∨ 6 ≤ l2.toNatClampNeg) := ng6 (by clear e_0 e_1 hm_4 hK_4 c_1 l3n l3h k1 k2 g3 ga h34 hx yl; grind)
        refine ok_g g2 (ok_g ga (ok_b (tX9_round hN) (fun x_68 h68 => ok_g g2 (ok_if (fun c_4 => ?_) (fun c_4 => ?_)))))
        · exact hK_4 _ _ ⟨h_l2, l3s, PTI.keep e_0 c_3, PTM.keep e_1 ((ptm_k h68 h34).mp c_4) l3h⟩ k1 k2
        · exact hK_4 _ _ ⟨l3b, l3s, PTI.take yl l3n, PTM.take e_1 (fun q => c_4 ((ptm_k h68 h34).mpr q)) l3h⟩ k1 k2
theorem lX9_pointsTo_4 {N : Nat} {v_houses : Int32} {v_plots : (Nat → Int32)} {v_traded : (Nat → Int32)} {v_likes : (Nat → Int32)} {a1 : Int32}  (hN : 49999 < N) (h_v_houses : RB 0 6 v_houses) (h_v_plots : RA (-1) 11 v_plots) (h_a1 : RB 0 5 a1)  : ∀ (l2 : Int32) (l3 : Int32), RB (-1) 5 l2 ∧ 0 ≤ l3 ∧ (PTI v_houses v_plots v_traded l2 l3) ∧ (PTM v_plots v_traded v_likes a1 l2 l3) → (v_houses - l3) ≤ 49999 → Ok (fun r => RB (-1) 5 r ∧ (PTI v_houses v_plots v_traded r v_houses) ∧ (PTM v_plots v_traded v_likes a1 r v_houses)) (lfix (fun (K : Int32 × Int32 → Option (Int32)) (a : Int32 × Int32) => fX9_pointsTo_4 N v_houses v_plots v_traded v_likes a1 (fun (l2 : Int32) (l3 : Int32) => K (l2, l3)) a.1 a.2) N (l2, l3)) := by
  intro l2 l3 hI hM
  exact ok_l (I := fun (a : Int32 × Int32) => (RB (-1) 5 a.1 ∧ 0 ≤ a.2 ∧ (PTI v_houses v_plots v_traded a.1 a.2) ∧ (PTM v_plots v_traded v_likes a1 a.1 a.2))) (M := fun (a : Int32 × Int32) => (v_houses - a.2)) (fun K a hI hK => sX9_pointsTo_4  hN h_v_houses h_v_plots h_a1  (fun l2 l3 hI2  hlt hp => hK (l2, l3) hI2 hlt hp) hI  rfl) N _ hI hN hM
theorem tX9_pointsTo {N : Nat} {v_houses : Int32} {v_plots : (Nat → Int32)} {v_traded : (Nat → Int32)} {v_likes : (Nat → Int32)} {a1 : Int32}  (hN : 49999 < N) (h_v_houses : RB 0 6 v_houses) (h_v_plots : RA (-1) 11 v_plots) (h_a1 : RB 0 5 a1)  : Ok (fun r => RB (-1) 5 r ∧ (PTI v_houses v_plots v_traded r v_houses) ∧ (PTM v_plots v_traded v_likes a1 r v_houses)) (fX9_pointsTo N v_houses v_plots v_traded v_likes a1) := by
  unfold fX9_pointsTo
  exact lX9_pointsTo_4  hN h_v_houses h_v_plots h_a1  _ _ ⟨(by grind), (by grind), PTI.zero, PTM.zero⟩  (by grind)
theorem sX9_ringOf_9 {N : Nat} {v_points : (Nat → Int32)} {a1 : Int32} {K_9 : Int32 → Int32 → Option (Int32)} {l2 : Int32} {l3 : Int32}  {m_9 : Int32} (hN : 49999 < N) (h_v_points : RA 0 5 v_points) (h_a1 : RB 0 5 a1) (hK_9 : ∀ (l2 : Int32) (l3 : Int32), RB 0 5 l2 ∧ RB 1 7 l3 ∧ (l2 = itr v_points l3.toNatClampNeg a1) ∧ (∀ m : Nat, 1 ≤ m → (m : Int) < l3.toInt → itr v_points m a1 ≠ a1) → (7 - l3) < m_9 → 0 < m_9 → Ok (fun r => (RG v_points a1 r)) (K_9 l2 l3)) (hI : RB 0 5 l2 ∧ RB 1 7 l3 ∧ (l2 = itr v_points l3.toNatClampNeg a1) ∧ (∀ m : Nat, 1 ≤ m → (m : Int) < l3.toInt → itr v_points m a1 ≠ a1)) (hm_9 : (7 - l3) = m_9) : Ok (fun r => (RG v_points a1 r)) (fX9_ringOf_9 N v_points a1 K_9 l2 l3) := by
  obtain ⟨h_l2, h_l3, e_0, e_1⟩ := hI
  unfold fX9_ringOf_9
  refine ok_if (fun c_1 => ?_) (fun c_1 => ?_)
  · refine ok_if (fun c_2 => ?_) (fun c_2 => ?_)
    · exact ok_s (by clear hK_9; first | exact rg_1 e_0 e_1 (by assumption) (by clear e_1; grind) | exact rg_0 e_0 e_1 c_1 (by clear e_1; grind) | exact absurd (by assumption) c_1 | exact absurd c_1 (by assumption))
    · exact ok_s (by clear hK_9; first | exact rg_1 e_0 e_1 (by assumption) (by clear e_1; grind) | exact rg_0 e_0 e_1 c_1 (by clear e_1; grind) | exact absurd (by assumption) c_1 | exact absurd c_1 (by assumption))
  · refine ok_if (fun c_3 => ?_) (fun c_3 => ?_)
    · refine ok_if (fun c_4 => ?_) (fun c_4 => ?_)
      · exact ok_s (by clear hK_9; first | exact rg_1 e_0 e_1 (by assumption) (by clear e_1; grind) | exact rg_0 e_0 e_1 c_1 (by clear e_1; grind) | exact absurd (by assumption) c_1 | exact absurd c_1 (by assumption))
      · exact ok_s (by clear hK_9; first | exact rg_1 e_0 e_1 (by assumption) (by clear e_1; grind) | exact rg_0 e_0 e_1 c_1 (by clear e_1; grind) | exact absurd (by assumption) c_1 | exact absurd c_1 (by assumption))
    · refine ok_g (ng6 (by clear hm_9 hK_9; grind)) ?_
      exact hK_9 _ _ ⟨(by clear hm_9 hK_9; have := h_v_points ((l2).toNatClampNeg); grind), (by clear hm_9 hK_9; grind), (rg_a e_0 (by clear hK_9 e_1; grind)), (rg_b e_0 e_1 c_1 (by clear hK_9 e_1; grind))⟩ (by clear hK_9; grind) (by clear hK_9; grind)
theorem lX9_ringOf_9 {N : Nat} {v_points : (Nat → Int32)} {a1 : Int32}  (hN : 49999 < N) (h_v_points : RA 0 5 v_points) (h_a1 : RB 0 5 a1)  : ∀ (l2 : Int32) (l3 : Int32), RB 0 5 l2 ∧ RB 1 7 l3 ∧ (l2 = itr v_points l3.toNatClampNeg a1) ∧ (∀ m : Nat, 1 ≤ m → (m : Int) < l3.toInt → itr v_points m a1 ≠ a1) → (7 - l3) ≤ 49999 → Ok (fun r => (RG v_points a1 r)) (lfix (fun (K : Int32 × Int32 → Option (Int32)) (a : Int32 × Int32) => fX9_ringOf_9 N v_points a1 (fun (l2 : Int32) (l3 : Int32) => K (l2, l3)) a.1 a.2) N (l2, l3)) := by
  intro l2 l3 hI hM
  exact ok_l (I := fun (a : Int32 × Int32) => (RB 0 5 a.1 ∧ RB 1 7 a.2 ∧ (a.1 = itr v_points a.2.toNatClampNeg a1) ∧ (∀ m : Nat, 1 ≤ m → (m : Int) < a.2.toInt → itr v_points m a1 ≠ a1))) (M := fun (a : Int32 × Int32) => (7 - a.2)) (fun K a hI hK => sX9_ringOf_9  hN h_v_points h_a1  (fun l2 l3 hI2  hlt hp => hK (l2, l3) hI2 hlt hp) hI  rfl) N _ hI hN hM
theorem tX9_ringOf {N : Nat} {v_points : (Nat → Int32)} {a1 : Int32}  (hN : 49999 < N) (h_v_points : RA 0 5 v_points) (h_a1 : RB 0 5 a1)  : Ok (fun r => (RG v_points a1 r)) (fX9_ringOf N v_points a1) := by
  unfold fX9_ringOf
  refine ok_g (ng6 (by grind)) ?_
  exact lX9_ringOf_9  hN h_v_points h_a1  _ _ ⟨(by have := h_v_points ((a1).toNatClampNeg); grind), (by grind), rfl, (fun m h1 h2 => absurd h2 (by have : (1 : Int32).toInt = 1 := rfl; omega))⟩  (by grind)
theorem lo_all {N : Nat} {v_points : Nat → Int32} {a1 : Int32} (hr : RA 0 5 v_points) : ∀ (m : Nat) (l2 l3 : Int32) (n : Nat), RB 0 5 l3 → (l2 = 0 ∨ l2 = 1) → itr v_points m l3 = a1 → m < n → Ok (fun r => r = 0 ∧ (l2 = 0 ∨ ∃ i : Nat, itr v_points i l3 < a1) ∨ r = 1 ∧ l2 = 1 ∧ ∃ q : Nat, itr v_points q l3 = a1 ∧ ∀ i : Nat, i < q → a1 < itr v_points i l3) (lfix (fun (K : Int32 × Int32 → Option (Int32)) (a : Int32 × Int32) => fX9_isLeastOn_9 N v_points a1 (fun (l2 : Int32) (l3 : Int32) => K (l2, l3)) a.1 a.2) n (l2, l3)) := by
  have fin : ∀ (l2 l3 : Int32), (l2 = 0 ∨ l2 = 1) → l3 = a1 → (l2 = 0 ∧ (l2 = 0 ∨ ∃ i : Nat, itr v_points i l3 < a1) ∨ l2 = 1 ∧ l2 = 1 ∧ ∃ q : Nat, itr v_points q l3 = a1 ∧ ∀ i : Nat, i < q → a1 < itr v_points i l3) := fun l2 l3 h e => by
    rcases h with h | h
    · exact Or.inl ⟨h, Or.inl h⟩
    · exact Or.inr ⟨h, h, 0, e, fun i hi => absurd hi (Nat.not_lt_zero _)⟩
  intro m
  induction m with
  | zero =>
    intro l2 l3 n h3 h2 e hn
    obtain ⟨k, rfl⟩ : ∃ k, n = k + 1 := ⟨n - 1, by omega⟩
    rw [lfix_s]
    show Ok _ (fX9_isLeastOn_9 N v_points a1 _ l2 l3)
    unfold fX9_isLeastOn_9
    exact ok_n e (ok_g (fun q => q h2) (ok_s (fin l2 l3 h2 e)))
  | succ m ih =>
    intro l2 l3 n h3 h2 e hn
    obtain ⟨k, rfl⟩ : ∃ k, n = k + 1 := ⟨n - 1, by omega⟩
    rw [lfix_s]
    show Ok _ (fX9_isLeastOn_9 N v_points a1 _ l2 l3)
    unfold fX9_isLeastOn_9
    have g : ¬ (l3 < 0 ∨ 6 ≤ l3.toNatClampNeg) := ng6 (by clear ih fin; grind)
    have r := hr l3.toNatClampNeg
    refine ok_if (fun c => ok_g (fun q => q h2) (ok_s (fin l2 l3 h2 c))) (fun c => ?_)
    refine ok_if (fun c2 => ok_g g (ok_w (ih _ _ k r (Or.inl rfl) e (by omega)) (fun x hx => ?_))) (fun c2 => ?_)
    · rcases hx with hx | hx
      · exact Or.inl ⟨hx.1, Or.inl c2⟩
      · exact absurd hx.2.1 (by decide)
    · have l21 : l2 = 1 := h2.resolve_left c2
      refine ok_if (fun c3 => ok_g g (ok_w (ih _ _ k r (Or.inl rfl) e (by omega)) (fun x hx => ?_))) (fun c3 => ok_g g (ok_w (ih _ _ k r (Or.inr rfl) e (by omega)) (fun x hx => ?_)))
      · rcases hx with hx | hx
        · exact Or.inl ⟨hx.1, Or.inr ⟨0, by show l3 < a1; clear ih fin hx e; grind⟩⟩
        · exact absurd hx.2.1 (by decide)
      · rcases hx with ⟨x1, x2⟩ | ⟨x1, _, q, x3, x4⟩
        · rcases x2 with x2 | ⟨i, x2⟩
          · exact absurd x2 (by decide)
          · exact Or.inl ⟨x1, Or.inr ⟨i + 1, x2⟩⟩
        · refine Or.inr ⟨x1, l21, q + 1, x3, fun i hi => ?_⟩
          cases i with
          | zero => show a1 < l3; clear ih fin x3 x4 e; grind
          | succ i => exact x4 i (by omega)
theorem tX9_isLeastOn {N : Nat} {v_points : Nat → Int32} {a1 : Int32} (hN : 49999 < N) (h_v_points : RA 0 5 v_points) (h_a1 : RB 0 5 a1) (e_0 : ∃ m : Nat, (1 ≤ m ∧ m ≤ 7) ∧ itr v_points m a1 = a1) : Ok (fun r => (r = 0 ∧ ¬(LST v_points a1) ∨ r = 1 ∧ LST v_points a1)) (fX9_isLeastOn N v_points a1) := by
  unfold fX9_isLeastOn
  obtain ⟨m, hm, e⟩ := e_0
  obtain ⟨k, rfl⟩ : ∃ k, m = k + 1 := ⟨m - 1, by omega⟩
  refine ok_g (ng6 (by grind)) (ok_w (lo_all h_v_points k 1 _ N (h_v_points _) (Or.inr rfl) e (by omega)) (fun x hx => ?_))
  rcases hx with ⟨x1, x2⟩ | ⟨x1, _, q, x3, x4⟩
  · rcases x2 with x2 | ⟨i, x2⟩
    · exact absurd x2 (by decide)
    · exact Or.inl ⟨x1, lst_not x2⟩
  · exact Or.inr ⟨x1, lst_of x3 x4⟩
theorem tr_161 {N : Nat} {v_houses : Int32} {v_plots v_likes : Nat → Int32} {K_26 : Int32 → (Nat → Int32) → (Nat → Int32) → (Nat → Int32) → Option (Int32 × (Nat → Int32) × (Nat → Int32) × (Nat → Int32))} {P : Int32 × (Nat → Int32) × (Nat → Int32) × (Nat → Int32) → Prop} {T pts rl : Nat → Int32} (hN : 49999 < N) (hh : RB 0 6 v_houses) (hr : RA 0 5 pts) (rm : Int32) (hK : ∀ t, (∀ k : Nat, (k : Int) < v_houses.toInt → t k = if 0 < rl k then v_plots (pts k).toNatClampNeg else T k) → Ok P (K_26 rm t pts rl)) : Ok P (lfix (fun (K : Int32 × Int32 × (Nat → Int32) × (Nat → Int32) × (Nat → Int32) → Option (Int32 × (Nat → Int32) × (Nat → Int32) × (Nat → Int32))) (a : Int32 × Int32 × (Nat → Int32) × (Nat → Int32) × (Nat → Int32)) => fX9_trade_161 N v_houses v_plots v_likes K_26 (fun (l1 : Int32) (v_ringsMany : Int32) (v_traded : (Nat → Int32)) (v_points : (Nat → Int32)) (v_ringLong : (Nat → Int32)) => K (l1, v_ringsMany, v_traded, v_points, v_ringLong)) a.1 a.2.1 a.2.2.1 a.2.2.2.1 a.2.2.2.2) N (0, rm, T, pts, rl)) := by
  refine ok_l (I := fun (a : Int32 × Int32 × (Nat → Int32) × (Nat → Int32) × (Nat → Int32)) => 0 ≤ a.1 ∧ a.2.1 = rm ∧ a.2.2.2.1 = pts ∧ a.2.2.2.2 = rl ∧ ∀ k : Nat, ((k : Int) < a.1.toInt → a.2.2.1 k = if 0 < rl k then v_plots (pts k).toNatClampNeg else T k) ∧ (a.1.toInt ≤ k → a.2.2.1 k = T k)) (M := fun (a : Int32 × Int32 × (Nat → Int32) × (Nat → Int32) × (Nat → Int32)) => v_houses - a.1) (fun K a hI hK2 => ?_) N _ ⟨(show (0 : Int32) ≤ 0 from by decide), rfl, rfl, rfl, fun k => ⟨fun q => absurd q (by have : (0 : Int32).toInt = 0 := rfl; show ¬ ((k : Int) < (0 : Int32).toInt); omega), fun _ => rfl⟩⟩ hN (by show v_houses - 0 ≤ 49999; grind)
  obtain ⟨l, rmx, t, p, r⟩ := a
  obtain ⟨h0, em, e1, e2, ht⟩ := hI
  have em : rmx = rm := em
  have h0 : 0 ≤ l := h0
  have e1 : p = pts := e1
  have e2 : r = rl := e2
  have ht : ∀ k : Nat, ((k : Int) < l.toInt → t k = if 0 < rl k then v_plots (pts k).toNatClampNeg else T k) ∧ (l.toInt ≤ k → t k = T k) := ht
  subst em
  subst e1
  subst e2
  have hK2 : ∀ b : Int32 × Int32 × (Nat → Int32) × (Nat → Int32) × (Nat → Int32), _ → v_houses - b.1 < v_houses - l → 0 < v_houses - l → Ok P (K b) := hK2
  show Ok _ (fX9_trade_161 N v_houses v_plots v_likes K_26 _ l rmx t p r)
  unfold fX9_trade_161
  refine ok_if (fun c => hK _ (fun k hk => (ht k).1 (by rw [fa_le] at c; omega))) (fun c => ?_)
  have g : ¬ (l < 0 ∨ 6 ≤ l.toNatClampNeg) := ng6 (by clear hK2 ht; grind)
  have q := hr l.toNatClampNeg
  have t1 := tnc h0
  have a1 := add1 h0 (by clear hK2 ht; grind)
  have stp : ∀ v : Int32, (v = if 0 < r l.toNatClampNeg then v_plots (p l.toNatClampNeg).toNatClampNeg else T l.toNatClampNeg) → ∀ k : Nat, ((k : Int) < (l + 1).toInt → upd t l.toNatClampNeg v k = if 0 < r k then v_plots (p k).toNatClampNeg else T k) ∧ ((l + 1).toInt ≤ k → upd t l.toNatClampNeg v k = T k) := fun v hv k => by
    by_cases kk : k = l.toNatClampNeg
    · subst kk
      rw [pk_us]
      exact ⟨fun _ => hv, fun w => by omega⟩
    · rw [pk_un kk]
      exact ⟨fun w => (ht k).1 (by omega), fun w => (ht k).2 (by omega)⟩
  refine ok_g g (ok_if (fun c2 => ?_) (fun c2 => ?_))
  · refine ok_g g (ok_g g (hK2 (l + 1, rmx, _, p, r) ⟨by show 0 ≤ l + 1; clear hK2 ht stp; grind, rfl, rfl, rfl, stp _ ?_⟩ (by show v_houses - (l + 1) < v_houses - l; clear hK2 ht stp; grind) (by clear hK2 ht stp; grind)))
    rw [if_neg (by clear hK2 ht stp; grind)]
    exact (ht _).2 (by omega)
  · refine ok_g g (ok_g (ng6 (by clear hK2 ht stp; grind)) (ok_g g (hK2 (l + 1, rmx, _, p, r) ⟨by show 0 ≤ l + 1; clear hK2 ht stp; grind, rfl, rfl, rfl, stp _ ?_⟩ (by show v_houses - (l + 1) < v_houses - l; clear hK2 ht stp; grind) (by clear hK2 ht stp; grind))))
    rw [if_pos (by clear hK2 ht stp; grind)]
theorem tr_113 {N : Nat} {v_houses : Int32} {v_plots v_likes : Nat → Int32} {K_26 : Int32 → (Nat → Int32) → (Nat → Int32) → (Nat → Int32) → Option (Int32 × (Nat → Int32) × (Nat → Int32) × (Nat → Int32))} {P : Int32 × (Nat → Int32) × (Nat → Int32) × (Nat → Int32) → Prop} {T pts rl : Nat → Int32} (hN : 49999 < N) (hh : RB 0 6 v_houses) (hr : RA 0 5 pts) (hl : ∀ h : Int32, 0 ≤ h → h < v_houses → 1 < rl h.toNatClampNeg → RG pts h (rl h.toNatClampNeg)) (rm : Int32) (C : Nat → Prop) (hc : ∀ h : Int32, 0 ≤ h → h < v_houses → ((1 < rl h.toNatClampNeg ∧ LST pts h) ↔ C h.toNatClampNeg)) (hK : ∀ t, (∀ k : Nat, (k : Int) < v_houses.toInt → t k = if 0 < rl k then v_plots (pts k).toNatClampNeg else T k) → Ok P (K_26 (rm + nI (ct C v_houses.toNatClampNeg)) t pts rl)) : Ok P (lfix (fun (K : Int32 × Int32 × (Nat → Int32) × (Nat → Int32) × (Nat → Int32) → Option (Int32 × (Nat → Int32) × (Nat → Int32) × (Nat → Int32))) (a : Int32 × Int32 × (Nat → Int32) × (Nat → Int32) × (Nat → Int32)) => fX9_trade_113 N v_houses v_plots v_likes K_26 (fun (l1 : Int32) (v_ringsMany : Int32) (v_traded : (Nat → Int32)) (v_points : (Nat → Int32)) (v_ringLong : (Nat → Int32)) => K (l1, v_ringsMany, v_traded, v_points, v_ringLong)) a.1 a.2.1 a.2.2.1 a.2.2.2.1 a.2.2.2.2) N (0, rm, T, pts, rl)) := by
  refine ok_l (I := fun (a : Int32 × Int32 × (Nat → Int32) × (Nat → Int32) × (Nat → Int32)) => (0 ≤ a.1 ∧ a.1 ≤ v_houses) ∧ a.2.1 = rm + nI (ct C a.1.toNatClampNeg) ∧ a.2.2.1 = T ∧ a.2.2.2.1 = pts ∧ a.2.2.2.2 = rl) (M := fun (a : Int32 × Int32 × (Nat → Int32) × (Nat → Int32) × (Nat → Int32)) => v_houses - a.1) (fun K a hI hK2 => ?_) N _ ⟨⟨(show (0 : Int32) ≤ 0 from by decide), hh.1⟩, (show rm = rm + 0 from by clear hc hl hK; grind), rfl, rfl, rfl⟩ hN (by show v_houses - 0 ≤ 49999; grind)
  obtain ⟨l, rmx, t, p, r⟩ := a
  obtain ⟨h0, em, e0, e1, e2⟩ := hI
  have hb : 0 ≤ l ∧ l ≤ v_houses := h0
  have h0 : 0 ≤ l := hb.1
  have em : rmx = rm + nI (ct C l.toNatClampNeg) := em
  have e0 : t = T := e0
  have e1 : p = pts := e1
  have e2 : r = rl := e2
  subst e0
  subst e1
  subst e2
  have hK2 : ∀ b : Int32 × Int32 × (Nat → Int32) × (Nat → Int32) × (Nat → Int32), _ → v_houses - b.1 < v_houses - l → 0 < v_houses - l → Ok P (K b) := hK2
  show Ok _ (fX9_trade_113 N v_houses v_plots v_likes K_26 _ l rmx t p r)
  unfold fX9_trade_113
  refine ok_if (fun c => ?_) (fun c => ?_)
  · have el : l = v_houses := by clear hK2 hl hK hc em; grind
    rw [em, el]
    exact tr_161 hN hh hr _ hK
  have g : ¬ (l < 0 ∨ 6 ≤ l.toNatClampNeg) := ng6 (by clear hK2 hl hK hc em; grind)
  have kk : ∀ rm2, rm2 = rm + nI (ct C (l + 1).toNatClampNeg) → Ok P (K (l + 1, rm2, t, p, r)) := fun rm2 hm => hK2 (l + 1, rm2, t, p, r) ⟨⟨by show 0 ≤ l + 1; clear hK2 hl hK hc em hm; grind, by show l + 1 ≤ v_houses; clear hK2 hl hK hc em hm; grind⟩, hm, rfl, rfl, rfl⟩ (by show v_houses - (l + 1) < v_houses - l; clear hK2 hl hK hc em hm; grind) (by clear hK2 hl hK hc em hm; grind)
  have lb : 0 ≤ l ∧ l ≤ 100 := by clear hK2 hl hK hc em kk; grind
  have hcl := hc l h0 (by clear hK2 hl hK hc em kk; grind)
  refine ok_g g (ok_if (fun c2 => kk _ (ct_in em (fun q => absurd (hcl.mpr q).1 (by clear hK2 hl hK kk hc em hcl q; grind)) lb)) (fun c2 => ?_))
  have hg := hl l h0 (by clear hK2 hl hK kk hc em; grind) (by clear hK2 hl hK kk hc em; grind)
  have ex : ∃ m : Nat, (1 ≤ m ∧ m ≤ 7) ∧ itr p m l = l := by
    rcases hg with hg | hg
    · exact absurd hg.1 (by clear hK2 hl hK kk hg hc em; grind)
    · have b1 := hg.1.1
      have b2 := hg.1.2
      have t1 := tnc (x := r l.toNatClampNeg) (by clear hK2 hl hK kk hg hc em; grind)
      have z7 : (7 : Int32).toInt = 7 := rfl
      have z1 : (1 : Int32).toInt = 1 := rfl
      rw [fa_le, z1] at b1
      rw [fa_le, z7] at b2
      exact ⟨_, ⟨by omega, by omega⟩, hg.2.1⟩
  refine ok_b (tX9_isLeastOn hN hr (by clear hK2 hl hK kk hg hc em; grind) ex) (fun x hx => ?_)
  refine ok_if (fun c3 => kk _ (ct_in em (fun q => ?_) lb)) (fun c3 => kk _ (ct_iy em (hcl.mp ⟨?_, ?_⟩) lb))
  · rcases hx with hx | hx
    · exact hx.2 (hcl.mpr q).2
    · rw [hx.1] at c3
      exact absurd c3 (by decide)
  · clear hK2 hl hK kk hg hc em hcl hx ex
    grind
  · rcases hx with hx | hx
    · exact absurd hx.1 c3
    · exact hx.2
theorem tr_74 {N : Nat} {v_houses : Int32} {v_plots v_likes : Nat → Int32} {K_26 : Int32 → (Nat → Int32) → (Nat → Int32) → (Nat → Int32) → Option (Int32 × (Nat → Int32) × (Nat → Int32) × (Nat → Int32))} {P : Int32 × (Nat → Int32) × (Nat → Int32) × (Nat → Int32) → Prop} {T pts : Nat → Int32} (hN : 49999 < N) (hh : RB 0 6 v_houses) (hp : RA (-1) 11 v_plots) (hr : RA 0 5 pts) (ft : FTG (kq v_plots v_likes) (XT v_houses v_plots T) (nF pts)) (rm : Int32) (hK : ∀ rl t, (∀ h : Int32, 0 ≤ h → h < v_houses → (LFT v_plots T h → RG pts h (rl h.toNatClampNeg)) ∧ (¬ LFT v_plots T h → rl h.toNatClampNeg = 0)) → (∀ k : Nat, (k : Int) < v_houses.toInt → t k = if 0 < rl k then v_plots (pts k).toNatClampNeg else T k) → Ok P (K_26 (rm + nI (ct (rC (XT v_houses v_plots T) (nF pts)) v_houses.toNatClampNeg)) t pts rl)) (rl : Nat → Int32) : Ok P (lfix (fun (K : Int32 × Int32 × (Nat → Int32) × (Nat → Int32) × (Nat → Int32) → Option (Int32 × (Nat → Int32) × (Nat → Int32) × (Nat → Int32))) (a : Int32 × Int32 × (Nat → Int32) × (Nat → Int32) × (Nat → Int32)) => fX9_trade_74 N v_houses v_plots v_likes K_26 (fun (l1 : Int32) (v_ringsMany : Int32) (v_traded : (Nat → Int32)) (v_points : (Nat → Int32)) (v_ringLong : (Nat → Int32)) => K (l1, v_ringsMany, v_traded, v_points, v_ringLong)) a.1 a.2.1 a.2.2.1 a.2.2.2.1 a.2.2.2.2) N (0, rm, T, pts, rl)) := by
  refine ok_l (I := fun (a : Int32 × Int32 × (Nat → Int32) × (Nat → Int32) × (Nat → Int32)) => 0 ≤ a.1 ∧ a.2.1 = rm ∧ a.2.2.1 = T ∧ a.2.2.2.1 = pts ∧ ∀ h : Int32, 0 ≤ h → h < a.1 → (LFT v_plots T h → RG pts h (a.2.2.2.2 h.toNatClampNeg)) ∧ (¬ LFT v_plots T h → a.2.2.2.2 h.toNatClampNeg = 0)) (M := fun (a : Int32 × Int32 × (Nat → Int32) × (Nat → Int32) × (Nat → Int32)) => v_houses - a.1) (fun K a hI hK2 => ?_) N _ ⟨(show (0 : Int32) ≤ 0 from by decide), rfl, rfl, rfl, fun h h0 h1 => absurd h1 (by show ¬ h < 0; grind)⟩ hN (by show v_houses - 0 ≤ 49999; grind)
  obtain ⟨l, rmx, t, p, r⟩ := a
  obtain ⟨h0, em, e0, e1, hg⟩ := hI
  have em : rmx = rm := em
  have h0 : 0 ≤ l := h0
  have e0 : t = T := e0
  have e1 : p = pts := e1
  have hg : ∀ h : Int32, 0 ≤ h → h < l → (LFT v_plots T h → RG pts h (r h.toNatClampNeg)) ∧ (¬ LFT v_plots T h → r h.toNatClampNeg = 0) := hg
  subst em
  subst e0
  subst e1
  have hK2 : ∀ b : Int32 × Int32 × (Nat → Int32) × (Nat → Int32) × (Nat → Int32), _ → v_houses - b.1 < v_houses - l → 0 < v_houses - l → Ok P (K b) := hK2
  show Ok _ (fX9_trade_74 N v_houses v_plots v_likes K_26 _ l rmx t p r)
  unfold fX9_trade_74
  refine ok_if (fun c => ?_) (fun c => ?_)
  · have fin : ∀ h : Int32, 0 ≤ h → h < v_houses → (LFT v_plots t h → RG p h (r h.toNatClampNeg)) ∧ (¬ LFT v_plots t h → r h.toNatClampNeg = 0) := fun h q0 q1 => hg h q0 (by clear ft hK2 hK hg; grind)
    refine tr_113 hN hh hr (fun h q0 q1 q2 => ?_) _ (rC (XT v_houses v_plots t) (nF p)) (fun h q0 q1 => rg_c hh hr ft q0 q1 (fin h q0 q1).1 (fin h q0 q1).2) (fun t2 ht2 => hK r t2 fin ht2)
    by_cases w : LFT v_plots t h
    · exact (fin h q0 q1).1 w
    · have := (fin h q0 q1).2 w
      rw [this] at q2
      exact absurd q2 (by decide)
  · have g : ¬ (l < 0 ∨ 6 ≤ l.toNatClampNeg) := ng6 (by clear ft hK2 hK hg; grind)
    have stp : ∀ v : Int32, ((LFT v_plots t l → RG p l v) ∧ (¬ LFT v_plots t l → v = 0)) → ∀ h : Int32, 0 ≤ h → h < l + 1 → (LFT v_plots t h → RG p h (upd r l.toNatClampNeg v h.toNatClampNeg)) ∧ (¬ LFT v_plots t h → upd r l.toNatClampNeg v h.toNatClampNeg = 0) := fun v hv h q0 q1 => by
      by_cases w : h = l
      · subst w; rw [pk_us]; exact hv
      · rw [pk_un (fun z => w (tn_inj q0 h0 z))]
        exact hg h q0 (by clear ft hK2 hK hg; grind)
    have kk : ∀ v : Int32, ((LFT v_plots t l → RG p l v) ∧ (¬ LFT v_plots t l → v = 0)) → Ok P (K (l + 1, rmx, t, p, upd r l.toNatClampNeg v)) := fun v hv => hK2 (l + 1, rmx, t, p, _) ⟨by show 0 ≤ l + 1; clear ft hK2 hK hg stp; grind, rfl, rfl, rfl, stp v hv⟩ (by show v_houses - (l + 1) < v_houses - l; clear ft hK2 hK hg stp; grind) (by clear ft hK2 hK hg stp; grind)
    refine ok_b (tX9_isLeft hN hp (by clear ft hK2 hK hg stp kk; grind)) (fun x hx => ?_)
    refine ok_if (fun c2 => ?_) (fun c2 => ?_)
    · have nl : ¬ LFT v_plots t l := by clear ft hK2 hK hg stp kk; grind
      exact ok_g g (kk 0 ⟨fun q => absurd q nl, fun _ => rfl⟩)
    · have yl : LFT v_plots t l := by clear ft hK2 hK hg stp kk; grind
      refine ok_b (tX9_ringOf hN hr (by clear ft hK2 hK hg stp kk; grind)) (fun y hy => ?_)
      exact ok_g g (kk y ⟨fun _ => hy, fun q => absurd yl q⟩)
theorem tr_35 {N : Nat} {v_houses : Int32} {v_plots v_likes : Nat → Int32} {K_26 : Int32 → (Nat → Int32) → (Nat → Int32) → (Nat → Int32) → Option (Int32 × (Nat → Int32) × (Nat → Int32) × (Nat → Int32))} {P : Int32 × (Nat → Int32) × (Nat → Int32) × (Nat → Int32) → Prop} {T : Nat → Int32} (hN : 49999 < N) (hh : RB 0 6 v_houses) (hp : RA (-1) 11 v_plots) (rm : Int32) (hK : ∀ pts rl t, RA 0 5 pts → (∀ h : Int32, 0 ≤ h → h < v_houses → LFT v_plots T h → ((0 ≤ pts h.toNatClampNeg ∧ pts h.toNatClampNeg < v_houses) ∧ LFT v_plots T (pts h.toNatClampNeg)) ∧ PTM v_plots T v_likes h (pts h.toNatClampNeg) v_houses) → (∀ h : Int32, 0 ≤ h → h < v_houses → (LFT v_plots T h → RG pts h (rl h.toNatClampNeg)) ∧ (¬ LFT v_plots T h → rl h.toNatClampNeg = 0)) → (∀ k : Nat, (k : Int) < v_houses.toInt → t k = if 0 < rl k then v_plots (pts k).toNatClampNeg else T k) → Ok P (K_26 (rm + nI (ct (rC (XT v_houses v_plots T) (nF pts)) v_houses.toNatClampNeg)) t pts rl)) (pts rl : Nat → Int32) (hr : RA 0 5 pts) : Ok P (lfix (fun (K : Int32 × Int32 × (Nat → Int32) × (Nat → Int32) × (Nat → Int32) → Option (Int32 × (Nat → Int32) × (Nat → Int32) × (Nat → Int32))) (a : Int32 × Int32 × (Nat → Int32) × (Nat → Int32) × (Nat → Int32)) => fX9_trade_35 N v_houses v_plots v_likes K_26 (fun (l1 : Int32) (v_ringsMany : Int32) (v_traded : (Nat → Int32)) (v_points : (Nat → Int32)) (v_ringLong : (Nat → Int32)) => K (l1, v_ringsMany, v_traded, v_points, v_ringLong)) a.1 a.2.1 a.2.2.1 a.2.2.2.1 a.2.2.2.2) N (0, rm, T, pts, rl)) := by
  refine ok_l (I := fun (a : Int32 × Int32 × (Nat → Int32) × (Nat → Int32) × (Nat → Int32)) => 0 ≤ a.1 ∧ a.2.1 = rm ∧ a.2.2.1 = T ∧ RA 0 5 a.2.2.2.1 ∧ ∀ h : Int32, 0 ≤ h → h < a.1 → LFT v_plots T h → ((0 ≤ a.2.2.2.1 h.toNatClampNeg ∧ a.2.2.2.1 h.toNatClampNeg < v_houses) ∧ LFT v_plots T (a.2.2.2.1 h.toNatClampNeg)) ∧ PTM v_plots T v_likes h (a.2.2.2.1 h.toNatClampNeg) v_houses) (M := fun (a : Int32 × Int32 × (Nat → Int32) × (Nat → Int32) × (Nat → Int32)) => v_houses - a.1) (fun K a hI hK2 => ?_) N _ ⟨(show (0 : Int32) ≤ 0 from by decide), rfl, rfl, hr, fun h h0 h1 => absurd h1 (by show ¬ h < 0; grind)⟩ hN (by show v_houses - 0 ≤ 49999; grind)
  obtain ⟨l, rmx, t, p, r⟩ := a
  obtain ⟨h0, em, e0, hr, hg⟩ := hI
  have em : rmx = rm := em
  have h0 : 0 ≤ l := h0
  have e0 : t = T := e0
  have hr : RA 0 5 p := hr
  have hg : ∀ h : Int32, 0 ≤ h → h < l → LFT v_plots T h → ((0 ≤ p h.toNatClampNeg ∧ p h.toNatClampNeg < v_houses) ∧ LFT v_plots T (p h.toNatClampNeg)) ∧ PTM v_plots T v_likes h (p h.toNatClampNeg) v_houses := hg
  subst em
  subst e0
  have hK2 : ∀ b : Int32 × Int32 × (Nat → Int32) × (Nat → Int32) × (Nat → Int32), _ → v_houses - b.1 < v_houses - l → 0 < v_houses - l → Ok P (K b) := hK2
  show Ok _ (fX9_trade_35 N v_houses v_plots v_likes K_26 _ l rmx t p r)
  unfold fX9_trade_35
  refine ok_if (fun c => ?_) (fun c => ?_)
  · have hg2 : ∀ h : Int32, 0 ≤ h → h < v_houses → LFT v_plots t h → ((0 ≤ p h.toNatClampNeg ∧ p h.toNatClampNeg < v_houses) ∧ LFT v_plots t (p h.toNatClampNeg)) ∧ PTM v_plots t v_likes h (p h.toNatClampNeg) v_houses := fun h q0 q3 => hg h q0 (by clear hK2 hK hg; grind)
    exact tr_74 hN hh hp hr (xt_ft hh.2 hg2) _ (fun rl2 t2 q1 q2 => hK p rl2 t2 hr hg2 q1 q2) r
  · have g : ¬ (l < 0 ∨ 6 ≤ l.toNatClampNeg) := ng6 (by clear hK2 hK hg; grind)
    have stp : ∀ v : Int32, (LFT v_plots t l → ((0 ≤ v ∧ v < v_houses) ∧ LFT v_plots t v) ∧ PTM v_plots t v_likes l v v_houses) → ∀ h : Int32, 0 ≤ h → h < l + 1 → LFT v_plots t h → ((0 ≤ upd p l.toNatClampNeg v h.toNatClampNeg ∧ upd p l.toNatClampNeg v h.toNatClampNeg < v_houses) ∧ LFT v_plots t (upd p l.toNatClampNeg v h.toNatClampNeg)) ∧ PTM v_plots t v_likes h (upd p l.toNatClampNeg v h.toNatClampNeg) v_houses := fun v hv h q0 q1 => by
      by_cases w : h = l
      · subst w; rw [pk_us]; exact hv
      · rw [pk_un (fun z => w (tn_inj q0 h0 z))]
        exact hg h q0 (by clear hK2 hK hg; grind)
    have kk : ∀ v : Int32, RB 0 5 v → (LFT v_plots t l → ((0 ≤ v ∧ v < v_houses) ∧ LFT v_plots t v) ∧ PTM v_plots t v_likes l v v_houses) → Ok P (K (l + 1, rmx, t, upd p l.toNatClampNeg v, r)) := fun v hb hv => hK2 (l + 1, rmx, t, _, r) ⟨by show 0 ≤ l + 1; clear hK2 hK hg stp; grind, rfl, rfl, RA.upd hr hb, stp v hv⟩ (by show v_houses - (l + 1) < v_houses - l; clear hK2 hK hg stp; grind) (by clear hK2 hK hg stp; grind)
    refine ok_b (tX9_isLeft hN hp (by clear hK2 hK hg stp kk; grind)) (fun x hx => ?_)
    refine ok_if (fun c2 => ?_) (fun c2 => ?_)
    · have nl : ¬ LFT v_plots t l := by clear hK2 hK hg stp kk; grind
      exact ok_g g (kk l (by clear hK2 hK hg stp kk; grind) (fun q => absurd q nl))
    · have yl : LFT v_plots t l := by clear hK2 hK hg stp kk; grind
      refine ok_b (tX9_pointsTo hN (by clear hK2 hK hg stp kk; grind) hp (by clear hK2 hK hg stp kk; grind)) (fun y hy => ?_)
      rcases hy.2.1 with w | w
      · exact absurd yl (w.2 l h0 (by clear hK2 hK hg stp kk w; grind))
      · have pm := hy.2.2
        exact ok_g g (kk y (by clear hK2 hK hg stp kk pm; grind) (fun _ => ⟨w, pm⟩))
theorem tr_26 {N : Nat} {v_houses : Int32} {v_plots v_likes : Nat → Int32} (hN : 49999 < N) (hh : RB 0 6 v_houses) (hp : RA (-1) 11 v_plots) (rm : Int32) (t pts rl : Nat → Int32) (hr : RA 0 5 pts) (hv : ∃ r : Nat, r < 400 ∧ rm = nI r ∧ r + ct (XT v_houses v_plots t) v_houses.toNatClampNeg ≤ 6 ∧ ∀ k w, rRd (kq v_plots v_likes) k (XT v_houses v_plots t) w → ∃ k', rRd (kq v_plots v_likes) k' (X0 v_houses v_plots) (w + r)) : Ok (fun r => RA 0 5 r.2.2.1 ∧ (RDS v_houses v_plots v_likes r.1)) (lfix (fun (K : Int32 × (Nat → Int32) × (Nat → Int32) × (Nat → Int32) → Option (Int32 × (Nat → Int32) × (Nat → Int32) × (Nat → Int32))) (a : Int32 × (Nat → Int32) × (Nat → Int32) × (Nat → Int32)) => fX9_trade_26 N v_houses v_plots v_likes (fun (v_ringsMany : Int32) (v_traded : (Nat → Int32)) (v_points : (Nat → Int32)) (v_ringLong : (Nat → Int32)) => K (v_ringsMany, v_traded, v_points, v_ringLong)) a.1 a.2.1 a.2.2.1 a.2.2.2) N (rm, t, pts, rl)) := by
  have hz : v_houses.toNatClampNeg ≤ 6 := by
    have t1 := tnc hh.1
    have h2 := hh.2
    have z6 : (6 : Int32).toInt = 6 := rfl
    rw [fa_le, z6] at h2
    omega
  have ci : ∀ t : Nat → Int32, (nI (cl v_plots t v_houses.toNatClampNeg)).toInt = cl v_plots t v_houses.toNatClampNeg := fun t => Int32.toInt_ofNat_of_lt (by have := cl_le v_plots t v_houses.toNatClampNeg; omega)
  refine ok_l (I := fun (a : Int32 × (Nat → Int32) × (Nat → Int32) × (Nat → Int32)) => RA 0 5 a.2.2.1 ∧ ∃ r : Nat, r < 400 ∧ a.1 = nI r ∧ r + ct (XT v_houses v_plots a.2.1) v_houses.toNatClampNeg ≤ 6 ∧ ∀ k w, rRd (kq v_plots v_likes) k (XT v_houses v_plots a.2.1) w → ∃ k', rRd (kq v_plots v_likes) k' (X0 v_houses v_plots) (w + r)) (M := fun (a : Int32 × (Nat → Int32) × (Nat → Int32) × (Nat → Int32)) => nI (cl v_plots a.2.1 v_houses.toNatClampNeg)) (fun K a hI hK => ?_) N _ ⟨hr, hv⟩ hN (by
    show nI (cl v_plots t v_houses.toNatClampNeg) ≤ 49999
    have z : (49999 : Int32).toInt = 49999 := rfl
    have := cl_le v_plots t v_houses.toNatClampNeg
    rw [fa_le, ci, z]
    omega)
  obtain ⟨rm, t, pts, rl⟩ := a
  obtain ⟨hI, hV⟩ := hI
  have hI : RA 0 5 pts := hI
  have hV : ∃ r : Nat, r < 400 ∧ rm = nI r ∧ r + ct (XT v_houses v_plots t) v_houses.toNatClampNeg ≤ 6 ∧ ∀ k w, rRd (kq v_plots v_likes) k (XT v_houses v_plots t) w → ∃ k', rRd (kq v_plots v_likes) k' (X0 v_houses v_plots) (w + r) := hV
  have hK : ∀ b : Int32 × (Nat → Int32) × (Nat → Int32) × (Nat → Int32), RA 0 5 b.2.2.1 ∧ (∃ r : Nat, r < 400 ∧ b.1 = nI r ∧ r + ct (XT v_houses v_plots b.2.1) v_houses.toNatClampNeg ≤ 6 ∧ ∀ k w, rRd (kq v_plots v_likes) k (XT v_houses v_plots b.2.1) w → ∃ k', rRd (kq v_plots v_likes) k' (X0 v_houses v_plots) (w + r)) → nI (cl v_plots b.2.1 v_houses.toNatClampNeg) < nI (cl v_plots t v_houses.toNatClampNeg) → 0 < nI (cl v_plots t v_houses.toNatClampNeg) → Ok _ (K b) := hK
  show Ok _ (fX9_trade_26 N v_houses v_plots v_likes _ rm t pts rl)
  unfold fX9_trade_26
  refine ok_b (tX9_leftMany hN hh hp) (fun x hx => ?_)
  refine ok_if (fun c => ok_s ⟨hI, rd_end hV ?_⟩) (fun c => ?_)
  · rw [hx, fa_le, ci, z0] at c
    omega
  rw [hx, fa_le, ci, z0] at c
  have cp : 0 < cl v_plots t v_houses.toNatClampNeg := by omega
  obtain ⟨k, hk, q1, q2⟩ := cl_pos cp
  have tk : (nI k).toInt = k := Int32.toInt_ofNat_of_lt (by omega)
  have kn : (nI k).toNatClampNeg = k := by
    have e : (nI k).toNatClampNeg = (nI k).toInt.toNat := rfl
    omega
  have t1 := tnc hh.1
  refine tr_35 hN hh hp rm (fun pts2 rl2 t2 r2 hpt hrg htt => ?_) pts rl hI
  obtain ⟨h, m, hb, hl, m1, m2, ei⟩ := ring_in hh.2 (fun h q0 q1 q2 => (hpt h q0 q1 q2).1) (h0 := nI k) ⟨by rw [fa_le, z0, tk]; omega, by rw [fa_lt, tk]; omega⟩ (by show v_plots (nI k).toNatClampNeg ≠ -1 ∧ t (nI k).toNatClampNeg = -1; rw [kn]; exact ⟨q1, q2⟩)
  have tb := tnc hb.1
  have hb2 := hb.2
  rw [fa_lt] at hb2
  have rpos : 0 < rl2 h.toNatClampNeg := by
    rcases (hrg h hb.1 hb.2).1 hl with w | w
    · exact absurd ei (w.2 m m1 (by omega))
    · have := w.1
      clear hrg hpt htt w hV
      grind
  refine hK (rm + nI (ct (rC (XT v_houses v_plots t) (nF pts2)) v_houses.toNatClampNeg), t2, pts2, rl2) ⟨r2, rd_step hh r2 (xt_ft hh.2 hpt) hrg htt hV⟩ ?_ ?_
  · show nI (cl v_plots t2 v_houses.toNatClampNeg) < nI (cl v_plots t v_houses.toNatClampNeg)
    rw [fa_lt, ci, ci]
    have : cl v_plots t2 v_houses.toNatClampNeg < cl v_plots t v_houses.toNatClampNeg := by
      refine cl_lt (fun j hj ej => ?_) ⟨h.toNatClampNeg, by omega, hl.1, hl.2, ?_⟩
      · have tj : (nI j).toInt = j := Int32.toInt_ofNat_of_lt (by omega)
        have jn : (nI j).toNatClampNeg = j := by
          have e : (nI j).toNatClampNeg = (nI j).toInt.toNat := rfl
          omega
        rw [htt j (by omega)] at ej
        by_cases w : 0 < rl2 j
        · rw [if_pos w] at ej
          have w2 := hrg (nI j) (by rw [fa_le, z0, tj]; omega) (by rw [fa_lt, tj]; omega)
          rw [jn] at w2
          by_cases w3 : LFT v_plots t (nI j)
          · have w4 := hpt (nI j) (by rw [fa_le, z0, tj]; omega) (by rw [fa_lt, tj]; omega) w3
            rw [jn] at w4
            exact absurd ej w4.1.2.1
          · rw [w2.2 w3] at w
            exact absurd w (by decide)
        · rw [if_neg w] at ej
          exact ej
      · rw [htt _ (by omega), if_pos rpos]
        exact (hpt h hb.1 hb.2 hl).1.2.1
    omega
  · rw [fa_lt, ci, z0]
    omega
theorem tr_2 {N : Nat} {v_houses : Int32} {v_plots v_likes : Nat → Int32} (hN : 49999 < N) (hh : RB 0 6 v_houses) (hp : RA (-1) 11 v_plots) (rm : Int32) (t pts rl : Nat → Int32) (hr : RA 0 5 pts) : Ok (fun r => RA 0 5 r.2.2.1 ∧ (RDS v_houses v_plots v_likes r.1)) (lfix (fun (K : Int32 × Int32 × (Nat → Int32) × (Nat → Int32) × (Nat → Int32) → Option (Int32 × (Nat → Int32) × (Nat → Int32) × (Nat → Int32))) (a : Int32 × Int32 × (Nat → Int32) × (Nat → Int32) × (Nat → Int32)) => fX9_trade_2 N v_houses v_plots v_likes (fun (l1 : Int32) (v_ringsMany : Int32) (v_traded : (Nat → Int32)) (v_points : (Nat → Int32)) (v_ringLong : (Nat → Int32)) => K (l1, v_ringsMany, v_traded, v_points, v_ringLong)) a.1 a.2.1 a.2.2.1 a.2.2.2.1 a.2.2.2.2) N (0, rm, t, pts, rl)) := by
  refine ok_l (I := fun (a : Int32 × Int32 × (Nat → Int32) × (Nat → Int32) × (Nat → Int32)) => 0 ≤ a.1 ∧ RA 0 5 a.2.2.2.1 ∧ ∀ k : Nat, (k : Int) < a.1.toInt → a.2.2.1 k = -1) (M := fun (a : Int32 × Int32 × (Nat → Int32) × (Nat → Int32) × (Nat → Int32)) => 6 - a.1) (fun K a hI hK => ?_) N _ ⟨(show (0 : Int32) ≤ 0 from by decide), hr, fun k hk => absurd (show (k : Int) < (0 : Int32).toInt from hk) (by rw [z0]; omega)⟩ hN (by show (6 : Int32) - 0 ≤ 49999; decide)
  obtain ⟨l, rm, t, p, r⟩ := a
  obtain ⟨h0, hr, ht⟩ := hI
  have h0 : 0 ≤ l := h0
  have hr : RA 0 5 p := hr
  have ht : ∀ k : Nat, (k : Int) < l.toInt → t k = -1 := ht
  show Ok _ (fX9_trade_2 N v_houses v_plots v_likes _ l rm t p r)
  unfold fX9_trade_2
  refine ok_if (fun c => tr_26 hN hh hp _ _ _ _ hr (rd_ini hh (fun k hk => ht k ?_))) (fun c => ?_)
  · have z6 : (6 : Int32).toInt = 6 := rfl
    rw [fa_le, z6] at c
    omega
  · refine ok_g (ng6 (by clear hK ht; grind)) (hK (l + 1, rm, _, p, r) ⟨by show 0 ≤ l + 1; clear hK ht; grind, hr, fun k hk => ?_⟩ (by show (6 : Int32) - (l + 1) < 6 - l; clear hK ht; grind) (by show 0 < (6 : Int32) - l; clear hK ht; grind))
    have hk : (k : Int) < (l + 1).toInt := hk
    rw [add1 h0 (by clear hK ht; grind)] at hk
    have t1 := tnc h0
    show upd t l.toNatClampNeg (-1) k = -1
    by_cases q : k = l.toNatClampNeg
    · rw [q, pk_us]
    · rw [pk_un q]; exact ht k (by omega)
theorem tX9_trade {N : Nat} {v_houses : Int32} {v_plots v_likes : Nat → Int32} {v_ringsMany : Int32} {v_traded v_points v_ringLong : Nat → Int32} (hN : 49999 < N) (h_v_houses : RB 0 6 v_houses) (h_v_plots : RA (-1) 11 v_plots) (h_v_points : RA 0 5 v_points) : Ok (fun r => RA 0 5 r.2.2.1 ∧ (RDS v_houses v_plots v_likes r.1)) (fX9_trade N v_houses v_plots v_likes v_ringsMany v_traded v_points v_ringLong) := by
  unfold fX9_trade
  exact tr_2 hN h_v_houses h_v_plots _ _ _ _ h_v_points
