theorem sX9_placeOf_2 {N : Nat} {v_row : (Nat → Int32)} {a1 : Int32} {K_2 : Int32 → Option (Int32)} {l2 : Int32}  {m_2 : Int32} (hN : 49999 < N) (h_v_row : RA 0 5 v_row) (h_a1 : RB 0 5 a1) (hK_2 : ∀ (l2 : Int32), (0 ≤ l2 ∧ l2 < 6) ∧ (∃ k : Int32, (l2 ≤ k ∧ k < 6) ∧ v_row k.toNatClampNeg = a1) → (6 - l2) < m_2 → 0 < m_2 → Ok (fun r => True) (K_2 l2)) (hI : (0 ≤ l2 ∧ l2 < 6) ∧ (∃ k : Int32, (l2 ≤ k ∧ k < 6) ∧ v_row k.toNatClampNeg = a1)) (hm_2 : (6 - l2) = m_2) : Ok (fun r => True) (fX9_placeOf_2 N v_row a1 K_2 l2) := by
  obtain ⟨e_0, e_1⟩ := hI
  unfold fX9_placeOf_2
  refine ok_g (ng6 (by clear hm_2 hK_2; grind)) ?_
  refine ok_if (fun c_1 => ?_) (fun c_1 => ?_)
  · exact ok_s trivial
  · exact hK_2 _ ⟨(by obtain ⟨k, hk, hx⟩ := e_1; have := pl_step hx (by assumption) hk; clear hK_2; grind), (by obtain ⟨k, hk, hx⟩ := e_1; exact ⟨k, ⟨pl_step hx (by assumption) hk, hk.2⟩, hx⟩)⟩ (by clear hK_2; grind) (by clear hK_2; grind)
theorem lX9_placeOf_2 {N : Nat} {v_row : (Nat → Int32)} {a1 : Int32}  (hN : 49999 < N) (h_v_row : RA 0 5 v_row) (h_a1 : RB 0 5 a1)  : ∀ (l2 : Int32), (0 ≤ l2 ∧ l2 < 6) ∧ (∃ k : Int32, (l2 ≤ k ∧ k < 6) ∧ v_row k.toNatClampNeg = a1) → (6 - l2) ≤ 49999 → Ok (fun r => True) (lfix (fun (K : Int32 → Option (Int32)) (a : Int32) => fX9_placeOf_2 N v_row a1 (fun (l2 : Int32) => K l2) a) N (l2)) := by
  intro l2 hI hM
  exact ok_l (I := fun (a : Int32) => ((0 ≤ a ∧ a < 6) ∧ (∃ k : Int32, (a ≤ k ∧ k < 6) ∧ v_row k.toNatClampNeg = a1))) (M := fun (a : Int32) => (6 - a)) (fun K a hI hK => sX9_placeOf_2  hN h_v_row h_a1  (fun l2 hI2  hlt hp => hK (l2) hI2 hlt hp) hI  rfl) N _ hI hN hM
theorem tX9_placeOf {N : Nat} {v_row : (Nat → Int32)} {a1 : Int32}  (hN : 49999 < N) (h_v_row : RA 0 5 v_row) (h_a1 : RB 0 5 a1) (e_0 : ∃ k : Int32, (0 ≤ k ∧ k < 6) ∧ v_row k.toNatClampNeg = a1)  : Ok (fun r => True) (fX9_placeOf N v_row a1) := by
  unfold fX9_placeOf
  exact lX9_placeOf_2  hN h_v_row h_a1  _ ⟨(by grind), (by grind)⟩  (by grind)
theorem tX9_isLeft {N : Nat} {v_plots : (Nat → Int32)} {v_traded : (Nat → Int32)} {a1 : Int32}  (hN : 49999 < N) (h_v_plots : RA (-1) 11 v_plots) (h_a1 : RB 0 5 a1)  : Ok (fun r => (r = 0 ∧ ¬(LFT v_plots v_traded a1) ∨ r = 1 ∧ LFT v_plots v_traded a1)) (fX9_isLeft N v_plots v_traded a1) := by
  unfold fX9_isLeft
  refine ok_g (ng6 (by grind)) ?_
  refine ok_if (fun c_1 => ?_) (fun c_1 => ?_)
  · exact ok_s (by unfold LFT; grind)
  · refine ok_g (ng6 (by grind)) ?_
    refine ok_if (fun c_2 => ?_) (fun c_2 => ?_)
    · exact ok_s (by unfold LFT; grind)
    · exact ok_s (by unfold LFT; grind)
theorem sX9_leftMany_4 {N : Nat} {v_houses : Int32} {v_plots : (Nat → Int32)} {v_traded : (Nat → Int32)} {K_4 : Int32 → Int32 → Option (Int32)} {l1 : Int32} {l2 : Int32}  {m_4 : Int32} (hN : 49999 < N) (h_v_houses : RB 0 6 v_houses) (h_v_plots : RA (-1) 11 v_plots) (hK_4 : ∀ (l1 : Int32) (l2 : Int32), 0 ≤ l2 ∧ (l1 = nI (cl v_plots v_traded l2.toNatClampNeg)) ∧ (l2 ≤ v_houses) → (v_houses - l2) < m_4 → 0 < m_4 → Ok (fun r => (r = nI (cl v_plots v_traded v_houses.toNatClampNeg))) (K_4 l1 l2)) (hI : 0 ≤ l2 ∧ (l1 = nI (cl v_plots v_traded l2.toNatClampNeg)) ∧ (l2 ≤ v_houses)) (hm_4 : (v_houses - l2) = m_4) : Ok (fun r => (r = nI (cl v_plots v_traded v_houses.toNatClampNeg))) (fX9_leftMany_4 N v_houses v_plots v_traded K_4 l1 l2) := by
  obtain ⟨h_l2, e_0, e_1⟩ := hI
  unfold fX9_leftMany_4
  refine ok_if (fun c_1 => ?_) (fun c_1 => ?_)
  · exact ok_s (by have q : l2 = v_houses := (by clear hK_4; grind); rw [← q]; exact e_0)
  · refine ok_b (tX9_isLeft hN h_v_plots (by clear hm_4 hK_4; grind)) (fun x_15 hx => ?_)
    have h_x_15_0 := hx
    refine ok_if (fun c_2 => ?_) (fun c_2 => ?_)
    · exact hK_4 _ _ ⟨(by clear hm_4 hK_4; grind), (by clear hK_4; first | exact clm_n e_0 (by grind) (by grind) | exact clm_y e_0 (by grind) (by grind)), (by clear hm_4 hK_4; grind)⟩ (by clear hK_4; grind) (by clear hK_4; grind)
    · exact hK_4 _ _ ⟨(by clear hm_4 hK_4; grind), (by clear hK_4; first | exact clm_n e_0 (by grind) (by grind) | exact clm_y e_0 (by grind) (by grind)), (by clear hm_4 hK_4; grind)⟩ (by clear hK_4; grind) (by clear hK_4; grind)
theorem lX9_leftMany_4 {N : Nat} {v_houses : Int32} {v_plots : (Nat → Int32)} {v_traded : (Nat → Int32)}  (hN : 49999 < N) (h_v_houses : RB 0 6 v_houses) (h_v_plots : RA (-1) 11 v_plots)  : ∀ (l1 : Int32) (l2 : Int32), 0 ≤ l2 ∧ (l1 = nI (cl v_plots v_traded l2.toNatClampNeg)) ∧ (l2 ≤ v_houses) → (v_houses - l2) ≤ 49999 → Ok (fun r => (r = nI (cl v_plots v_traded v_houses.toNatClampNeg))) (lfix (fun (K : Int32 × Int32 → Option (Int32)) (a : Int32 × Int32) => fX9_leftMany_4 N v_houses v_plots v_traded (fun (l1 : Int32) (l2 : Int32) => K (l1, l2)) a.1 a.2) N (l1, l2)) := by
  intro l1 l2 hI hM
  exact ok_l (I := fun (a : Int32 × Int32) => (0 ≤ a.2 ∧ (a.1 = nI (cl v_plots v_traded a.2.toNatClampNeg)) ∧ (a.2 ≤ v_houses))) (M := fun (a : Int32 × Int32) => (v_houses - a.2)) (fun K a hI hK => sX9_leftMany_4  hN h_v_houses h_v_plots  (fun l1 l2 hI2  hlt hp => hK (l1, l2) hI2 hlt hp) hI  rfl) N _ hI hN hM
theorem tX9_leftMany {N : Nat} {v_houses : Int32} {v_plots : (Nat → Int32)} {v_traded : (Nat → Int32)}  (hN : 49999 < N) (h_v_houses : RB 0 6 v_houses) (h_v_plots : RA (-1) 11 v_plots)  : Ok (fun r => (r = nI (cl v_plots v_traded v_houses.toNatClampNeg))) (fX9_leftMany N v_houses v_plots v_traded) := by
  unfold fX9_leftMany
  exact lX9_leftMany_4  hN h_v_houses h_v_plots  _ _ ⟨(by grind), rfl, (by grind)⟩  (by grind)
theorem sX9_pointsTo_4 {N : Nat} {v_houses : Int32} {v_plots : (Nat → Int32)} {v_traded : (Nat → Int32)} {v_likes : (Nat → Int32)} {a1 : Int32} {K_4 : Int32 → Int32 → Option (Int32)} {l2 : Int32} {l3 : Int32}  {m_4 : Int32} (hN : 49999 < N) (h_v_houses : RB 0 6 v_houses) (h_v_plots : RA (-1) 11 v_plots) (h_a1 : RB 0 5 a1) (hK_4 : ∀ (l2 : Int32) (l3 : Int32), RB (-1) 5 l2 ∧ 0 ≤ l3 ∧ (PTI v_houses v_plots v_traded l2 l3) → (v_houses - l3) < m_4 → 0 < m_4 → Ok (fun r => RB (-1) 5 r ∧ (PTI v_houses v_plots v_traded r v_houses)) (K_4 l2 l3)) (hI : RB (-1) 5 l2 ∧ 0 ≤ l3 ∧ (PTI v_houses v_plots v_traded l2 l3)) (hm_4 : (v_houses - l3) = m_4) : Ok (fun r => RB (-1) 5 r ∧ (PTI v_houses v_plots v_traded r v_houses)) (fX9_pointsTo_4 N v_houses v_plots v_traded v_likes a1 K_4 l2 l3) := by
  obtain ⟨h_l2, h_l3, e_0⟩ := hI
  unfold fX9_pointsTo_4
  refine ok_if (fun c_1 => ?_) (fun c_1 => ?_)
  · exact ok_s ⟨h_l2, (PTI.fin e_0 (by assumption))⟩
  · refine ok_b (tX9_isLeft hN h_v_plots (by clear hm_4 hK_4; grind)) (fun x_14 hx => ?_)
    have h_x_14_0 := hx
    refine ok_if (fun c_2 => ?_) (fun c_2 => ?_)
    · exact hK_4 _ _ ⟨h_l2, (by clear hm_4 hK_4; grind), (by clear hK_4; first | exact PTI.skip e_0 (by grind) (by grind) | exact PTI.take (by grind) (by grind) | exact PTI.keep e_0 (by grind))⟩ (by clear hK_4; grind) (by clear hK_4; grind)
    · refine ok_g (ng6 (by clear hm_4 hK_4; grind)) ?_
      refine ok_g (ng6 (by clear hm_4 hK_4; grind)) ?_
      refine ok_b (tX9_round hN ) (fun x_34 hx => ?_)
      have h_x_34_0 := hx
      refine ok_g (ng6 (by clear hm_4 hK_4; grind)) ?_
      refine ok_if (fun c_3 => ?_) (fun c_3 => ?_)
      · exact hK_4 _ _ ⟨(by clear hm_4 hK_4; grind), (by clear hm_4 hK_4; grind), (by clear hK_4; first | exact PTI.skip e_0 (by grind) (by grind) | exact PTI.take (by grind) (by grind) | exact PTI.keep e_0 (by grind))⟩ (by clear hK_4; grind) (by clear hK_4; grind)
      · refine ok_g (ng6 (by clear hm_4 hK_4; grind)) ?_
        refine ok_g (ng6 (by clear hm_4 hK_4; grind)) ?_
        refine ok_b (tX9_round hN ) (fun x_68 hx => ?_)
        have h_x_68_0 := hx
        refine ok_g (ng6 (by clear hm_4 hK_4; grind)) ?_
        refine ok_if (fun c_4 => ?_) (fun c_4 => ?_)
        · exact hK_4 _ _ ⟨h_l2, (by clear hm_4 hK_4; grind), (by clear hK_4; first | exact PTI.skip e_0 (by grind) (by grind) | exact PTI.take (by grind) (by grind) | exact PTI.keep e_0 (by grind))⟩ (by clear hK_4; grind) (by clear hK_4; grind)
        · exact hK_4 _ _ ⟨(by clear hm_4 hK_4; grind), (by clear hm_4 hK_4; grind), (by clear hK_4; first | exact PTI.skip e_0 (by grind) (by grind) | exact PTI.take (by grind) (by grind) | exact PTI.keep e_0 (by grind))⟩ (by clear hK_4; grind) (by clear hK_4; grind)
theorem lX9_pointsTo_4 {N : Nat} {v_houses : Int32} {v_plots : (Nat → Int32)} {v_traded : (Nat → Int32)} {v_likes : (Nat → Int32)} {a1 : Int32}  (hN : 49999 < N) (h_v_houses : RB 0 6 v_houses) (h_v_plots : RA (-1) 11 v_plots) (h_a1 : RB 0 5 a1)  : ∀ (l2 : Int32) (l3 : Int32), RB (-1) 5 l2 ∧ 0 ≤ l3 ∧ (PTI v_houses v_plots v_traded l2 l3) → (v_houses - l3) ≤ 49999 → Ok (fun r => RB (-1) 5 r ∧ (PTI v_houses v_plots v_traded r v_houses)) (lfix (fun (K : Int32 × Int32 → Option (Int32)) (a : Int32 × Int32) => fX9_pointsTo_4 N v_houses v_plots v_traded v_likes a1 (fun (l2 : Int32) (l3 : Int32) => K (l2, l3)) a.1 a.2) N (l2, l3)) := by
  intro l2 l3 hI hM
  exact ok_l (I := fun (a : Int32 × Int32) => (RB (-1) 5 a.1 ∧ 0 ≤ a.2 ∧ (PTI v_houses v_plots v_traded a.1 a.2))) (M := fun (a : Int32 × Int32) => (v_houses - a.2)) (fun K a hI hK => sX9_pointsTo_4  hN h_v_houses h_v_plots h_a1  (fun l2 l3 hI2  hlt hp => hK (l2, l3) hI2 hlt hp) hI  rfl) N _ hI hN hM
theorem tX9_pointsTo {N : Nat} {v_houses : Int32} {v_plots : (Nat → Int32)} {v_traded : (Nat → Int32)} {v_likes : (Nat → Int32)} {a1 : Int32}  (hN : 49999 < N) (h_v_houses : RB 0 6 v_houses) (h_v_plots : RA (-1) 11 v_plots) (h_a1 : RB 0 5 a1)  : Ok (fun r => RB (-1) 5 r ∧ (PTI v_houses v_plots v_traded r v_houses)) (fX9_pointsTo N v_houses v_plots v_traded v_likes a1) := by
  unfold fX9_pointsTo
  exact lX9_pointsTo_4  hN h_v_houses h_v_plots h_a1  _ _ ⟨(by grind), (by grind), PTI.zero⟩  (by grind)
theorem sX9_ringOf_9 {N : Nat} {v_points : (Nat → Int32)} {a1 : Int32} {K_9 : Int32 → Int32 → Option (Int32)} {l2 : Int32} {l3 : Int32}  {m_9 : Int32} (hN : 49999 < N) (h_v_points : RA 0 5 v_points) (h_a1 : RB 0 5 a1) (hK_9 : ∀ (l2 : Int32) (l3 : Int32), RB 0 5 l2 ∧ RB 1 7 l3 ∧ (l2 = itr v_points l3.toNatClampNeg a1) ∧ (∀ m : Nat, 1 ≤ m → (m : Int) < l3.toInt → itr v_points m a1 ≠ a1) → (7 - l3) < m_9 → 0 < m_9 → Ok (fun r => (RG v_points a1 r)) (K_9 l2 l3)) (hI : RB 0 5 l2 ∧ RB 1 7 l3 ∧ (l2 = itr v_points l3.toNatClampNeg a1) ∧ (∀ m : Nat, 1 ≤ m → (m : Int) < l3.toInt → itr v_points m a1 ≠ a1)) (hm_9 : (7 - l3) = m_9) : Ok (fun r => (RG v_points a1 r)) (fX9_ringOf_9 N v_points a1 K_9 l2 l3) := by
  obtain ⟨h_l2, h_l3, e_0, e_1⟩ := hI
  unfold fX9_ringOf_9
  refine ok_if (fun c_1 => ?_) (fun c_1 => ?_)
  · refine ok_if (fun c_2 => ?_) (fun c_2 => ?_)
    · exact ok_s (by clear hK_9; first | exact rg_1 e_0 (by assumption) (by clear e_1; grind) | exact rg_0 e_0 e_1 c_1 (by clear e_1; grind) | exact absurd (by assumption) c_1 | exact absurd c_1 (by assumption))
    · exact ok_s (by clear hK_9; first | exact rg_1 e_0 (by assumption) (by clear e_1; grind) | exact rg_0 e_0 e_1 c_1 (by clear e_1; grind) | exact absurd (by assumption) c_1 | exact absurd c_1 (by assumption))
  · refine ok_if (fun c_3 => ?_) (fun c_3 => ?_)
    · refine ok_if (fun c_4 => ?_) (fun c_4 => ?_)
      · exact ok_s (by clear hK_9; first | exact rg_1 e_0 (by assumption) (by clear e_1; grind) | exact rg_0 e_0 e_1 c_1 (by clear e_1; grind) | exact absurd (by assumption) c_1 | exact absurd c_1 (by assumption))
      · exact ok_s (by clear hK_9; first | exact rg_1 e_0 (by assumption) (by clear e_1; grind) | exact rg_0 e_0 e_1 c_1 (by clear e_1; grind) | exact absurd (by assumption) c_1 | exact absurd c_1 (by assumption))
    · refine ok_g (ng6 (by clear hm_9 hK_9; grind)) ?_
      exact hK_9 _ _ ⟨(by clear hm_9 hK_9; have := h_v_points ((l2).toNatClampNeg); grind), (by clear hm_9 hK_9; grind), (rg_a e_0 (by clear hK_9 e_1; grind)), (rg_b e_0 e_1 c_1 (by clear hK_9 e_1; grind))⟩ (by clear hK_9; grind) (by clear hK_9; grind)
theorem lX9_ringOf_9 {N : Nat} {v_points : (Nat → Int32)} {a1 : Int32}  (hN : 49999 < N) (h_v_points : RA 0 5 v_points) (h_a1 : RB 0 5 a1)  : ∀ (l2 : Int32) (l3 : Int32), RB 0 5 l2 ∧ RB 1 7 l3 ∧ (l2 = itr v_points l3.toNatClampNeg a1) ∧ (∀ m : Nat, 1 ≤ m → (m : Int) < l3.toInt → itr v_points m a1 ≠ a1) → (7 - l3) ≤ 49999 → Ok (fun r => (RG v_points a1 r)) (lfix (fun (K : Int32 × Int32 → Option (Int32)) (a : Int32 × Int32) => fX9_ringOf_9 N v_points a1 (fun (l2 : Int32) (l3 : Int32) => K (l2, l3)) a.1 a.2) N (l2, l3)) := by
  intro l2 l3 hI hM
  exact ok_l (I := fun (a : Int32 × Int32) => (RB 0 5 a.1 ∧ RB 1 7 a.2 ∧ (a.1 = itr v_points a.2.toNatClampNeg a1) ∧ (∀ m : Nat, 1 ≤ m → (m : Int) < a.2.toInt → itr v_points m a1 ≠ a1))) (M := fun (a : Int32 × Int32) => (7 - a.2)) (fun K a hI hK => sX9_ringOf_9  hN h_v_points h_a1  (fun l2 l3 hI2  hlt hp => hK (l2, l3) hI2 hlt hp) hI  rfl) N _ hI hN hM
theorem tX9_ringOf {N : Nat} {v_points : (Nat → Int32)} {a1 : Int32}  (hN : 49999 < N) (h_v_points : RA 0 5 v_points) (h_a1 : RB 0 5 a1)  : Ok (fun r => (RG v_points a1 r)) (fX9_ringOf N v_points a1) := by
  unfold fX9_ringOf
  refine ok_g (ng6 (by grind)) ?_
  exact lX9_ringOf_9  hN h_v_points h_a1  _ _ ⟨(by have := h_v_points ((a1).toNatClampNeg); grind), (by grind), rfl, (fun m h1 h2 => absurd h2 (by have : (1 : Int32).toInt = 1 := rfl; omega))⟩  (by grind)
theorem lo_all {N : Nat} {v_points : Nat → Int32} {a1 : Int32} (hr : RA 0 5 v_points) : ∀ (m : Nat) (l2 l3 : Int32) (n : Nat), RB 0 5 l3 → (l2 = 0 ∨ l2 = 1) → itr v_points m l3 = a1 → m < n → Ok (fun r => (r = 0 ∨ r = 1)) (lfix (fun (K : Int32 × Int32 → Option (Int32)) (a : Int32 × Int32) => fX9_isLeastOn_9 N v_points a1 (fun (l2 : Int32) (l3 : Int32) => K (l2, l3)) a.1 a.2) n (l2, l3)) := by
  intro m
  induction m with
  | zero =>
    intro l2 l3 n h3 h2 e hn
    obtain ⟨k, rfl⟩ : ∃ k, n = k + 1 := ⟨n - 1, by omega⟩
    rw [lfix_s]
    show Ok _ (fX9_isLeastOn_9 N v_points a1 _ l2 l3)
    unfold fX9_isLeastOn_9
    exact ok_n e (ok_g (fun q => q h2) (ok_s h2))
  | succ m ih =>
    intro l2 l3 n h3 h2 e hn
    obtain ⟨k, rfl⟩ : ∃ k, n = k + 1 := ⟨n - 1, by omega⟩
    rw [lfix_s]
    show Ok _ (fX9_isLeastOn_9 N v_points a1 _ l2 l3)
    unfold fX9_isLeastOn_9
    have g : ¬ (l3 < 0 ∨ 6 ≤ l3.toNatClampNeg) := ng6 (by grind)
    have r := hr l3.toNatClampNeg
    refine ok_if (fun c => ok_g (fun q => q h2) (ok_s h2)) (fun c => ?_)
    refine ok_if (fun c2 => ok_g g (ih _ _ k r (Or.inl rfl) e (by omega))) (fun c2 => ?_)
    exact ok_if (fun c3 => ok_g g (ih _ _ k r (Or.inl rfl) e (by omega))) (fun c3 => ok_g g (ih _ _ k r (Or.inr rfl) e (by omega)))
theorem tX9_isLeastOn {N : Nat} {v_points : Nat → Int32} {a1 : Int32} (hN : 49999 < N) (h_v_points : RA 0 5 v_points) (h_a1 : RB 0 5 a1) (e_0 : ∃ m : Nat, (1 ≤ m ∧ m ≤ 7) ∧ itr v_points m a1 = a1) : Ok (fun r => (r = 0 ∨ r = 1)) (fX9_isLeastOn N v_points a1) := by
  unfold fX9_isLeastOn
  obtain ⟨m, hm, e⟩ := e_0
  obtain ⟨k, rfl⟩ : ∃ k, m = k + 1 := ⟨m - 1, by omega⟩
  exact ok_g (ng6 (by grind)) (lo_all h_v_points k 1 _ N (h_v_points _) (Or.inr rfl) e (by omega))
theorem tr_161 {N : Nat} {v_houses : Int32} {v_plots v_likes : Nat → Int32} {K_26 : Int32 → (Nat → Int32) → (Nat → Int32) → (Nat → Int32) → Option (Int32 × (Nat → Int32) × (Nat → Int32) × (Nat → Int32))} {P : Int32 × (Nat → Int32) × (Nat → Int32) × (Nat → Int32) → Prop} {T pts rl : Nat → Int32} (hN : 49999 < N) (hh : RB 0 6 v_houses) (hr : RA 0 5 pts) (hK : ∀ rm t, (∀ k : Nat, (k : Int) < v_houses.toInt → t k = if 0 < rl k then v_plots (pts k).toNatClampNeg else T k) → Ok P (K_26 rm t pts rl)) (rm : Int32) : Ok P (lfix (fun (K : Int32 × Int32 × (Nat → Int32) × (Nat → Int32) × (Nat → Int32) → Option (Int32 × (Nat → Int32) × (Nat → Int32) × (Nat → Int32))) (a : Int32 × Int32 × (Nat → Int32) × (Nat → Int32) × (Nat → Int32)) => fX9_trade_161 N v_houses v_plots v_likes K_26 (fun (l1 : Int32) (v_ringsMany : Int32) (v_traded : (Nat → Int32)) (v_points : (Nat → Int32)) (v_ringLong : (Nat → Int32)) => K (l1, v_ringsMany, v_traded, v_points, v_ringLong)) a.1 a.2.1 a.2.2.1 a.2.2.2.1 a.2.2.2.2) N (0, rm, T, pts, rl)) := by
  refine ok_l (I := fun (a : Int32 × Int32 × (Nat → Int32) × (Nat → Int32) × (Nat → Int32)) => 0 ≤ a.1 ∧ a.2.2.2.1 = pts ∧ a.2.2.2.2 = rl ∧ ∀ k : Nat, ((k : Int) < a.1.toInt → a.2.2.1 k = if 0 < rl k then v_plots (pts k).toNatClampNeg else T k) ∧ (a.1.toInt ≤ k → a.2.2.1 k = T k)) (M := fun (a : Int32 × Int32 × (Nat → Int32) × (Nat → Int32) × (Nat → Int32)) => v_houses - a.1) (fun K a hI hK2 => ?_) N _ ⟨(show (0 : Int32) ≤ 0 from by decide), rfl, rfl, fun k => ⟨fun q => absurd q (by have : (0 : Int32).toInt = 0 := rfl; show ¬ ((k : Int) < (0 : Int32).toInt); omega), fun _ => rfl⟩⟩ hN (by show v_houses - 0 ≤ 49999; grind)
  obtain ⟨l, rm, t, p, r⟩ := a
  obtain ⟨h0, e1, e2, ht⟩ := hI
  have h0 : 0 ≤ l := h0
  have e1 : p = pts := e1
  have e2 : r = rl := e2
  have ht : ∀ k : Nat, ((k : Int) < l.toInt → t k = if 0 < rl k then v_plots (pts k).toNatClampNeg else T k) ∧ (l.toInt ≤ k → t k = T k) := ht
  subst e1
  subst e2
  have hK2 : ∀ b : Int32 × Int32 × (Nat → Int32) × (Nat → Int32) × (Nat → Int32), _ → v_houses - b.1 < v_houses - l → 0 < v_houses - l → Ok P (K b) := hK2
  show Ok _ (fX9_trade_161 N v_houses v_plots v_likes K_26 _ l rm t p r)
  unfold fX9_trade_161
  refine ok_if (fun c => hK _ _ (fun k hk => (ht k).1 (by rw [fa_le] at c; omega))) (fun c => ?_)
  have g : ¬ (l < 0 ∨ 6 ≤ l.toNatClampNeg) := ng6 (by clear hK2 ht; grind)
  have q := hr l.toNatClampNeg
  have t1 := tnc h0
  have a1 := add1 h0 (by clear hK2 ht; grind)
  have stp : ∀ v : Int32, (v = if 0 < r l.toNatClampNeg then v_plots (p l.toNatClampNeg).toNatClampNeg else T l.toNatClampNeg) → ∀ k : Nat, ((k : Int) < (l + 1).toInt → upd t l.toNatClampNeg v k = if 0 < r k then v_plots (p k).toNatClampNeg else T k) ∧ ((l + 1).toInt ≤ k → upd t l.toNatClampNeg v k = T k) := fun v hv k => by
    by_cases kk : k = l.toNatClampNeg
    · subst kk
      rw [pk_us]
      exact ⟨fun _ => hv, fun w => by omega⟩
    · rw [pk_un kk]
      exact ⟨fun w => (ht k).1 (by omega), fun w => (ht k).2 (by omega)⟩
  refine ok_g g (ok_if (fun c2 => ?_) (fun c2 => ?_))
  · refine ok_g g (ok_g g (hK2 (l + 1, rm, _, p, r) ⟨by show 0 ≤ l + 1; clear hK2 ht stp; grind, rfl, rfl, stp _ ?_⟩ (by show v_houses - (l + 1) < v_houses - l; clear hK2 ht stp; grind) (by clear hK2 ht stp; grind)))
    rw [if_neg (by clear hK2 ht stp; grind)]
    exact (ht _).2 (by omega)
  · refine ok_g g (ok_g (ng6 (by clear hK2 ht stp; grind)) (ok_g g (hK2 (l + 1, rm, _, p, r) ⟨by show 0 ≤ l + 1; clear hK2 ht stp; grind, rfl, rfl, stp _ ?_⟩ (by show v_houses - (l + 1) < v_houses - l; clear hK2 ht stp; grind) (by clear hK2 ht stp; grind))))
    rw [if_pos (by clear hK2 ht stp; grind)]
theorem tr_113 {N : Nat} {v_houses : Int32} {v_plots v_likes : Nat → Int32} {K_26 : Int32 → (Nat → Int32) → (Nat → Int32) → (Nat → Int32) → Option (Int32 × (Nat → Int32) × (Nat → Int32) × (Nat → Int32))} {P : Int32 × (Nat → Int32) × (Nat → Int32) × (Nat → Int32) → Prop} {T pts rl : Nat → Int32} (hN : 49999 < N) (hh : RB 0 6 v_houses) (hr : RA 0 5 pts) (hl : ∀ h : Int32, 0 ≤ h → h < v_houses → 1 < rl h.toNatClampNeg → RG pts h (rl h.toNatClampNeg)) (hK : ∀ rm t, (∀ k : Nat, (k : Int) < v_houses.toInt → t k = if 0 < rl k then v_plots (pts k).toNatClampNeg else T k) → Ok P (K_26 rm t pts rl)) (rm : Int32) : Ok P (lfix (fun (K : Int32 × Int32 × (Nat → Int32) × (Nat → Int32) × (Nat → Int32) → Option (Int32 × (Nat → Int32) × (Nat → Int32) × (Nat → Int32))) (a : Int32 × Int32 × (Nat → Int32) × (Nat → Int32) × (Nat → Int32)) => fX9_trade_113 N v_houses v_plots v_likes K_26 (fun (l1 : Int32) (v_ringsMany : Int32) (v_traded : (Nat → Int32)) (v_points : (Nat → Int32)) (v_ringLong : (Nat → Int32)) => K (l1, v_ringsMany, v_traded, v_points, v_ringLong)) a.1 a.2.1 a.2.2.1 a.2.2.2.1 a.2.2.2.2) N (0, rm, T, pts, rl)) := by
  refine ok_l (I := fun (a : Int32 × Int32 × (Nat → Int32) × (Nat → Int32) × (Nat → Int32)) => 0 ≤ a.1 ∧ a.2.2.1 = T ∧ a.2.2.2.1 = pts ∧ a.2.2.2.2 = rl) (M := fun (a : Int32 × Int32 × (Nat → Int32) × (Nat → Int32) × (Nat → Int32)) => v_houses - a.1) (fun K a hI hK2 => ?_) N _ ⟨(show (0 : Int32) ≤ 0 from by decide), rfl, rfl, rfl⟩ hN (by show v_houses - 0 ≤ 49999; grind)
  obtain ⟨l, rm, t, p, r⟩ := a
  obtain ⟨h0, e0, e1, e2⟩ := hI
  have h0 : 0 ≤ l := h0
  have e0 : t = T := e0
  have e1 : p = pts := e1
  have e2 : r = rl := e2
  subst e0
  subst e1
  subst e2
  have hK2 : ∀ b : Int32 × Int32 × (Nat → Int32) × (Nat → Int32) × (Nat → Int32), _ → v_houses - b.1 < v_houses - l → 0 < v_houses - l → Ok P (K b) := hK2
  show Ok _ (fX9_trade_113 N v_houses v_plots v_likes K_26 _ l rm t p r)
  unfold fX9_trade_113
  refine ok_if (fun c => tr_161 hN hh hr hK _) (fun c => ?_)
  have g : ¬ (l < 0 ∨ 6 ≤ l.toNatClampNeg) := ng6 (by clear hK2 hl hK; grind)
  have kk : ∀ rm2, Ok P (K (l + 1, rm2, t, p, r)) := fun rm2 => hK2 (l + 1, rm2, t, p, r) ⟨by show 0 ≤ l + 1; clear hK2 hl hK; grind, rfl, rfl, rfl⟩ (by show v_houses - (l + 1) < v_houses - l; clear hK2 hl hK; grind) (by clear hK2 hl hK; grind)
  refine ok_g g (ok_if (fun c2 => kk _) (fun c2 => ?_))
  have hg := hl l h0 (by clear hK2 hl hK kk; grind) (by clear hK2 hl hK kk; grind)
  have ex : ∃ m : Nat, (1 ≤ m ∧ m ≤ 7) ∧ itr p m l = l := by
    rcases hg with hg | hg
    · exact absurd hg.1 (by clear hK2 hl hK kk hg; grind)
    · have b1 := hg.1.1
      have b2 := hg.1.2
      have t1 := tnc (x := r l.toNatClampNeg) (by clear hK2 hl hK kk hg; grind)
      have z7 : (7 : Int32).toInt = 7 := rfl
      have z1 : (1 : Int32).toInt = 1 := rfl
      rw [fa_le, z1] at b1
      rw [fa_le, z7] at b2
      exact ⟨_, ⟨by omega, by omega⟩, hg.2⟩
  refine ok_b (tX9_isLeastOn hN hr (by clear hK2 hl hK kk hg; grind) ex) (fun x _ => ?_)
  exact ok_if (fun _ => kk _) (fun _ => kk _)
theorem tr_74 {N : Nat} {v_houses : Int32} {v_plots v_likes : Nat → Int32} {K_26 : Int32 → (Nat → Int32) → (Nat → Int32) → (Nat → Int32) → Option (Int32 × (Nat → Int32) × (Nat → Int32) × (Nat → Int32))} {P : Int32 × (Nat → Int32) × (Nat → Int32) × (Nat → Int32) → Prop} {T pts : Nat → Int32} (hN : 49999 < N) (hh : RB 0 6 v_houses) (hp : RA (-1) 11 v_plots) (hr : RA 0 5 pts) (hK : ∀ rl rm t, (∀ h : Int32, 0 ≤ h → h < v_houses → (LFT v_plots T h → RG pts h (rl h.toNatClampNeg)) ∧ (¬ LFT v_plots T h → rl h.toNatClampNeg = 0)) → (∀ k : Nat, (k : Int) < v_houses.toInt → t k = if 0 < rl k then v_plots (pts k).toNatClampNeg else T k) → Ok P (K_26 rm t pts rl)) (rm : Int32) (rl : Nat → Int32) : Ok P (lfix (fun (K : Int32 × Int32 × (Nat → Int32) × (Nat → Int32) × (Nat → Int32) → Option (Int32 × (Nat → Int32) × (Nat → Int32) × (Nat → Int32))) (a : Int32 × Int32 × (Nat → Int32) × (Nat → Int32) × (Nat → Int32)) => fX9_trade_74 N v_houses v_plots v_likes K_26 (fun (l1 : Int32) (v_ringsMany : Int32) (v_traded : (Nat → Int32)) (v_points : (Nat → Int32)) (v_ringLong : (Nat → Int32)) => K (l1, v_ringsMany, v_traded, v_points, v_ringLong)) a.1 a.2.1 a.2.2.1 a.2.2.2.1 a.2.2.2.2) N (0, rm, T, pts, rl)) := by
  refine ok_l (I := fun (a : Int32 × Int32 × (Nat → Int32) × (Nat → Int32) × (Nat → Int32)) => 0 ≤ a.1 ∧ a.2.2.1 = T ∧ a.2.2.2.1 = pts ∧ ∀ h : Int32, 0 ≤ h → h < a.1 → (LFT v_plots T h → RG pts h (a.2.2.2.2 h.toNatClampNeg)) ∧ (¬ LFT v_plots T h → a.2.2.2.2 h.toNatClampNeg = 0)) (M := fun (a : Int32 × Int32 × (Nat → Int32) × (Nat → Int32) × (Nat → Int32)) => v_houses - a.1) (fun K a hI hK2 => ?_) N _ ⟨(show (0 : Int32) ≤ 0 from by decide), rfl, rfl, fun h h0 h1 => absurd h1 (by show ¬ h < 0; grind)⟩ hN (by show v_houses - 0 ≤ 49999; grind)
  obtain ⟨l, rm, t, p, r⟩ := a
  obtain ⟨h0, e0, e1, hg⟩ := hI
  have h0 : 0 ≤ l := h0
  have e0 : t = T := e0
  have e1 : p = pts := e1
  have hg : ∀ h : Int32, 0 ≤ h → h < l → (LFT v_plots T h → RG pts h (r h.toNatClampNeg)) ∧ (¬ LFT v_plots T h → r h.toNatClampNeg = 0) := hg
  subst e0
  subst e1
  have hK2 : ∀ b : Int32 × Int32 × (Nat → Int32) × (Nat → Int32) × (Nat → Int32), _ → v_houses - b.1 < v_houses - l → 0 < v_houses - l → Ok P (K b) := hK2
  show Ok _ (fX9_trade_74 N v_houses v_plots v_likes K_26 _ l rm t p r)
  unfold fX9_trade_74
  refine ok_if (fun c => ?_) (fun c => ?_)
  · have fin : ∀ h : Int32, 0 ≤ h → h < v_houses → (LFT v_plots t h → RG p h (r h.toNatClampNeg)) ∧ (¬ LFT v_plots t h → r h.toNatClampNeg = 0) := fun h q0 q1 => hg h q0 (by clear hK2 hK hg; grind)
    refine tr_113 hN hh hr (fun h q0 q1 q2 => ?_) (fun rm2 t2 ht2 => hK r rm2 t2 fin ht2) rm
    by_cases w : LFT v_plots t h
    · exact (fin h q0 q1).1 w
    · have := (fin h q0 q1).2 w
      rw [this] at q2
      exact absurd q2 (by decide)
  · have g : ¬ (l < 0 ∨ 6 ≤ l.toNatClampNeg) := ng6 (by clear hK2 hK hg; grind)
    have stp : ∀ v : Int32, ((LFT v_plots t l → RG p l v) ∧ (¬ LFT v_plots t l → v = 0)) → ∀ h : Int32, 0 ≤ h → h < l + 1 → (LFT v_plots t h → RG p h (upd r l.toNatClampNeg v h.toNatClampNeg)) ∧ (¬ LFT v_plots t h → upd r l.toNatClampNeg v h.toNatClampNeg = 0) := fun v hv h q0 q1 => by
      by_cases w : h = l
      · subst w; rw [pk_us]; exact hv
      · rw [pk_un (fun z => w (tn_inj q0 h0 z))]
        exact hg h q0 (by clear hK2 hK hg; grind)
    have kk : ∀ v : Int32, ((LFT v_plots t l → RG p l v) ∧ (¬ LFT v_plots t l → v = 0)) → Ok P (K (l + 1, rm, t, p, upd r l.toNatClampNeg v)) := fun v hv => hK2 (l + 1, rm, t, p, _) ⟨by show 0 ≤ l + 1; clear hK2 hK hg stp; grind, rfl, rfl, stp v hv⟩ (by show v_houses - (l + 1) < v_houses - l; clear hK2 hK hg stp; grind) (by clear hK2 hK hg stp; grind)
    refine ok_b (tX9_isLeft hN hp (by clear hK2 hK hg stp kk; grind)) (fun x hx => ?_)
    refine ok_if (fun c2 => ?_) (fun c2 => ?_)
    · have nl : ¬ LFT v_plots t l := by clear hK2 hK hg stp kk; grind
      exact ok_g g (kk 0 ⟨fun q => absurd q nl, fun _ => rfl⟩)
    · have yl : LFT v_plots t l := by clear hK2 hK hg stp kk; grind
      refine ok_b (tX9_ringOf hN hr (by clear hK2 hK hg stp kk; grind)) (fun y hy => ?_)
      exact ok_g g (kk y ⟨fun _ => hy, fun q => absurd yl q⟩)
theorem tr_35 {N : Nat} {v_houses : Int32} {v_plots v_likes : Nat → Int32} {K_26 : Int32 → (Nat → Int32) → (Nat → Int32) → (Nat → Int32) → Option (Int32 × (Nat → Int32) × (Nat → Int32) × (Nat → Int32))} {P : Int32 × (Nat → Int32) × (Nat → Int32) × (Nat → Int32) → Prop} {T : Nat → Int32} (hN : 49999 < N) (hh : RB 0 6 v_houses) (hp : RA (-1) 11 v_plots) (hK : ∀ pts rl rm t, RA 0 5 pts → (∀ h : Int32, 0 ≤ h → h < v_houses → LFT v_plots T h → (0 ≤ pts h.toNatClampNeg ∧ pts h.toNatClampNeg < v_houses) ∧ LFT v_plots T (pts h.toNatClampNeg)) → (∀ h : Int32, 0 ≤ h → h < v_houses → (LFT v_plots T h → RG pts h (rl h.toNatClampNeg)) ∧ (¬ LFT v_plots T h → rl h.toNatClampNeg = 0)) → (∀ k : Nat, (k : Int) < v_houses.toInt → t k = if 0 < rl k then v_plots (pts k).toNatClampNeg else T k) → Ok P (K_26 rm t pts rl)) (rm : Int32) (pts rl : Nat → Int32) (hr : RA 0 5 pts) : Ok P (lfix (fun (K : Int32 × Int32 × (Nat → Int32) × (Nat → Int32) × (Nat → Int32) → Option (Int32 × (Nat → Int32) × (Nat → Int32) × (Nat → Int32))) (a : Int32 × Int32 × (Nat → Int32) × (Nat → Int32) × (Nat → Int32)) => fX9_trade_35 N v_houses v_plots v_likes K_26 (fun (l1 : Int32) (v_ringsMany : Int32) (v_traded : (Nat → Int32)) (v_points : (Nat → Int32)) (v_ringLong : (Nat → Int32)) => K (l1, v_ringsMany, v_traded, v_points, v_ringLong)) a.1 a.2.1 a.2.2.1 a.2.2.2.1 a.2.2.2.2) N (0, rm, T, pts, rl)) := by
  refine ok_l (I := fun (a : Int32 × Int32 × (Nat → Int32) × (Nat → Int32) × (Nat → Int32)) => 0 ≤ a.1 ∧ a.2.2.1 = T ∧ RA 0 5 a.2.2.2.1 ∧ ∀ h : Int32, 0 ≤ h → h < a.1 → LFT v_plots T h → (0 ≤ a.2.2.2.1 h.toNatClampNeg ∧ a.2.2.2.1 h.toNatClampNeg < v_houses) ∧ LFT v_plots T (a.2.2.2.1 h.toNatClampNeg)) (M := fun (a : Int32 × Int32 × (Nat → Int32) × (Nat → Int32) × (Nat → Int32)) => v_houses - a.1) (fun K a hI hK2 => ?_) N _ ⟨(show (0 : Int32) ≤ 0 from by decide), rfl, hr, fun h h0 h1 => absurd h1 (by show ¬ h < 0; grind)⟩ hN (by show v_houses - 0 ≤ 49999; grind)
  obtain ⟨l, rm, t, p, r⟩ := a
  obtain ⟨h0, e0, hr, hg⟩ := hI
  have h0 : 0 ≤ l := h0
  have e0 : t = T := e0
  have hr : RA 0 5 p := hr
  have hg : ∀ h : Int32, 0 ≤ h → h < l → LFT v_plots T h → (0 ≤ p h.toNatClampNeg ∧ p h.toNatClampNeg < v_houses) ∧ LFT v_plots T (p h.toNatClampNeg) := hg
  subst e0
  have hK2 : ∀ b : Int32 × Int32 × (Nat → Int32) × (Nat → Int32) × (Nat → Int32), _ → v_houses - b.1 < v_houses - l → 0 < v_houses - l → Ok P (K b) := hK2
  show Ok _ (fX9_trade_35 N v_houses v_plots v_likes K_26 _ l rm t p r)
  unfold fX9_trade_35
  refine ok_if (fun c => ?_) (fun c => ?_)
  · exact tr_74 hN hh hp hr (fun rl2 rm2 t2 q1 q2 => hK p rl2 rm2 t2 hr (fun h q0 q3 => hg h q0 (by clear hK2 hK hg q1 q2; grind)) q1 q2) rm r
  · have g : ¬ (l < 0 ∨ 6 ≤ l.toNatClampNeg) := ng6 (by clear hK2 hK hg; grind)
    have stp : ∀ v : Int32, (LFT v_plots t l → (0 ≤ v ∧ v < v_houses) ∧ LFT v_plots t v) → ∀ h : Int32, 0 ≤ h → h < l + 1 → LFT v_plots t h → (0 ≤ upd p l.toNatClampNeg v h.toNatClampNeg ∧ upd p l.toNatClampNeg v h.toNatClampNeg < v_houses) ∧ LFT v_plots t (upd p l.toNatClampNeg v h.toNatClampNeg) := fun v hv h q0 q1 => by
      by_cases w : h = l
      · subst w; rw [pk_us]; exact hv
      · rw [pk_un (fun z => w (tn_inj q0 h0 z))]
        exact hg h q0 (by clear hK2 hK hg; grind)
    have kk : ∀ v : Int32, RB 0 5 v → (LFT v_plots t l → (0 ≤ v ∧ v < v_houses) ∧ LFT v_plots t v) → Ok P (K (l + 1, rm, t, upd p l.toNatClampNeg v, r)) := fun v hb hv => hK2 (l + 1, rm, t, _, r) ⟨by show 0 ≤ l + 1; clear hK2 hK hg stp; grind, rfl, RA.upd hr hb, stp v hv⟩ (by show v_houses - (l + 1) < v_houses - l; clear hK2 hK hg stp; grind) (by clear hK2 hK hg stp; grind)
    refine ok_b (tX9_isLeft hN hp (by clear hK2 hK hg stp kk; grind)) (fun x hx => ?_)
    refine ok_if (fun c2 => ?_) (fun c2 => ?_)
    · have nl : ¬ LFT v_plots t l := by clear hK2 hK hg stp kk; grind
      exact ok_g g (kk l (by clear hK2 hK hg stp kk; grind) (fun q => absurd q nl))
    · have yl : LFT v_plots t l := by clear hK2 hK hg stp kk; grind
      refine ok_b (tX9_pointsTo hN (by clear hK2 hK hg stp kk; grind) hp (by clear hK2 hK hg stp kk; grind)) (fun y hy => ?_)
      rcases hy.2 with w | w
      · exact absurd yl (w.2 l h0 (by clear hK2 hK hg stp kk w; grind))
      · exact ok_g g (kk y (by clear hK2 hK hg stp kk; grind) (fun _ => w))
theorem tr_26 {N : Nat} {v_houses : Int32} {v_plots v_likes : Nat → Int32} (hN : 49999 < N) (hh : RB 0 6 v_houses) (hp : RA (-1) 11 v_plots) (rm : Int32) (t pts rl : Nat → Int32) (hr : RA 0 5 pts) : Ok (fun r => RA 0 5 r.2.2.1) (lfix (fun (K : Int32 × (Nat → Int32) × (Nat → Int32) × (Nat → Int32) → Option (Int32 × (Nat → Int32) × (Nat → Int32) × (Nat → Int32))) (a : Int32 × (Nat → Int32) × (Nat → Int32) × (Nat → Int32)) => fX9_trade_26 N v_houses v_plots v_likes (fun (v_ringsMany : Int32) (v_traded : (Nat → Int32)) (v_points : (Nat → Int32)) (v_ringLong : (Nat → Int32)) => K (v_ringsMany, v_traded, v_points, v_ringLong)) a.1 a.2.1 a.2.2.1 a.2.2.2) N (rm, t, pts, rl)) := by
  have hz : v_houses.toNatClampNeg ≤ 6 := by
    have t1 := tnc hh.1
    have h2 := hh.2
    have z6 : (6 : Int32).toInt = 6 := rfl
    rw [fa_le, z6] at h2
    omega
  have ci : ∀ t : Nat → Int32, (nI (cl v_plots t v_houses.toNatClampNeg)).toInt = cl v_plots t v_houses.toNatClampNeg := fun t => Int32.toInt_ofNat_of_lt (by have := cl_le v_plots t v_houses.toNatClampNeg; omega)
  refine ok_l (I := fun (a : Int32 × (Nat → Int32) × (Nat → Int32) × (Nat → Int32)) => RA 0 5 a.2.2.1) (M := fun (a : Int32 × (Nat → Int32) × (Nat → Int32) × (Nat → Int32)) => nI (cl v_plots a.2.1 v_houses.toNatClampNeg)) (fun K a hI hK => ?_) N _ hr hN (by
    show nI (cl v_plots t v_houses.toNatClampNeg) ≤ 49999
    have z : (49999 : Int32).toInt = 49999 := rfl
    have := cl_le v_plots t v_houses.toNatClampNeg
    rw [fa_le, ci, z]
    omega)
  obtain ⟨rm, t, pts, rl⟩ := a
  have hI : RA 0 5 pts := hI
  have hK : ∀ b : Int32 × (Nat → Int32) × (Nat → Int32) × (Nat → Int32), RA 0 5 b.2.2.1 → nI (cl v_plots b.2.1 v_houses.toNatClampNeg) < nI (cl v_plots t v_houses.toNatClampNeg) → 0 < nI (cl v_plots t v_houses.toNatClampNeg) → Ok _ (K b) := hK
  show Ok _ (fX9_trade_26 N v_houses v_plots v_likes _ rm t pts rl)
  unfold fX9_trade_26
  refine ok_b (tX9_leftMany hN hh hp) (fun x hx => ?_)
  refine ok_if (fun c => ok_s hI) (fun c => ?_)
  rw [hx, fa_le, ci, z0] at c
  have cp : 0 < cl v_plots t v_houses.toNatClampNeg := by omega
  obtain ⟨k, hk, q1, q2⟩ := cl_pos cp
  have tk : (nI k).toInt = k := Int32.toInt_ofNat_of_lt (by omega)
  have kn : (nI k).toNatClampNeg = k := by
    have e : (nI k).toNatClampNeg = (nI k).toInt.toNat := rfl
    omega
  have t1 := tnc hh.1
  refine tr_35 hN hh hp (fun pts2 rl2 rm2 t2 r2 hpt hrg htt => ?_) rm pts rl hI
  obtain ⟨h, m, hb, hl, m1, m2, ei⟩ := ring_in hh.2 hpt (h0 := nI k) ⟨by rw [fa_le, z0, tk]; omega, by rw [fa_lt, tk]; omega⟩ (by show v_plots (nI k).toNatClampNeg ≠ -1 ∧ t (nI k).toNatClampNeg = -1; rw [kn]; exact ⟨q1, q2⟩)
  have tb := tnc hb.1
  have hb2 := hb.2
  rw [fa_lt] at hb2
  have rpos : 0 < rl2 h.toNatClampNeg := by
    rcases (hrg h hb.1 hb.2).1 hl with w | w
    · exact absurd ei (w.2 m m1 (by omega))
    · have := w.1
      clear hrg hpt htt w
      grind
  refine hK (rm2, t2, pts2, rl2) r2 ?_ ?_
  · show nI (cl v_plots t2 v_houses.toNatClampNeg) < nI (cl v_plots t v_houses.toNatClampNeg)
    rw [fa_lt, ci, ci]
    have : cl v_plots t2 v_houses.toNatClampNeg < cl v_plots t v_houses.toNatClampNeg := by
      refine cl_lt (fun j hj ej => ?_) ⟨h.toNatClampNeg, by omega, hl.1, hl.2, ?_⟩
      · have tj : (nI j).toInt = j := Int32.toInt_ofNat_of_lt (by omega)
        have jn : (nI j).toNatClampNeg = j := by
          have e : (nI j).toNatClampNeg = (nI j).toInt.toNat := rfl
          omega
        rw [htt j (by omega)] at ej
        by_cases w : 0 < rl2 j
        · rw [if_pos w] at ej
          have w2 := hrg (nI j) (by rw [fa_le, z0, tj]; omega) (by rw [fa_lt, tj]; omega)
          rw [jn] at w2
          by_cases w3 : LFT v_plots t (nI j)
          · have w4 := hpt (nI j) (by rw [fa_le, z0, tj]; omega) (by rw [fa_lt, tj]; omega) w3
            rw [jn] at w4
            exact absurd ej w4.2.1
          · rw [w2.2 w3] at w
            exact absurd w (by decide)
        · rw [if_neg w] at ej
          exact ej
      · rw [htt _ (by omega), if_pos rpos]
        exact (hpt h hb.1 hb.2 hl).2.1
    omega
  · rw [fa_lt, ci, z0]
    omega
theorem tr_2 {N : Nat} {v_houses : Int32} {v_plots v_likes : Nat → Int32} (hN : 49999 < N) (hh : RB 0 6 v_houses) (hp : RA (-1) 11 v_plots) (rm : Int32) (t pts rl : Nat → Int32) (hr : RA 0 5 pts) : Ok (fun r => RA 0 5 r.2.2.1) (lfix (fun (K : Int32 × Int32 × (Nat → Int32) × (Nat → Int32) × (Nat → Int32) → Option (Int32 × (Nat → Int32) × (Nat → Int32) × (Nat → Int32))) (a : Int32 × Int32 × (Nat → Int32) × (Nat → Int32) × (Nat → Int32)) => fX9_trade_2 N v_houses v_plots v_likes (fun (l1 : Int32) (v_ringsMany : Int32) (v_traded : (Nat → Int32)) (v_points : (Nat → Int32)) (v_ringLong : (Nat → Int32)) => K (l1, v_ringsMany, v_traded, v_points, v_ringLong)) a.1 a.2.1 a.2.2.1 a.2.2.2.1 a.2.2.2.2) N (0, rm, t, pts, rl)) := by
  refine ok_l (I := fun (a : Int32 × Int32 × (Nat → Int32) × (Nat → Int32) × (Nat → Int32)) => 0 ≤ a.1 ∧ RA 0 5 a.2.2.2.1) (M := fun (a : Int32 × Int32 × (Nat → Int32) × (Nat → Int32) × (Nat → Int32)) => 6 - a.1) (fun K a hI hK => ?_) N _ ⟨(show (0 : Int32) ≤ 0 from by decide), hr⟩ hN (by show (6 : Int32) - 0 ≤ 49999; decide)
  obtain ⟨l, rm, t, p, r⟩ := a
  obtain ⟨h0, hr⟩ := hI
  have h0 : 0 ≤ l := h0
  have hr : RA 0 5 p := hr
  show Ok _ (fX9_trade_2 N v_houses v_plots v_likes _ l rm t p r)
  unfold fX9_trade_2
  refine ok_if (fun c => tr_26 hN hh hp _ _ _ _ hr) (fun c => ?_)
  exact ok_g (ng6 (by clear hK; grind)) (hK (l + 1, rm, _, p, r) ⟨by show 0 ≤ l + 1; clear hK; grind, hr⟩ (by show (6 : Int32) - (l + 1) < 6 - l; clear hK; grind) (by show 0 < (6 : Int32) - l; clear hK; grind))
theorem tX9_trade {N : Nat} {v_houses : Int32} {v_plots v_likes : Nat → Int32} {v_ringsMany : Int32} {v_traded v_points v_ringLong : Nat → Int32} (hN : 49999 < N) (h_v_houses : RB 0 6 v_houses) (h_v_plots : RA (-1) 11 v_plots) (h_v_points : RA 0 5 v_points) : Ok (fun r => RA 0 5 r.2.2.1) (fX9_trade N v_houses v_plots v_likes v_ringsMany v_traded v_points v_ringLong) := by
  unfold fX9_trade
  exact tr_2 hN h_v_houses h_v_plots _ _ _ _ h_v_points
theorem sX9_layWays_28 {N : Nat} {v_houses : Int32} {v_front : Int32} {v_down : Int32} {v_plots : (Nat → Int32)} {v_row : (Nat → Int32)} {a1 : Int32} {K_9 : Int32 → Int32 → Int32 → Int32 → (Nat → Int32) → (Nat → Int32) → (Nat → Int32) → (Nat → Int32) → Option (Int32 × Int32 × (Nat → Int32) × (Nat → Int32) × (Nat → Int32) × (Nat → Int32))} {K_28 : Int32 → Int32 → Int32 → Int32 → Int32 → (Nat → Int32) → (Nat → Int32) → (Nat → Int32) → (Nat → Int32) → Option (Int32 × Int32 × (Nat → Int32) × (Nat → Int32) × (Nat → Int32) × (Nat → Int32))} {l2 : Int32} {l3 : Int32} {l4 : Int32} {v_frontThen : Int32} {v_downThen : Int32} {v_kinds : (Nat → Int32)} {v_plotsThen : (Nat → Int32)} {v_rowThen : (Nat → Int32)} {v_ways : (Nat → Int32)} {g_v_kinds : (Nat → Int32)} {m_9 : Int32} {m_28 : Int32} (hN : 49999 < N) (h_v_houses : RB 1 6 v_houses) (h_v_front : RB 0 11 v_front) (h_v_plots : RA (-1) 11 v_plots) (h_v_row : RA 0 5 v_row) (h_a1 : RB 0 5 a1) (hK_9 : ∀ (l2 : Int32) (l3 : Int32) (v_frontThen : Int32) (v_downThen : Int32) (v_kinds : (Nat → Int32)) (v_plotsThen : (Nat → Int32)) (v_rowThen : (Nat → Int32)) (v_ways : (Nat → Int32)), RB 0 11 v_frontThen ∧ RA (-1) 11 v_plotsThen ∧ RA 0 5 v_rowThen ∧ 0 ≤ l3 ∧ (upd v_kinds a1.toNatClampNeg l2 = g_v_kinds) → ((5 : Int32) - l3) < m_9 → 0 < m_9 → Ok (fun r => RB 0 11 r.1 ∧ RA (-1) 11 r.2.2.2.1 ∧ RA 0 5 r.2.2.2.2.1 ∧ (r.2.2.1 = g_v_kinds)) (K_9 l2 l3 v_frontThen v_downThen v_kinds v_plotsThen v_rowThen v_ways)) (hK_28 : ∀ (l2 : Int32) (l3 : Int32) (l4 : Int32) (v_frontThen : Int32) (v_downThen : Int32) (v_kinds : (Nat → Int32)) (v_plotsThen : (Nat → Int32)) (v_rowThen : (Nat → Int32)) (v_ways : (Nat → Int32)), RB 0 11 v_frontThen ∧ RA (-1) 11 v_plotsThen ∧ RA 0 5 v_rowThen ∧ 0 ≤ l4 ∧ (0 ≤ l3 ∧ l3 < 5) ∧ (upd v_kinds a1.toNatClampNeg l2 = g_v_kinds) → ((5 : Int32) - l3) ≤ m_9 → ((40 : Int32) - l4) < m_28 → 0 < m_28 → Ok (fun r => RB 0 11 r.1 ∧ RA (-1) 11 r.2.2.2.1 ∧ RA 0 5 r.2.2.2.2.1 ∧ (r.2.2.1 = g_v_kinds)) (K_28 l2 l3 l4 v_frontThen v_downThen v_kinds v_plotsThen v_rowThen v_ways)) (hI : RB 0 11 v_frontThen ∧ RA (-1) 11 v_plotsThen ∧ RA 0 5 v_rowThen ∧ 0 ≤ l4 ∧ (0 ≤ l3 ∧ l3 < 5) ∧ (upd v_kinds a1.toNatClampNeg l2 = g_v_kinds)) (hm_9 : ((5 : Int32) - l3) ≤ m_9) (hm_28 : ((40 : Int32) - l4) = m_28) : Ok (fun r => RB 0 11 r.1 ∧ RA (-1) 11 r.2.2.2.1 ∧ RA 0 5 r.2.2.2.2.1 ∧ (r.2.2.1 = g_v_kinds)) (fX9_layWays_28 N v_houses v_front v_down v_plots v_row a1 K_9 K_28 l2 l3 l4 v_frontThen v_downThen v_kinds v_plotsThen v_rowThen v_ways) := by
  obtain ⟨h_v_frontThen, h_v_plotsThen, h_v_rowThen, h_l4, e_0, e_1⟩ := hI
  unfold fX9_layWays_28
  refine ok_if (fun c_1 => ?_) (fun c_1 => ?_)
  · exact hK_9 _ _ _ _ _ _ _ _ ⟨h_v_frontThen, h_v_plotsThen, h_v_rowThen, (by clear hm_28 hm_9 hK_28 hK_9; grind), e_1⟩ (by clear hm_28 hK_28 hK_9; grind) (by clear hm_28 hK_28 hK_9; grind)
  · refine ok_b (tX9_goOn hN h_v_houses h_v_frontThen h_v_rowThen h_v_plotsThen) (fun x_36 hx => ?_)
    obtain ⟨h_x_36_0, h_x_36_1, h_x_36_2, h_x_36_3, h_x_36_4⟩ := hx
    refine ok_g (ng6 (by clear hm_28 hm_9 hK_28 hK_9; grind)) ?_
    refine ok_g (ng200 (by clear hm_28 hm_9 hK_28 hK_9; grind)) ?_
    exact hK_28 _ _ _ _ _ _ _ _ _ ⟨h_x_36_0, h_x_36_2, h_x_36_1, (by clear hm_28 hm_9 hK_28 hK_9; grind), (by clear hm_28 hm_9 hK_28 hK_9; grind), e_1⟩ (by clear hm_28 hK_28 hK_9; grind) (by clear hm_9 hK_28 hK_9; grind) (by clear hm_9 hK_28 hK_9; grind)
theorem lX9_layWays_28 {N : Nat} {v_houses : Int32} {v_front : Int32} {v_down : Int32} {v_plots : (Nat → Int32)} {v_row : (Nat → Int32)} {a1 : Int32} {K_9 : Int32 → Int32 → Int32 → Int32 → (Nat → Int32) → (Nat → Int32) → (Nat → Int32) → (Nat → Int32) → Option (Int32 × Int32 × (Nat → Int32) × (Nat → Int32) × (Nat → Int32) × (Nat → Int32))} {g_v_kinds : (Nat → Int32)} {m_9 : Int32} (hN : 49999 < N) (h_v_houses : RB 1 6 v_houses) (h_v_front : RB 0 11 v_front) (h_v_plots : RA (-1) 11 v_plots) (h_v_row : RA 0 5 v_row) (h_a1 : RB 0 5 a1) (hK_9 : ∀ (l2 : Int32) (l3 : Int32) (v_frontThen : Int32) (v_downThen : Int32) (v_kinds : (Nat → Int32)) (v_plotsThen : (Nat → Int32)) (v_rowThen : (Nat → Int32)) (v_ways : (Nat → Int32)), RB 0 11 v_frontThen ∧ RA (-1) 11 v_plotsThen ∧ RA 0 5 v_rowThen ∧ 0 ≤ l3 ∧ (upd v_kinds a1.toNatClampNeg l2 = g_v_kinds) → ((5 : Int32) - l3) < m_9 → 0 < m_9 → Ok (fun r => RB 0 11 r.1 ∧ RA (-1) 11 r.2.2.2.1 ∧ RA 0 5 r.2.2.2.2.1 ∧ (r.2.2.1 = g_v_kinds)) (K_9 l2 l3 v_frontThen v_downThen v_kinds v_plotsThen v_rowThen v_ways)) : ∀ (l2 : Int32) (l3 : Int32) (l4 : Int32) (v_frontThen : Int32) (v_downThen : Int32) (v_kinds : (Nat → Int32)) (v_plotsThen : (Nat → Int32)) (v_rowThen : (Nat → Int32)) (v_ways : (Nat → Int32)), RB 0 11 v_frontThen ∧ RA (-1) 11 v_plotsThen ∧ RA 0 5 v_rowThen ∧ 0 ≤ l4 ∧ (0 ≤ l3 ∧ l3 < 5) ∧ (upd v_kinds a1.toNatClampNeg l2 = g_v_kinds) → ((5 : Int32) - l3) ≤ m_9 → ((40 : Int32) - l4) ≤ 49999 → Ok (fun r => RB 0 11 r.1 ∧ RA (-1) 11 r.2.2.2.1 ∧ RA 0 5 r.2.2.2.2.1 ∧ (r.2.2.1 = g_v_kinds)) (lfix (fun (K : Int32 × Int32 × Int32 × Int32 × Int32 × (Nat → Int32) × (Nat → Int32) × (Nat → Int32) × (Nat → Int32) → Option (Int32 × Int32 × (Nat → Int32) × (Nat → Int32) × (Nat → Int32) × (Nat → Int32))) (a : Int32 × Int32 × Int32 × Int32 × Int32 × (Nat → Int32) × (Nat → Int32) × (Nat → Int32) × (Nat → Int32)) => fX9_layWays_28 N v_houses v_front v_down v_plots v_row a1 K_9 (fun (l2 : Int32) (l3 : Int32) (l4 : Int32) (v_frontThen : Int32) (v_downThen : Int32) (v_kinds : (Nat → Int32)) (v_plotsThen : (Nat → Int32)) (v_rowThen : (Nat → Int32)) (v_ways : (Nat → Int32)) => K (l2, l3, l4, v_frontThen, v_downThen, v_kinds, v_plotsThen, v_rowThen, v_ways)) a.1 a.2.1 a.2.2.1 a.2.2.2.1 a.2.2.2.2.1 a.2.2.2.2.2.1 a.2.2.2.2.2.2.1 a.2.2.2.2.2.2.2.1 a.2.2.2.2.2.2.2.2) N (l2, l3, l4, v_frontThen, v_downThen, v_kinds, v_plotsThen, v_rowThen, v_ways)) := by
  intro l2 l3 l4 v_frontThen v_downThen v_kinds v_plotsThen v_rowThen v_ways hI hm_9 hM
  exact ok_l (I := fun (a : Int32 × Int32 × Int32 × Int32 × Int32 × (Nat → Int32) × (Nat → Int32) × (Nat → Int32) × (Nat → Int32)) => (RB 0 11 a.2.2.2.1 ∧ RA (-1) 11 a.2.2.2.2.2.2.1 ∧ RA 0 5 a.2.2.2.2.2.2.2.1 ∧ 0 ≤ a.2.2.1 ∧ (0 ≤ a.2.1 ∧ a.2.1 < 5) ∧ (upd a.2.2.2.2.2.1 a1.toNatClampNeg a.1 = g_v_kinds)) ∧ ((5 : Int32) - a.2.1) ≤ m_9) (M := fun (a : Int32 × Int32 × Int32 × Int32 × Int32 × (Nat → Int32) × (Nat → Int32) × (Nat → Int32) × (Nat → Int32)) => ((40 : Int32) - a.2.2.1)) (fun K a hI hK => sX9_layWays_28 (g_v_kinds := g_v_kinds) hN h_v_houses h_v_front h_v_plots h_v_row h_a1 hK_9 (fun l2 l3 l4 v_frontThen v_downThen v_kinds v_plotsThen v_rowThen v_ways hI2 q_9 hlt hp => hK (l2, l3, l4, v_frontThen, v_downThen, v_kinds, v_plotsThen, v_rowThen, v_ways) ⟨hI2, q_9⟩ hlt hp) hI.1 hI.2 rfl) N _ ⟨hI, hm_9⟩ hN hM
