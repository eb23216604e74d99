theorem sX7_nearestOwner_10 {N : Nat} {w1_standsOn : (Nat → Int32)} {v_isLeft : (Nat → Int32)} {a2 : Int32} {a3 : Int32} {K_10 : Int32 → Int32 → Int32 → Option (Int32)} {l4 : Int32} {l5 : Int32} {l6 : Int32}  {m_10 : Int32} (hN : 49999 < N) (h_w1_standsOn : RA (-1) 5 w1_standsOn) (h_a3 : RB 0 5 a3) (hK_10 : ∀ (l4 : Int32) (l5 : Int32) (l6 : Int32), RB 0 5 l4 ∧ 0 ≤ l6 → ((12 : Int32) - l6) < m_10 → 0 < m_10 → Ok (fun r => RB 0 5 r) (K_10 l4 l5 l6)) (hI : RB 0 5 l4 ∧ 0 ≤ l6) (hm_10 : ((12 : Int32) - l6) = m_10) : Ok (fun r => RB 0 5 r) (fX7_nearestOwner_10 N w1_standsOn v_isLeft a2 a3 K_10 l4 l5 l6) := by
  obtain ⟨h_l4, h_l6⟩ := hI
  unfold fX7_nearestOwner_10
  refine ok_if (fun c_1 => ?_) (fun c_1 => ?_)
  · exact ok_s h_l4
  · refine ok_g (ng12 (by clear hm_10 hK_10; grind)) ?_
    refine ok_if (fun c_2 => ?_) (fun c_2 => ?_)
    · exact hK_10 _ _ _ ⟨h_l4, (by clear hm_10 hK_10; grind)⟩ (by clear hK_10; grind) (by clear hK_10; grind)
    · refine ok_g (ng6 (by clear hm_10 hK_10; have := h_w1_standsOn ((l6).toNatClampNeg); grind)) ?_
      refine ok_if (fun c_3 => ?_) (fun c_3 => ?_)
      · exact hK_10 _ _ _ ⟨h_l4, (by clear hm_10 hK_10; grind)⟩ (by clear hK_10; grind) (by clear hK_10; grind)
      · refine ok_b (tX8_wayRound hN ) (fun x_45 hx => ?_)
        have h_x_45_0 := hx
        refine ok_if (fun c_4 => ?_) (fun c_4 => ?_)
        · exact hK_10 _ _ _ ⟨h_l4, (by clear hm_10 hK_10; grind)⟩ (by clear hK_10; grind) (by clear hK_10; grind)
        · refine ok_b (tX8_wayRound hN ) (fun x_56 hx => ?_)
          have h_x_56_0 := hx
          exact hK_10 _ _ _ ⟨(by clear hm_10 hK_10; have := h_w1_standsOn ((l6).toNatClampNeg); grind), (by clear hm_10 hK_10; grind)⟩ (by clear hK_10; grind) (by clear hK_10; grind)
theorem lX7_nearestOwner_10 {N : Nat} {w1_standsOn : (Nat → Int32)} {v_isLeft : (Nat → Int32)} {a2 : Int32} {a3 : Int32}  (hN : 49999 < N) (h_w1_standsOn : RA (-1) 5 w1_standsOn) (h_a3 : RB 0 5 a3)  : ∀ (l4 : Int32) (l5 : Int32) (l6 : Int32), RB 0 5 l4 ∧ 0 ≤ l6 → ((12 : Int32) - l6) ≤ 49999 → Ok (fun r => RB 0 5 r) (lfix (fun (K : Int32 × Int32 × Int32 → Option (Int32)) (a : Int32 × Int32 × Int32) => fX7_nearestOwner_10 N w1_standsOn v_isLeft a2 a3 (fun (l4 : Int32) (l5 : Int32) (l6 : Int32) => K (l4, l5, l6)) a.1 a.2.1 a.2.2) N (l4, l5, l6)) := by
  intro l4 l5 l6 hI hM
  exact ok_l (I := fun (a : Int32 × Int32 × Int32) => (RB 0 5 a.1 ∧ 0 ≤ a.2.2)) (M := fun (a : Int32 × Int32 × Int32) => ((12 : Int32) - a.2.2)) (fun K a hI hK => sX7_nearestOwner_10  hN h_w1_standsOn h_a3  (fun l4 l5 l6 hI2  hlt hp => hK (l4, l5, l6) hI2 hlt hp) hI  rfl) N _ hI hN hM
theorem tX7_nearestOwner {N : Nat} {w1_standsOn : (Nat → Int32)} {v_isLeft : (Nat → Int32)} {a2 : Int32} {a3 : Int32}  (hN : 49999 < N) (h_w1_standsOn : RA (-1) 5 w1_standsOn) (h_a3 : RB 0 5 a3)  : Ok (fun r => RB 0 5 r) (fX7_nearestOwner N w1_standsOn v_isLeft a2 a3) := by
  unfold fX7_nearestOwner
  exact lX7_nearestOwner_10  hN h_w1_standsOn h_a3  _ _ _ ⟨h_a3, (by grind)⟩  (by grind)
theorem sX7_pointAll_2 {N : Nat} {w1_houses : Int32} {v_isLeft : (Nat → Int32)} {w2_liked : (Nat → Int32)} {w1_standsOn : (Nat → Int32)} {K_2 : Int32 → (Nat → Int32) → Option ((Nat → Int32))} {l3 : Int32} {v_pointsTo : (Nat → Int32)}  {m_2 : Int32} (hN : 49999 < N) (h_w1_houses : RB 0 6 w1_houses) (h_w1_standsOn : RA (-1) 5 w1_standsOn) (hK_2 : ∀ (l3 : Int32) (v_pointsTo : (Nat → Int32)), RA 0 5 v_pointsTo ∧ 0 ≤ l3 → (w1_houses - l3) < m_2 → 0 < m_2 → Ok (fun r => RA 0 5 r) (K_2 l3 v_pointsTo)) (hI : RA 0 5 v_pointsTo ∧ 0 ≤ l3) (hm_2 : (w1_houses - l3) = m_2) : Ok (fun r => RA 0 5 r) (fX7_pointAll_2 N w1_houses v_isLeft w2_liked w1_standsOn K_2 l3 v_pointsTo) := by
  obtain ⟨h_v_pointsTo, h_l3⟩ := hI
  unfold fX7_pointAll_2
  refine ok_if (fun c_1 => ?_) (fun c_1 => ?_)
  · exact ok_s h_v_pointsTo
  · refine ok_g (ng6 (by clear hm_2 hK_2; grind)) ?_
    refine ok_if (fun c_2 => ?_) (fun c_2 => ?_)
    · exact hK_2 _ _ ⟨h_v_pointsTo, (by clear hm_2 hK_2; grind)⟩ (by clear hK_2; grind) (by clear hK_2; grind)
    · refine ok_g (ng6 (by clear hm_2 hK_2; grind)) ?_
      refine ok_b (tX7_nearestOwner hN h_w1_standsOn (by clear hm_2 hK_2; grind)) (fun x_33 hx => ?_)
      have h_x_33_0 := hx
      refine ok_g (ng6 (by clear hm_2 hK_2; grind)) ?_
      exact hK_2 _ _ ⟨(RA.upd h_v_pointsTo (by clear hm_2 hK_2; grind)), (by clear hm_2 hK_2; grind)⟩ (by clear hK_2; grind) (by clear hK_2; grind)
theorem lX7_pointAll_2 {N : Nat} {w1_houses : Int32} {v_isLeft : (Nat → Int32)} {w2_liked : (Nat → Int32)} {w1_standsOn : (Nat → Int32)}  (hN : 49999 < N) (h_w1_houses : RB 0 6 w1_houses) (h_w1_standsOn : RA (-1) 5 w1_standsOn)  : ∀ (l3 : Int32) (v_pointsTo : (Nat → Int32)), RA 0 5 v_pointsTo ∧ 0 ≤ l3 → (w1_houses - l3) ≤ 49999 → Ok (fun r => RA 0 5 r) (lfix (fun (K : Int32 × (Nat → Int32) → Option ((Nat → Int32))) (a : Int32 × (Nat → Int32)) => fX7_pointAll_2 N w1_houses v_isLeft w2_liked w1_standsOn (fun (l3 : Int32) (v_pointsTo : (Nat → Int32)) => K (l3, v_pointsTo)) a.1 a.2) N (l3, v_pointsTo)) := by
  intro l3 v_pointsTo hI hM
  exact ok_l (I := fun (a : Int32 × (Nat → Int32)) => (RA 0 5 a.2 ∧ 0 ≤ a.1)) (M := fun (a : Int32 × (Nat → Int32)) => (w1_houses - a.1)) (fun K a hI hK => sX7_pointAll_2  hN h_w1_houses h_w1_standsOn  (fun l3 v_pointsTo hI2  hlt hp => hK (l3, v_pointsTo) hI2 hlt hp) hI  rfl) N _ hI hN hM
theorem tX7_pointAll {N : Nat} {w1_houses : Int32} {v_isLeft : (Nat → Int32)} {w2_liked : (Nat → Int32)} {w1_standsOn : (Nat → Int32)} {v_pointsTo : (Nat → Int32)}  (hN : 49999 < N) (h_w1_houses : RB 0 6 w1_houses) (h_w1_standsOn : RA (-1) 5 w1_standsOn) (h_v_pointsTo : RA 0 5 v_pointsTo)  : Ok (fun r => RA 0 5 r) (fX7_pointAll N w1_houses v_isLeft w2_liked w1_standsOn v_pointsTo) := by
  unfold fX7_pointAll
  exact lX7_pointAll_2  hN h_w1_houses h_w1_standsOn  _ _ ⟨h_v_pointsTo, (by grind)⟩  (by grind)
theorem sX7_onRing_5 {N : Nat} {v_pointsTo : (Nat → Int32)} {a1 : Int32} {a2 : Int32} {K_5 : Int32 → Int32 → Option (Int32)} {l3 : Int32} {l4 : Int32}  {m_5 : Int32} (hN : 49999 < N) (h_v_pointsTo : RA 0 5 v_pointsTo) (h_a1 : RB 0 5 a1) (h_a2 : RB 0 6 a2) (hK_5 : ∀ (l3 : Int32) (l4 : Int32), RB 0 5 l3 ∧ 0 ≤ l4 → (a2 - l4) < m_5 → 0 < m_5 → Ok (fun r => RB 0 5 r) (K_5 l3 l4)) (hI : RB 0 5 l3 ∧ 0 ≤ l4) (hm_5 : (a2 - l4) = m_5) : Ok (fun r => RB 0 5 r) (fX7_onRing_5 N v_pointsTo a1 a2 K_5 l3 l4) := by
  obtain ⟨h_l3, h_l4⟩ := hI
  unfold fX7_onRing_5
  refine ok_if (fun c_1 => ?_) (fun c_1 => ?_)
  · exact ok_s h_l3
  · refine ok_g (ng6 (by clear hm_5 hK_5; grind)) ?_
    exact hK_5 _ _ ⟨(by clear hm_5 hK_5; have := h_v_pointsTo ((l3).toNatClampNeg); grind), (by clear hm_5 hK_5; grind)⟩ (by clear hK_5; grind) (by clear hK_5; grind)
theorem lX7_onRing_5 {N : Nat} {v_pointsTo : (Nat → Int32)} {a1 : Int32} {a2 : Int32}  (hN : 49999 < N) (h_v_pointsTo : RA 0 5 v_pointsTo) (h_a1 : RB 0 5 a1) (h_a2 : RB 0 6 a2)  : ∀ (l3 : Int32) (l4 : Int32), RB 0 5 l3 ∧ 0 ≤ l4 → (a2 - l4) ≤ 49999 → Ok (fun r => RB 0 5 r) (lfix (fun (K : Int32 × Int32 → Option (Int32)) (a : Int32 × Int32) => fX7_onRing_5 N v_pointsTo a1 a2 (fun (l3 : Int32) (l4 : Int32) => K (l3, l4)) a.1 a.2) N (l3, l4)) := by
  intro l3 l4 hI hM
  exact ok_l (I := fun (a : Int32 × Int32) => (RB 0 5 a.1 ∧ 0 ≤ a.2)) (M := fun (a : Int32 × Int32) => (a2 - a.2)) (fun K a hI hK => sX7_onRing_5  hN h_v_pointsTo h_a1 h_a2  (fun l3 l4 hI2  hlt hp => hK (l3, l4) hI2 hlt hp) hI  rfl) N _ hI hN hM
theorem tX7_onRing {N : Nat} {v_pointsTo : (Nat → Int32)} {a1 : Int32} {a2 : Int32}  (hN : 49999 < N) (h_v_pointsTo : RA 0 5 v_pointsTo) (h_a1 : RB 0 5 a1) (h_a2 : RB 0 6 a2)  : Ok (fun r => RB 0 5 r) (fX7_onRing N v_pointsTo a1 a2) := by
  unfold fX7_onRing
  exact lX7_onRing_5  hN h_v_pointsTo h_a1 h_a2  _ _ ⟨h_a1, (by grind)⟩  (by grind)
theorem sX7_closeRing_5 {N : Nat} {v_pointsTo : (Nat → Int32)} {w2_plotOf : (Nat → Int32)} {a1 : Int32} {K_5 : Int32 → Int32 → Int32 → (Nat → Int32) → (Nat → Int32) → Option (Int32 × (Nat → Int32) × (Nat → Int32))} {l3 : Int32} {l4 : Int32} {v_rings : Int32} {v_gets : (Nat → Int32)} {v_isLeft : (Nat → Int32)}  {m_5 : Int32} (hN : 49999 < N) (h_v_pointsTo : RA 0 5 v_pointsTo) (h_w2_plotOf : RA (-1) 11 w2_plotOf) (h_a1 : RB 0 5 a1) (hK_5 : ∀ (l3 : Int32) (l4 : Int32) (v_rings : Int32) (v_gets : (Nat → Int32)) (v_isLeft : (Nat → Int32)), RB 0 5 l4 ∧ (0 ≤ l3 ∧ l3 < 6) → (6 - l3) < m_5 → 0 < m_5 → Ok (fun r => True) (K_5 l3 l4 v_rings v_gets v_isLeft)) (hI : RB 0 5 l4 ∧ (0 ≤ l3 ∧ l3 < 6)) (hm_5 : (6 - l3) = m_5) : Ok (fun r => True) (fX7_closeRing_5 N v_pointsTo w2_plotOf a1 K_5 l3 l4 v_rings v_gets v_isLeft) := by
  obtain ⟨h_l4, e_0⟩ := hI
  unfold fX7_closeRing_5
  refine ok_g (ng6 (by clear hm_5 hK_5; grind)) ?_
  refine ok_g (ng6 (by clear hm_5 hK_5; have := h_v_pointsTo ((l4).toNatClampNeg); grind)) ?_
  refine ok_g (ng6 (by clear hm_5 hK_5; grind)) ?_
  refine ok_g (ng6 (by clear hm_5 hK_5; grind)) ?_
  refine ok_if (fun c_1 => ?_) (fun c_1 => ?_)
  · refine ok_if (fun c_2 => ?_) (fun c_2 => ?_)
    · exact ok_s trivial
    · exact ok_s trivial
  · refine ok_if (fun c_3 => ?_) (fun c_3 => ?_)
    · exact hK_5 _ _ _ _ _ ⟨(by clear hm_5 hK_5; have := h_v_pointsTo ((l4).toNatClampNeg); grind), (by clear hm_5 hK_5; grind)⟩ (by clear hK_5; grind) (by clear hK_5; grind)
    · refine ok_if (fun c_4 => ?_) (fun c_4 => ?_)
      · exact ok_s trivial
      · exact ok_s trivial
theorem lX7_closeRing_5 {N : Nat} {v_pointsTo : (Nat → Int32)} {w2_plotOf : (Nat → Int32)} {a1 : Int32}  (hN : 49999 < N) (h_v_pointsTo : RA 0 5 v_pointsTo) (h_w2_plotOf : RA (-1) 11 w2_plotOf) (h_a1 : RB 0 5 a1)  : ∀ (l3 : Int32) (l4 : Int32) (v_rings : Int32) (v_gets : (Nat → Int32)) (v_isLeft : (Nat → Int32)), RB 0 5 l4 ∧ (0 ≤ l3 ∧ l3 < 6) → (6 - l3) ≤ 49999 → Ok (fun r => True) (lfix (fun (K : Int32 × Int32 × Int32 × (Nat → Int32) × (Nat → Int32) → Option (Int32 × (Nat → Int32) × (Nat → Int32))) (a : Int32 × Int32 × Int32 × (Nat → Int32) × (Nat → Int32)) => fX7_closeRing_5 N v_pointsTo w2_plotOf a1 (fun (l3 : Int32) (l4 : Int32) (v_rings : Int32) (v_gets : (Nat → Int32)) (v_isLeft : (Nat → Int32)) => K (l3, l4, v_rings, v_gets, v_isLeft)) a.1 a.2.1 a.2.2.1 a.2.2.2.1 a.2.2.2.2) N (l3, l4, v_rings, v_gets, v_isLeft)) := by
  intro l3 l4 v_rings v_gets v_isLeft hI hM
  exact ok_l (I := fun (a : Int32 × Int32 × Int32 × (Nat → Int32) × (Nat → Int32)) => (RB 0 5 a.2.1 ∧ (0 ≤ a.1 ∧ a.1 < 6))) (M := fun (a : Int32 × Int32 × Int32 × (Nat → Int32) × (Nat → Int32)) => (6 - a.1)) (fun K a hI hK => sX7_closeRing_5  hN h_v_pointsTo h_w2_plotOf h_a1  (fun l3 l4 v_rings v_gets v_isLeft hI2  hlt hp => hK (l3, l4, v_rings, v_gets, v_isLeft) hI2 hlt hp) hI  rfl) N _ hI hN hM
theorem tX7_closeRing {N : Nat} {v_pointsTo : (Nat → Int32)} {w2_plotOf : (Nat → Int32)} {a1 : Int32} {v_rings : Int32} {v_gets : (Nat → Int32)} {v_isLeft : (Nat → Int32)}  (hN : 49999 < N) (h_v_pointsTo : RA 0 5 v_pointsTo) (h_w2_plotOf : RA (-1) 11 w2_plotOf) (h_a1 : RB 0 5 a1)  : Ok (fun r => True) (fX7_closeRing N v_pointsTo w2_plotOf a1 v_rings v_gets v_isLeft) := by
  unfold fX7_closeRing
  exact lX7_closeRing_5  hN h_v_pointsTo h_w2_plotOf h_a1  _ _ _ _ _ ⟨h_a1, (by grind)⟩  (by grind)
theorem sX7_close_49 {N : Nat} {w1_houses : Int32} {w1_plotOf : (Nat → Int32)} {w2_liked : (Nat → Int32)} {w1_standsOn : (Nat → Int32)} {K_49 : Int32 → Int32 → (Nat → Int32) → (Nat → Int32) → (Nat → Int32) → Option (Int32 × (Nat → Int32) × (Nat → Int32) × (Nat → Int32))} {l3 : Int32} {v_rings : Int32} {v_gets : (Nat → Int32)} {v_isLeft : (Nat → Int32)} {v_pointsTo : (Nat → Int32)}  {m_49 : Int32} (hN : 49999 < N) (h_w1_houses : RB 0 6 w1_houses) (h_w1_plotOf : RA (-1) 11 w1_plotOf) (h_w1_standsOn : RA (-1) 5 w1_standsOn) (hK_49 : ∀ (l3 : Int32) (v_rings : Int32) (v_gets : (Nat → Int32)) (v_isLeft : (Nat → Int32)) (v_pointsTo : (Nat → Int32)), RA 0 5 v_pointsTo ∧ 0 ≤ l3 → (w1_houses - l3) < m_49 → 0 < m_49 → Ok (fun r => RA 0 5 r.2.2.2) (K_49 l3 v_rings v_gets v_isLeft v_pointsTo)) (hI : RA 0 5 v_pointsTo ∧ 0 ≤ l3) (hm_49 : (w1_houses - l3) = m_49) : Ok (fun r => RA 0 5 r.2.2.2) (fX7_close_49 N w1_houses w1_plotOf w2_liked w1_standsOn K_49 l3 v_rings v_gets v_isLeft v_pointsTo) := by
  obtain ⟨h_v_pointsTo, h_l3⟩ := hI
  unfold fX7_close_49
  refine ok_if (fun c_1 => ?_) (fun c_1 => ?_)
  · exact ok_s h_v_pointsTo
  · refine ok_b (tX7_firstLeft hN h_w1_houses) (fun x_62 hx => ?_)
    have h_x_62_0 := hx
    refine ok_if (fun c_2 => ?_) (fun c_2 => ?_)
    · exact ok_s h_v_pointsTo
    · refine ok_b (tX7_pointAll hN h_w1_houses h_w1_standsOn h_v_pointsTo) (fun x_77 hx => ?_)
      have h_x_77_0 := hx
      refine ok_b (tX7_onRing hN h_x_77_0 (by clear hm_49 hK_49; grind) h_w1_houses) (fun x_88 hx => ?_)
      have h_x_88_0 := hx
      refine ok_b (tX7_closeRing hN h_x_77_0 h_w1_plotOf h_x_88_0) (fun x_92 hx => ?_)
      exact hK_49 _ _ _ _ _ ⟨h_x_77_0, (by clear hm_49 hK_49; grind)⟩ (by clear hK_49; grind) (by clear hK_49; grind)
theorem lX7_close_49 {N : Nat} {w1_houses : Int32} {w1_plotOf : (Nat → Int32)} {w2_liked : (Nat → Int32)} {w1_standsOn : (Nat → Int32)}  (hN : 49999 < N) (h_w1_houses : RB 0 6 w1_houses) (h_w1_plotOf : RA (-1) 11 w1_plotOf) (h_w1_standsOn : RA (-1) 5 w1_standsOn)  : ∀ (l3 : Int32) (v_rings : Int32) (v_gets : (Nat → Int32)) (v_isLeft : (Nat → Int32)) (v_pointsTo : (Nat → Int32)), RA 0 5 v_pointsTo ∧ 0 ≤ l3 → (w1_houses - l3) ≤ 49999 → Ok (fun r => RA 0 5 r.2.2.2) (lfix (fun (K : Int32 × Int32 × (Nat → Int32) × (Nat → Int32) × (Nat → Int32) → Option (Int32 × (Nat → Int32) × (Nat → Int32) × (Nat → Int32))) (a : Int32 × Int32 × (Nat → Int32) × (Nat → Int32) × (Nat → Int32)) => fX7_close_49 N w1_houses w1_plotOf w2_liked w1_standsOn (fun (l3 : Int32) (v_rings : Int32) (v_gets : (Nat → Int32)) (v_isLeft : (Nat → Int32)) (v_pointsTo : (Nat → Int32)) => K (l3, v_rings, v_gets, v_isLeft, v_pointsTo)) a.1 a.2.1 a.2.2.1 a.2.2.2.1 a.2.2.2.2) N (l3, v_rings, v_gets, v_isLeft, v_pointsTo)) := by
  intro l3 v_rings v_gets v_isLeft v_pointsTo hI hM
  exact ok_l (I := fun (a : Int32 × Int32 × (Nat → Int32) × (Nat → Int32) × (Nat → Int32)) => (RA 0 5 a.2.2.2.2 ∧ 0 ≤ a.1)) (M := fun (a : Int32 × Int32 × (Nat → Int32) × (Nat → Int32) × (Nat → Int32)) => (w1_houses - a.1)) (fun K a hI hK => sX7_close_49  hN h_w1_houses h_w1_plotOf h_w1_standsOn  (fun l3 v_rings v_gets v_isLeft v_pointsTo hI2  hlt hp => hK (l3, v_rings, v_gets, v_isLeft, v_pointsTo) hI2 hlt hp) hI  rfl) N _ hI hN hM
theorem sX7_close_7 {N : Nat} {w1_houses : Int32} {w1_plotOf : (Nat → Int32)} {w2_liked : (Nat → Int32)} {w1_standsOn : (Nat → Int32)} {K_7 : Int32 → Int32 → (Nat → Int32) → (Nat → Int32) → (Nat → Int32) → Option (Int32 × (Nat → Int32) × (Nat → Int32) × (Nat → Int32))} {l3 : Int32} {v_rings : Int32} {v_gets : (Nat → Int32)} {v_isLeft : (Nat → Int32)} {v_pointsTo : (Nat → Int32)}  {m_7 : Int32} (hN : 49999 < N) (h_w1_houses : RB 0 6 w1_houses) (h_w1_plotOf : RA (-1) 11 w1_plotOf) (h_w1_standsOn : RA (-1) 5 w1_standsOn) (hK_7 : ∀ (l3 : Int32) (v_rings : Int32) (v_gets : (Nat → Int32)) (v_isLeft : (Nat → Int32)) (v_pointsTo : (Nat → Int32)), RA 0 5 v_pointsTo ∧ 0 ≤ l3 → (w1_houses - l3) < m_7 → 0 < m_7 → Ok (fun r => RA 0 5 r.2.2.2) (K_7 l3 v_rings v_gets v_isLeft v_pointsTo)) (hI : RA 0 5 v_pointsTo ∧ 0 ≤ l3) (hm_7 : (w1_houses - l3) = m_7) : Ok (fun r => RA 0 5 r.2.2.2) (fX7_close_7 N w1_houses w1_plotOf w2_liked w1_standsOn K_7 l3 v_rings v_gets v_isLeft v_pointsTo) := by
  obtain ⟨h_v_pointsTo, h_l3⟩ := hI
  unfold fX7_close_7
  refine ok_if (fun c_1 => ?_) (fun c_1 => ?_)
  · exact lX7_close_49  hN h_w1_houses h_w1_plotOf h_w1_standsOn  _ _ _ _ _ ⟨h_v_pointsTo, (by clear hm_7 hK_7; grind)⟩  (by clear hm_7 hK_7; grind)
  · refine ok_g (ng6 (by clear hm_7 hK_7; grind)) ?_
    refine ok_b (tX6_isDown hN h_w1_plotOf (by clear hm_7 hK_7; grind)) (fun x_29 hx => ?_)
    have h_x_29_0 := hx
    refine ok_if (fun c_2 => ?_) (fun c_2 => ?_)
    · refine ok_g (ng6 (by clear hm_7 hK_7; grind)) ?_
      exact hK_7 _ _ _ _ _ ⟨h_v_pointsTo, (by clear hm_7 hK_7; grind)⟩ (by clear hK_7; grind) (by clear hK_7; grind)
    · refine ok_g (ng6 (by clear hm_7 hK_7; grind)) ?_
      exact hK_7 _ _ _ _ _ ⟨h_v_pointsTo, (by clear hm_7 hK_7; grind)⟩ (by clear hK_7; grind) (by clear hK_7; grind)
theorem lX7_close_7 {N : Nat} {w1_houses : Int32} {w1_plotOf : (Nat → Int32)} {w2_liked : (Nat → Int32)} {w1_standsOn : (Nat → Int32)}  (hN : 49999 < N) (h_w1_houses : RB 0 6 w1_houses) (h_w1_plotOf : RA (-1) 11 w1_plotOf) (h_w1_standsOn : RA (-1) 5 w1_standsOn)  : ∀ (l3 : Int32) (v_rings : Int32) (v_gets : (Nat → Int32)) (v_isLeft : (Nat → Int32)) (v_pointsTo : (Nat → Int32)), RA 0 5 v_pointsTo ∧ 0 ≤ l3 → (w1_houses - l3) ≤ 49999 → Ok (fun r => RA 0 5 r.2.2.2) (lfix (fun (K : Int32 × Int32 × (Nat → Int32) × (Nat → Int32) × (Nat → Int32) → Option (Int32 × (Nat → Int32) × (Nat → Int32) × (Nat → Int32))) (a : Int32 × Int32 × (Nat → Int32) × (Nat → Int32) × (Nat → Int32)) => fX7_close_7 N w1_houses w1_plotOf w2_liked w1_standsOn (fun (l3 : Int32) (v_rings : Int32) (v_gets : (Nat → Int32)) (v_isLeft : (Nat → Int32)) (v_pointsTo : (Nat → Int32)) => K (l3, v_rings, v_gets, v_isLeft, v_pointsTo)) a.1 a.2.1 a.2.2.1 a.2.2.2.1 a.2.2.2.2) N (l3, v_rings, v_gets, v_isLeft, v_pointsTo)) := by
  intro l3 v_rings v_gets v_isLeft v_pointsTo hI hM
  exact ok_l (I := fun (a : Int32 × Int32 × (Nat → Int32) × (Nat → Int32) × (Nat → Int32)) => (RA 0 5 a.2.2.2.2 ∧ 0 ≤ a.1)) (M := fun (a : Int32 × Int32 × (Nat → Int32) × (Nat → Int32) × (Nat → Int32)) => (w1_houses - a.1)) (fun K a hI hK => sX7_close_7  hN h_w1_houses h_w1_plotOf h_w1_standsOn  (fun l3 v_rings v_gets v_isLeft v_pointsTo hI2  hlt hp => hK (l3, v_rings, v_gets, v_isLeft, v_pointsTo) hI2 hlt hp) hI  rfl) N _ hI hN hM
theorem tX7_close {N : Nat} {w1_houses : Int32} {w1_plotOf : (Nat → Int32)} {w2_liked : (Nat → Int32)} {w1_standsOn : (Nat → Int32)} {v_rings : Int32} {v_gets : (Nat → Int32)} {v_isLeft : (Nat → Int32)} {v_pointsTo : (Nat → Int32)}  (hN : 49999 < N) (h_w1_houses : RB 0 6 w1_houses) (h_w1_plotOf : RA (-1) 11 w1_plotOf) (h_w1_standsOn : RA (-1) 5 w1_standsOn) (h_v_pointsTo : RA 0 5 v_pointsTo)  : Ok (fun r => RA 0 5 r.2.2.2) (fX7_close N w1_houses w1_plotOf w2_liked w1_standsOn v_rings v_gets v_isLeft v_pointsTo) := by
  unfold fX7_close
  exact lX7_close_7  hN h_w1_houses h_w1_plotOf h_w1_standsOn  _ _ _ _ _ ⟨h_v_pointsTo, (by grind)⟩  (by grind)
theorem tX8_letter {N : Nat} {a1 : Int32} {v_page_size : Int32} {v_page_letters : (Nat → Int32)}  (hN : 49999 < N) (h_v_page_size : RB 0 32 v_page_size) (h_v_page_letters : RA 0 126 v_page_letters)  : Ok (fun r => RB 0 32 r.2.1 ∧ RA 0 126 r.2.2 ∧ (¬(1 ≤ a1 ∧ a1 ≤ 126) ∧ r.1 = -102 ∧ r.2.1 = v_page_size ∧ r.2.2 = v_page_letters ∨ (1 ≤ a1 ∧ a1 ≤ 126) ∧ ¬ v_page_size < 32 ∧ r.1 = -104 ∧ r.2.1 = v_page_size ∧ r.2.2 = v_page_letters ∨ (1 ≤ a1 ∧ a1 ≤ 126) ∧ v_page_size < 32 ∧ r.1 = v_page_size + 1 ∧ r.2.1 = v_page_size + 1 ∧ r.2.2 = upd v_page_letters (v_page_size).toNatClampNeg a1)) (fX8_letter N a1 v_page_size v_page_letters) := by
  unfold fX8_letter
  refine ok_if (fun c_1 => ?_) (fun c_1 => ?_)
  · exact ok_s ⟨h_v_page_size, h_v_page_letters, (by grind)⟩
  · refine ok_if (fun c_2 => ?_) (fun c_2 => ?_)
    · refine ok_if (fun c_3 => ?_) (fun c_3 => ?_)
      · refine ok_b (tX3_write hN (by grind) h_v_page_size h_v_page_letters) (fun x_34 hx => ?_)
        obtain ⟨h_x_34_0, h_x_34_1, h_x_34_2⟩ := hx
        exact ok_s ⟨h_x_34_0, h_x_34_1, (by grind)⟩
      · exact ok_s ⟨h_v_page_size, h_v_page_letters, (by grind)⟩
    · exact ok_s ⟨h_v_page_size, h_v_page_letters, (by grind)⟩
theorem tX8_blank {N : Nat} {v_page_size : Int32}  (hN : 49999 < N) (h_v_page_size : RB 0 32 v_page_size)  : Ok (fun r => RB 0 32 r.2 ∧ (r.1 = v_page_size ∧ r.2 = 0)) (fX8_blank N v_page_size) := by
  unfold fX8_blank
  exact ok_s ⟨(by grind), (by grind)⟩
theorem tX8_fault {N : Nat} {v_page_size : Int32} {v_page_letters : (Nat → Int32)}  (hN : 49999 < N) (h_v_page_size : RB 0 32 v_page_size) (h_v_page_letters : RA 0 126 v_page_letters)  : Ok (fun r => (FW v_page_size v_page_letters r)) (fX8_fault N v_page_size v_page_letters) := by
  unfold fX8_fault
  refine ok_b (tX3_firstWrong hN h_v_page_size h_v_page_letters) (fun x_4 hx => ?_)
  obtain ⟨h_x_4_0, h_x_4_1⟩ := hx
  exact ok_s (by grind)
theorem tX8_square {N : Nat} {v_page_letters : (Nat → Int32)} {v_isKept : Int32} {v_squaresRead : Int32} {v_page_size : Int32} {v_ground_houses : Int32} {v_ground_worth : (Nat → Int32)} {v_ground_liked : (Nat → Int32)} {v_now_nights : Int32} {v_now_had : (Nat → Int32)} {v_now_town_houses : Int32} {v_now_town_front : Int32} {v_now_town_downFor : Int32} {v_now_town_kindOf : (Nat → Int32)} {v_now_town_standsOn : (Nat → Int32)} {v_now_town_row : (Nat → Int32)} {v_now_town_plotOf : (Nat → Int32)} {v_now_wishes_size : Int32} {v_now_seen_size : Int32}  (hN : 49999 < N) (h_v_page_letters : RA 0 126 v_page_letters) (h_v_page_size : RB 0 32 v_page_size) (h_v_ground_houses : RB 0 6 v_ground_houses) (h_v_now_nights : RB 0 999 v_now_nights) (h_v_now_town_houses : RB 0 6 v_now_town_houses) (h_v_now_town_front : RB 0 11 v_now_town_front) (h_v_now_town_standsOn : RA (-1) 5 v_now_town_standsOn) (h_v_now_town_row : RA 0 5 v_now_town_row) (h_v_now_town_plotOf : RA (-1) 11 v_now_town_plotOf) (h_v_now_wishes_size : RB 0 5 v_now_wishes_size) (h_v_now_seen_size : RB 0 6 v_now_seen_size) (e_0 : v_now_town_houses = v_ground_houses)  : Ok (fun r => RB 0 32 r.2.2.2.1 ∧ RB 0 6 r.2.2.2.2.1 ∧ RB 0 999 r.2.2.2.2.2.2.2.1 ∧ RB 0 6 r.2.2.2.2.2.2.2.2.2.1 ∧ RB 0 11 r.2.2.2.2.2.2.2.2.2.2.1 ∧ RA (-1) 5 r.2.2.2.2.2.2.2.2.2.2.2.2.2.1 ∧ RA 0 5 r.2.2.2.2.2.2.2.2.2.2.2.2.2.2.1 ∧ RA (-1) 11 r.2.2.2.2.2.2.2.2.2.2.2.2.2.2.2.1 ∧ RB 0 5 r.2.2.2.2.2.2.2.2.2.2.2.2.2.2.2.2.1 ∧ RB 0 6 r.2.2.2.2.2.2.2.2.2.2.2.2.2.2.2.2.2 ∧ (¬ SQ v_page_size v_page_letters ∧ r.1 = -103 ∧ r.2.2.2.1 = v_page_size ∧ r.2.1 = v_isKept ∧ r.2.2.1 = v_squaresRead ∧ r.2.2.2.2.1 = v_ground_houses ∧ r.2.2.2.2.2.2.2.1 = v_now_nights ∧ r.2.2.2.2.2.2.2.2.2.2.2.2.2.2.2.2.1 = v_now_wishes_size ∧ r.2.2.2.2.2.2.2.2.2.2.2.2.2.2.2.2.2 = v_now_seen_size ∧ r.2.2.2.2.2.2.2.2.2.1 = v_now_town_houses ∨ SQ v_page_size v_page_letters ∧ r.1 = r.2.2.2.2.1 ∧ r.2.2.2.1 = 0 ∧ r.2.1 = 0 ∧ r.2.2.1 = v_squaresRead + 1 ∧ r.2.2.2.2.1 = (v_page_size - 12) / 3 ∧ 2 ≤ r.2.2.2.2.1 ∧ r.2.2.2.2.2.2.2.1 = 0 ∧ r.2.2.2.2.2.2.2.2.2.2.2.2.2.2.2.2.1 = 0 ∧ r.2.2.2.2.2.2.2.2.2.2.2.2.2.2.2.2.2 = 0 ∧ r.2.2.2.2.2.2.2.2.2.1 = r.2.2.2.2.1) ∧ (SQ v_page_size v_page_letters → r.2.2.2.2.2.2.2.2.2.2.1 = r.2.2.2.2.2.2.2.2.2.1 - 1 ∧ r.2.2.2.2.2.2.2.2.2.2.2.1 = 0) ∧ (SQ v_page_size v_page_letters → r.2.2.2.2.2.2.2.2.1 = fl r.2.2.2.2.2.2.2.2.2.1 (fun _ => 0) v_now_had) ∧ (SQ v_page_size v_page_letters → r.2.2.2.2.2.2.2.2.2.2.2.2.1 = fl r.2.2.2.2.2.2.2.2.2.1 (fun k => kc (v_page_letters (13 + 3 * k))) v_now_town_kindOf) ∧ (SQ v_page_size v_page_letters → r.2.2.2.2.2.2.2.2.2.2.2.2.2.2.1 = fl r.2.2.2.2.2.2.2.2.2.1 (fun k => nI k) v_now_town_row) ∧ (SQ v_page_size v_page_letters → r.2.2.2.2.2.2.2.2.2.2.2.2.2.2.2.1 = fl r.2.2.2.2.2.2.2.2.2.1 (fun k => nI k) v_now_town_plotOf) ∧ (SQ v_page_size v_page_letters → r.2.2.2.2.2.2.2.2.2.2.2.2.2.1 = fl r.2.2.2.2.2.2.2.2.2.1 (fun k => nI k) (fl 12 (fun _ => -1) v_now_town_standsOn)) ∧ (SQ v_page_size v_page_letters → r.2.2.2.2.2.1 = fl 12 (fun k => v_page_letters k - 48) v_ground_worth) ∧ (SQ v_page_size v_page_letters → r.2.2.2.2.2.2.1 = fl r.2.2.2.2.1 (fun k => v_page_letters (14 + 3 * k) - 97) v_ground_liked) ∧ (¬ SQ v_page_size v_page_letters → r.2.2.2.2.2.2.2.2.2.2.1 = v_now_town_front ∧ r.2.2.2.2.2.2.2.2.2.2.2.1 = v_now_town_downFor ∧ r.2.2.2.2.2.2.2.2.1 = v_now_had ∧ r.2.2.2.2.2.2.2.2.2.2.2.2.1 = v_now_town_kindOf ∧ r.2.2.2.2.2.2.2.2.2.2.2.2.2.2.1 = v_now_town_row ∧ r.2.2.2.2.2.2.2.2.2.2.2.2.2.2.2.1 = v_now_town_plotOf ∧ r.2.2.2.2.2.2.2.2.2.2.2.2.2.1 = v_now_town_standsOn ∧ r.2.2.2.2.2.1 = v_ground_worth ∧ r.2.2.2.2.2.2.1 = v_ground_liked)) (fX8_square N v_page_letters v_isKept v_squaresRead v_page_size v_ground_houses v_ground_worth v_ground_liked v_now_nights v_now_had v_now_town_houses v_now_town_front v_now_town_downFor v_now_town_kindOf v_now_town_standsOn v_now_town_row v_now_town_plotOf v_now_wishes_size v_now_seen_size) := by
  unfold fX8_square
  refine ok_b (tX3_isSquare hN h_v_page_size h_v_page_letters) (fun x_4 hx => ?_)
  obtain ⟨h_x_4_0, h_x_4_1⟩ := hx
  refine ok_if (fun c_1 => ?_) (fun c_1 => ?_)
  · exact ok_s ⟨h_v_page_size, h_v_ground_houses, h_v_now_nights, h_v_now_town_houses, h_v_now_town_front, h_v_now_town_standsOn, h_v_now_town_row, h_v_now_town_plotOf, h_v_now_wishes_size, h_v_now_seen_size, (by grind), (by first | exact fun _ => by assumption | exact fun w => absurd w (by grind)), (by first | exact fun _ => by assumption | exact fun w => absurd w (by grind)), (by first | exact fun _ => by assumption | exact fun w => absurd w (by grind)), (by first | exact fun _ => by assumption | exact fun w => absurd w (by grind)), (by first | exact fun _ => by assumption | exact fun w => absurd w (by grind)), (by first | exact fun _ => by assumption | exact fun w => absurd w (by grind)), (by first | exact fun _ => by assumption | exact fun w => absurd w (by grind)), (by first | exact fun _ => by assumption | exact fun w => absurd w (by grind)), (by first | exact fun _ => ⟨rfl, rfl, rfl, rfl, rfl, rfl, rfl, rfl, rfl⟩ | exact fun w => absurd w (by grind))⟩
  · refine ok_b (tX0_readFrom hN h_v_page_size h_v_page_letters h_v_ground_houses (by grind)) (fun x_21 hx => ?_)
    obtain ⟨h_x_21_0, h_x_21_1, h_x_21_2, h_x_21_3, h_x_21_4⟩ := hx
    refine ok_b (tX5_beginFrom hN h_v_page_size h_v_page_letters h_v_now_town_houses h_v_now_town_front h_v_now_town_standsOn h_v_now_town_row h_v_now_town_plotOf h_v_now_wishes_size h_v_now_seen_size (by grind)) (fun x_32 hx => ?_)
    obtain ⟨h_x_32_0, h_x_32_1, h_x_32_2, h_x_32_3, h_x_32_4, h_x_32_5, h_x_32_6, h_x_32_7, h_x_32_8, h_x_32_9, h_x_32_10, h_x_32_11, h_x_32_12, h_x_32_13, h_x_32_14, h_x_32_15⟩ := hx
    exact ok_s ⟨(by grind), h_x_21_0, (by grind), h_x_32_0, h_x_32_1, h_x_32_2, h_x_32_3, h_x_32_4, h_x_32_5, h_x_32_6, (by grind), (by first | exact fun _ => by assumption | exact fun w => absurd w (by grind)), (by first | exact fun _ => by assumption | exact fun w => absurd w (by grind)), (by first | exact fun _ => by assumption | exact fun w => absurd w (by grind)), (by first | exact fun _ => by assumption | exact fun w => absurd w (by grind)), (by first | exact fun _ => by assumption | exact fun w => absurd w (by grind)), (by first | exact fun _ => by assumption | exact fun w => absurd w (by grind)), (by first | exact fun _ => by assumption | exact fun w => absurd w (by grind)), (by first | exact fun _ => by assumption | exact fun w => absurd w (by grind)), (by first | exact fun _ => ⟨rfl, rfl, rfl, rfl, rfl, rfl, rfl, rfl, rfl⟩ | exact fun w => absurd w (by grind))⟩
theorem tX8_isHouse {N : Nat} {v_ground_houses : Int32} {a1 : Int32}  (hN : 49999 < N) (h_v_ground_houses : RB 0 6 v_ground_houses)  : Ok (fun r => (r = 0 ∧ ¬(0 ≤ a1 ∧ a1 < v_ground_houses) ∨ r = 1 ∧ 0 ≤ a1 ∧ a1 < v_ground_houses)) (fX8_isHouse N v_ground_houses a1) := by
  unfold fX8_isHouse
  refine ok_if (fun c_1 => ?_) (fun c_1 => ?_)
  · exact ok_s (by grind)
  · refine ok_if (fun c_2 => ?_) (fun c_2 => ?_)
    · exact ok_s (by grind)
    · exact ok_s (by grind)
theorem tX8_house {N : Nat} {v_ground_houses : Int32} {v_now_town_houses : Int32} {v_now_town_front : Int32} {v_now_town_downFor : Int32} {v_now_town_plotOf : (Nat → Int32)} {v_ground_liked : (Nat → Int32)} {v_now_town_standsOn : (Nat → Int32)} {v_now_town_kindOf : (Nat → Int32)} {v_now_town_row : (Nat → Int32)} {v_now_seen_size : Int32} {v_now_seen_house : (Nat → Int32)} {v_now_seen_night : (Nat → Int32)} {v_now_seen_plot : (Nat → Int32)} {v_now_had : (Nat → Int32)} {a1 : Int32} {a2 : Int32} {v_trade_rings : Int32} {v_trade_gets : (Nat → Int32)} {v_trade_isLeft : (Nat → Int32)} {v_trade_pointsTo : (Nat → Int32)} {v_guess_town_houses : Int32} {v_guess_town_front : Int32} {v_guess_town_downFor : Int32} {v_guess_town_kindOf : (Nat → Int32)} {v_guess_town_plotOf : (Nat → Int32)} {v_guess_town_row : (Nat → Int32)} {v_guess_town_standsOn : (Nat → Int32)} {v_guess_track_0 : (Nat → Int32)} {v_guess_track_1 : (Nat → Int32)} {v_guess_track_2 : (Nat → Int32)} {v_guess_track_3 : (Nat → Int32)} {v_guess_track_4 : (Nat → Int32)}  (hN : 49999 < N) (h_v_ground_houses : RB 0 6 v_ground_houses) (h_v_now_town_houses : RB 0 6 v_now_town_houses) (h_v_now_town_front : RB 0 11 v_now_town_front) (h_v_now_town_plotOf : RA (-1) 11 v_now_town_plotOf) (h_v_now_town_standsOn : RA (-1) 5 v_now_town_standsOn) (h_v_now_town_row : RA 0 5 v_now_town_row) (h_v_now_seen_size : RB 0 6 v_now_seen_size) (h_v_now_seen_house : RA 0 5 v_now_seen_house) (h_v_now_seen_night : RA 0 40 v_now_seen_night) (h_v_trade_pointsTo : RA 0 5 v_trade_pointsTo) (h_v_guess_town_houses : RB 0 6 v_guess_town_houses) (h_v_guess_town_front : RB 0 11 v_guess_town_front) (h_v_guess_town_plotOf : RA (-1) 11 v_guess_town_plotOf) (h_v_guess_town_row : RA 0 5 v_guess_town_row) (h_v_guess_town_standsOn : RA (-1) 5 v_guess_town_standsOn) (e_0 : v_now_town_houses = v_ground_houses)  : Ok (fun r => RA 0 5 r.2.2.2.2.1 ∧ RB 0 6 r.2.2.2.2.2.1 ∧ RB 0 11 r.2.2.2.2.2.2.1 ∧ RA (-1) 11 r.2.2.2.2.2.2.2.2.2.1 ∧ RA 0 5 r.2.2.2.2.2.2.2.2.2.2.1 ∧ RA (-1) 5 r.2.2.2.2.2.2.2.2.2.2.2.1) (fX8_house N v_ground_houses v_now_town_houses v_now_town_front v_now_town_downFor v_now_town_plotOf v_ground_liked v_now_town_standsOn v_now_town_kindOf v_now_town_row v_now_seen_size v_now_seen_house v_now_seen_night v_now_seen_plot v_now_had a1 a2 v_trade_rings v_trade_gets v_trade_isLeft v_trade_pointsTo v_guess_town_houses v_guess_town_front v_guess_town_downFor v_guess_town_kindOf v_guess_town_plotOf v_guess_town_row v_guess_town_standsOn v_guess_track_0 v_guess_track_1 v_guess_track_2 v_guess_track_3 v_guess_track_4) := by
  unfold fX8_house
  refine ok_b (tX8_isHouse hN h_v_ground_houses) (fun x_2 hx => ?_)
  have h_x_2_0 := hx
  refine ok_if (fun c_1 => ?_) (fun c_1 => ?_)
  · exact ok_s ⟨h_v_trade_pointsTo, h_v_guess_town_houses, h_v_guess_town_front, h_v_guess_town_plotOf, h_v_guess_town_row, h_v_guess_town_standsOn⟩
  · refine ok_if (fun c_2 => ?_) (fun c_2 => ?_)
    · refine ok_g (ng6 (by grind)) ?_
      exact ok_s ⟨h_v_trade_pointsTo, h_v_guess_town_houses, h_v_guess_town_front, h_v_guess_town_plotOf, h_v_guess_town_row, h_v_guess_town_standsOn⟩
    · refine ok_if (fun c_3 => ?_) (fun c_3 => ?_)
      · refine ok_g (ng6 (by grind)) ?_
        exact ok_s ⟨h_v_trade_pointsTo, h_v_guess_town_houses, h_v_guess_town_front, h_v_guess_town_plotOf, h_v_guess_town_row, h_v_guess_town_standsOn⟩
      · refine ok_if (fun c_4 => ?_) (fun c_4 => ?_)
        · refine ok_g (ng6 (by grind)) ?_
          exact ok_s ⟨h_v_trade_pointsTo, h_v_guess_town_houses, h_v_guess_town_front, h_v_guess_town_plotOf, h_v_guess_town_row, h_v_guess_town_standsOn⟩
        · refine ok_if (fun c_5 => ?_) (fun c_5 => ?_)
          · refine ok_b (tX6_placeInRow hN h_v_now_town_houses h_v_now_town_row) (fun x_104 hx => ?_)
            exact ok_s ⟨h_v_trade_pointsTo, h_v_guess_town_houses, h_v_guess_town_front, h_v_guess_town_plotOf, h_v_guess_town_row, h_v_guess_town_standsOn⟩
          · refine ok_if (fun c_6 => ?_) (fun c_6 => ?_)
            · refine ok_g (ng6 (by grind)) ?_
              exact ok_s ⟨h_v_trade_pointsTo, h_v_guess_town_houses, h_v_guess_town_front, h_v_guess_town_plotOf, h_v_guess_town_row, h_v_guess_town_standsOn⟩
            · refine ok_if (fun c_7 => ?_) (fun c_7 => ?_)
              · refine ok_b (tX1_kindsOf hN h_v_now_seen_size h_v_now_seen_night (by grind) h_v_now_town_front h_v_now_town_plotOf h_v_now_town_row h_v_now_town_standsOn h_v_now_seen_house (by grind) h_v_guess_town_houses h_v_guess_town_front h_v_guess_town_plotOf h_v_guess_town_row h_v_guess_town_standsOn) (fun x_127 hx => ?_)
                obtain ⟨h_x_127_0, h_x_127_1, h_x_127_2, h_x_127_3, h_x_127_4⟩ := hx
                exact ok_s ⟨h_v_trade_pointsTo, h_x_127_0, h_x_127_1, h_x_127_2, h_x_127_3, h_x_127_4⟩
              · refine ok_if (fun c_8 => ?_) (fun c_8 => ?_)
                · refine ok_b (tX1_nightToLook hN (by grind) h_v_now_town_front h_v_now_town_plotOf h_v_now_town_row h_v_now_town_standsOn h_v_now_seen_size h_v_now_seen_house h_v_now_seen_night (by grind) h_v_guess_town_houses h_v_guess_town_front h_v_guess_town_plotOf h_v_guess_town_row h_v_guess_town_standsOn) (fun x_140 hx => ?_)
                  obtain ⟨h_x_140_0, h_x_140_1, h_x_140_2, h_x_140_3, h_x_140_4⟩ := hx
                  exact ok_s ⟨h_v_trade_pointsTo, h_x_140_0, h_x_140_1, h_x_140_2, h_x_140_3, h_x_140_4⟩
                · refine ok_if (fun c_9 => ?_) (fun c_9 => ?_)
                  · refine ok_b (tX7_close hN h_v_now_town_houses h_v_now_town_plotOf h_v_now_town_standsOn h_v_trade_pointsTo) (fun x_159 hx => ?_)
                    have h_x_159_0 := hx
                    refine ok_g (ng6 (by grind)) ?_
                    exact ok_s ⟨h_x_159_0, h_v_guess_town_houses, h_v_guess_town_front, h_v_guess_town_plotOf, h_v_guess_town_row, h_v_guess_town_standsOn⟩
                  · exact ok_s ⟨h_v_trade_pointsTo, h_v_guess_town_houses, h_v_guess_town_front, h_v_guess_town_plotOf, h_v_guess_town_row, h_v_guess_town_standsOn⟩
theorem tX8_isKind {N : Nat} {a0 : Int32}  (hN : 49999 < N)   : Ok (fun r => (r = 0 ∧ ¬(0 ≤ a0 ∧ a0 < 5) ∨ r = 1 ∧ 0 ≤ a0 ∧ a0 < 5)) (fX8_isKind N a0) := by
  unfold fX8_isKind
  refine ok_if (fun c_1 => ?_) (fun c_1 => ?_)
  · exact ok_s (by grind)
  · refine ok_if (fun c_2 => ?_) (fun c_2 => ?_)
    · exact ok_s (by grind)
    · exact ok_s (by grind)
theorem tX8_as {N : Nat} {v_ground_houses : Int32} {v_now_town_kindOf : (Nat → Int32)} {a1 : Int32} {a2 : Int32}  (hN : 49999 < N) (h_v_ground_houses : RB 0 6 v_ground_houses)  : Ok (fun r => (r = asF a1 a2 v_ground_houses (v_now_town_kindOf a1.toNatClampNeg))) (fX8_as N v_ground_houses v_now_town_kindOf a1 a2) := by
  unfold fX8_as
  refine ok_b (tX8_isHouse hN h_v_ground_houses) (fun x_2 hx => ?_)
  have h_x_2_0 := hx
  refine ok_if (fun c_1 => ?_) (fun c_1 => ?_)
  · exact ok_s (by unfold asF; grind)
  · refine ok_b (tX8_isKind hN ) (fun x_12 hx => ?_)
    have h_x_12_0 := hx
    refine ok_if (fun c_2 => ?_) (fun c_2 => ?_)
    · exact ok_s (by unfold asF; grind)
    · refine ok_g (ng6 (by grind)) ?_
      refine ok_if (fun c_3 => ?_) (fun c_3 => ?_)
      · exact ok_s (by unfold asF; grind)
      · refine ok_if (fun c_4 => ?_) (fun c_4 => ?_)
        · exact ok_s (by unfold asF; grind)
        · refine ok_if (fun c_5 => ?_) (fun c_5 => ?_)
          · refine ok_if (fun c_6 => ?_) (fun c_6 => ?_)
            · exact ok_s (by unfold asF; grind)
            · exact ok_s (by unfold asF; grind)
          · exact ok_s (by unfold asF; grind)
theorem tX8_hasSquare {N : Nat} {v_ground_houses : Int32}  (hN : 49999 < N) (h_v_ground_houses : RB 0 6 v_ground_houses)  : Ok (fun r => (r = 0 ∧ ¬(0 < v_ground_houses) ∨ r = 1 ∧ 0 < v_ground_houses)) (fX8_hasSquare N v_ground_houses) := by
  unfold fX8_hasSquare
  refine ok_if (fun c_1 => ?_) (fun c_1 => ?_)
  · exact ok_s (by grind)
  · exact ok_s (by grind)
theorem tX8_isPlot {N : Nat} {a0 : Int32}  (hN : 49999 < N)   : Ok (fun r => (r = 0 ∧ ¬(0 ≤ a0 ∧ a0 < 12) ∨ r = 1 ∧ 0 ≤ a0 ∧ a0 < 12)) (fX8_isPlot N a0) := by
  unfold fX8_isPlot
  refine ok_if (fun c_1 => ?_) (fun c_1 => ?_)
  · exact ok_s (by grind)
  · refine ok_if (fun c_2 => ?_) (fun c_2 => ?_)
    · exact ok_s (by grind)
    · exact ok_s (by grind)
theorem tX8_plot {N : Nat} {v_ground_houses : Int32} {v_ground_liked : (Nat → Int32)} {v_now_town_standsOn : (Nat → Int32)} {v_ground_worth : (Nat → Int32)} {a1 : Int32} {a2 : Int32}  (hN : 49999 < N) (h_v_ground_houses : RB 0 6 v_ground_houses) (h_v_now_town_standsOn : RA (-1) 5 v_now_town_standsOn)  : Ok (fun r => ((v_ground_houses = 0 ∨ ¬ (0 ≤ a1 ∧ a1 < 12)) ∧ r = -101 ∨ (v_ground_houses ≠ 0 ∧ 0 ≤ a1 ∧ a1 < 12) ∧ (a2 = 0 ∧ r = v_ground_worth a1.toNatClampNeg ∨ a2 = 1 ∧ r = v_now_town_standsOn a1.toNatClampNeg ∨ a2 = 2 ∧ r = sm (fun k => if v_ground_liked k = a1 then 1 else 0) v_ground_houses.toNatClampNeg ∨ (a2 ≠ 0 ∧ a2 ≠ 1 ∧ a2 ≠ 2) ∧ r = -102))) (fX8_plot N v_ground_houses v_ground_liked v_now_town_standsOn v_ground_worth a1 a2) := by
  unfold fX8_plot
  refine ok_b (tX8_hasSquare hN h_v_ground_houses) (fun x_1 hx => ?_)
  have h_x_1_0 := hx
  refine ok_if (fun c_1 => ?_) (fun c_1 => ?_)
  · exact ok_s (by grind)
  · refine ok_b (tX8_isPlot hN ) (fun x_8 hx => ?_)
    have h_x_8_0 := hx
    refine ok_if (fun c_2 => ?_) (fun c_2 => ?_)
    · exact ok_s (by grind)
    · refine ok_if (fun c_3 => ?_) (fun c_3 => ?_)
      · refine ok_g (ng12 (by grind)) ?_
        exact ok_s (by grind)
      · refine ok_if (fun c_4 => ?_) (fun c_4 => ?_)
        · refine ok_g (ng12 (by grind)) ?_
          exact ok_s (by have := h_v_now_town_standsOn ((a1).toNatClampNeg); grind)
        · refine ok_if (fun c_5 => ?_) (fun c_5 => ?_)
          · refine ok_b (tX0_likersOf hN h_v_ground_houses) (fun x_72 hx => ?_)
            have h_x_72_0 := hx
            exact ok_s (by grind)
          · exact ok_s (by grind)
theorem tX8_night {N : Nat} {v_ground_houses : Int32} {v_now_town_houses : Int32} {v_now_town_kindOf : (Nat → Int32)} {v_ground_worth : (Nat → Int32)} {v_now_nights : Int32} {v_now_town_front : Int32} {v_now_town_downFor : Int32} {v_now_town_row : (Nat → Int32)} {v_now_town_plotOf : (Nat → Int32)} {v_now_town_standsOn : (Nat → Int32)} {v_now_had : (Nat → Int32)}  (hN : 49999 < N) (h_v_ground_houses : RB 0 6 v_ground_houses) (h_v_now_town_houses : RB 0 6 v_now_town_houses) (h_v_now_nights : RB 0 999 v_now_nights) (h_v_now_town_front : RB 0 11 v_now_town_front) (h_v_now_town_row : RA 0 5 v_now_town_row) (h_v_now_town_plotOf : RA (-1) 11 v_now_town_plotOf) (h_v_now_town_standsOn : RA (-1) 5 v_now_town_standsOn) (e_0 : v_now_town_houses = v_ground_houses)  : Ok (fun r => RB 0 999 r.2.1 ∧ RB 0 11 r.2.2.1 ∧ RA 0 5 r.2.2.2.2.1 ∧ RA (-1) 11 r.2.2.2.2.2.1 ∧ RA (-1) 5 r.2.2.2.2.2.2.1 ∧ (v_ground_houses = 0 ∧ r.1 = -103 ∧ r.2.1 = v_now_nights ∨ v_ground_houses ≠ 0 ∧ v_now_nights < 999 ∧ r.2.1 = v_now_nights + 1 ∨ v_ground_houses ≠ 0 ∧ ¬ v_now_nights < 999 ∧ r.1 = -104 ∧ r.2.1 = v_now_nights) ∧ (v_ground_houses ≠ 0 → v_now_nights < 999 → TWN v_now_town_houses v_now_town_kindOf v_now_town_downFor v_now_town_row v_now_town_plotOf v_now_town_standsOn → r.1 = tnM v_now_town_kindOf v_now_town_downFor v_now_town_row ∧ (r.2.2.1, r.2.2.2.1, r.2.2.2.2.1, r.2.2.2.2.2.1) = tnS v_now_town_houses v_now_town_kindOf (v_now_town_front, v_now_town_downFor, v_now_town_row, v_now_town_plotOf) ∧ TWN v_now_town_houses v_now_town_kindOf r.2.2.2.1 r.2.2.2.2.1 r.2.2.2.2.2.1 r.2.2.2.2.2.2.1) ∧ (v_ground_houses ≠ 0 → v_now_nights < 999 → r.2.2.2.2.2.2.2 = hdp v_now_town_houses v_ground_worth r.2.2.2.2.2.1 v_now_had) ∧ ((v_ground_houses = 0 ∨ ¬ v_now_nights < 999) → r.2.2.1 = v_now_town_front ∧ r.2.2.2.1 = v_now_town_downFor ∧ r.2.2.2.2.1 = v_now_town_row ∧ r.2.2.2.2.2.1 = v_now_town_plotOf ∧ r.2.2.2.2.2.2.1 = v_now_town_standsOn ∧ r.2.2.2.2.2.2.2 = v_now_had)) (fX8_night N v_ground_houses v_now_town_houses v_now_town_kindOf v_ground_worth v_now_nights v_now_town_front v_now_town_downFor v_now_town_row v_now_town_plotOf v_now_town_standsOn v_now_had) := by
  unfold fX8_night
  refine ok_b (tX8_hasSquare hN h_v_ground_houses) (fun x_1 hx => ?_)
  have h_x_1_0 := hx
  refine ok_if (fun c_1 => ?_) (fun c_1 => ?_)
  · exact ok_s ⟨h_v_now_nights, h_v_now_town_front, h_v_now_town_row, h_v_now_town_plotOf, h_v_now_town_standsOn, (by grind), (by first | exact fun _ _ T => h_x_33_4 T | exact fun w _ _ => absurd w (by grind) | exact fun _ w _ => absurd w (by grind)), (by first | exact fun _ _ => h_x_45_1 | exact fun w _ => absurd w (by grind) | exact fun _ w => absurd w (by grind)), (by grind)⟩
  · refine ok_if (fun c_2 => ?_) (fun c_2 => ?_)
    · refine ok_b (tX6_turn hN (by grind) h_v_now_town_front h_v_now_town_row h_v_now_town_plotOf h_v_now_town_standsOn) (fun x_33 hx => ?_)
      obtain ⟨h_x_33_0, h_x_33_1, h_x_33_2, h_x_33_3, h_x_33_4⟩ := hx
      refine ok_b (tX5_endNight hN h_v_now_town_houses h_x_33_2) (fun x_45 hx => ?_)
      obtain ⟨h_x_45_0, h_x_45_1⟩ := hx
      exact ok_s ⟨(by grind), h_x_33_0, h_x_33_1, h_x_33_2, h_x_33_3, (by grind), (by first | exact fun _ _ T => h_x_33_4 T | exact fun w _ _ => absurd w (by grind) | exact fun _ w _ => absurd w (by grind)), (by first | exact fun _ _ => h_x_45_1 | exact fun w _ => absurd w (by grind) | exact fun _ w => absurd w (by grind)), (by grind)⟩
    · exact ok_s ⟨h_v_now_nights, h_v_now_town_front, h_v_now_town_row, h_v_now_town_plotOf, h_v_now_town_standsOn, (by grind), (by first | exact fun _ _ T => h_x_33_4 T | exact fun w _ _ => absurd w (by grind) | exact fun _ w _ => absurd w (by grind)), (by first | exact fun _ _ => h_x_45_1 | exact fun w _ => absurd w (by grind) | exact fun _ w => absurd w (by grind)), (by grind)⟩
theorem tX8_snow {N : Nat} {v_ground_houses : Int32} {v_now_town_houses : Int32} {v_now_town_plotOf : (Nat → Int32)} {v_ground_worth : (Nat → Int32)} {v_now_nights : Int32} {v_now_had : (Nat → Int32)}  (hN : 49999 < N) (h_v_ground_houses : RB 0 6 v_ground_houses) (h_v_now_town_houses : RB 0 6 v_now_town_houses) (h_v_now_town_plotOf : RA (-1) 11 v_now_town_plotOf) (h_v_now_nights : RB 0 999 v_now_nights) (e_0 : v_now_town_houses = v_ground_houses)  : Ok (fun r => RB 0 999 r.2.1 ∧ (v_ground_houses = 0 ∧ r.1 = -103 ∧ r.2.1 = v_now_nights ∨ v_ground_houses ≠ 0 ∧ v_now_nights < 999 ∧ r.1 = v_now_nights + 1 ∧ r.2.1 = v_now_nights + 1 ∨ v_ground_houses ≠ 0 ∧ ¬ v_now_nights < 999 ∧ r.1 = -104 ∧ r.2.1 = v_now_nights) ∧ (v_ground_houses ≠ 0 → v_now_nights < 999 → r.2.2 = hdp v_now_town_houses v_ground_worth v_now_town_plotOf v_now_had) ∧ ((v_ground_houses = 0 ∨ ¬ v_now_nights < 999) → r.2.2 = v_now_had)) (fX8_snow N v_ground_houses v_now_town_houses v_now_town_plotOf v_ground_worth v_now_nights v_now_had) := by
  unfold fX8_snow
  refine ok_b (tX8_hasSquare hN h_v_ground_houses) (fun x_1 hx => ?_)
  have h_x_1_0 := hx
  refine ok_if (fun c_1 => ?_) (fun c_1 => ?_)
  · exact ok_s ⟨h_v_now_nights, (by grind), (by grind), (by grind)⟩
  · refine ok_if (fun c_2 => ?_) (fun c_2 => ?_)
    · refine ok_b (tX5_endNight hN h_v_now_town_houses h_v_now_town_plotOf) (fun x_34 hx => ?_)
      obtain ⟨h_x_34_0, h_x_34_1⟩ := hx
      exact ok_s ⟨(by grind), (by grind), (by grind), (by grind)⟩
    · exact ok_s ⟨h_v_now_nights, (by grind), (by grind), (by grind)⟩
theorem tX8_build {N : Nat} {v_ground_houses : Int32} {v_now_town_plotOf : (Nat → Int32)} {a1 : Int32} {a2 : Int32} {v_now_town_kindOf : (Nat → Int32)}  (hN : 49999 < N) (h_v_ground_houses : RB 0 6 v_ground_houses) (h_v_now_town_plotOf : RA (-1) 11 v_now_town_plotOf)  : Ok (fun r => (¬ (0 ≤ a1 ∧ a1 < v_ground_houses) ∧ r.1 = -101 ∧ r.2 = v_now_town_kindOf ∨ (0 ≤ a1 ∧ a1 < v_ground_houses) ∧ ¬ (0 ≤ a2 ∧ a2 < 5) ∧ r.1 = -102 ∧ r.2 = v_now_town_kindOf ∨ (0 ≤ a1 ∧ a1 < v_ground_houses) ∧ (0 ≤ a2 ∧ a2 < 5) ∧ v_now_town_plotOf a1.toNatClampNeg = -1 ∧ r.1 = -103 ∧ r.2 = v_now_town_kindOf ∨ (0 ≤ a1 ∧ a1 < v_ground_houses) ∧ (0 ≤ a2 ∧ a2 < 5) ∧ ¬ v_now_town_plotOf a1.toNatClampNeg = -1 ∧ r.1 = v_now_town_kindOf a1.toNatClampNeg ∧ r.2 = upd v_now_town_kindOf a1.toNatClampNeg a2)) (fX8_build N v_ground_houses v_now_town_plotOf a1 a2 v_now_town_kindOf) := by
  unfold fX8_build
  refine ok_b (tX8_isHouse hN h_v_ground_houses) (fun x_2 hx => ?_)
  have h_x_2_0 := hx
  refine ok_if (fun c_1 => ?_) (fun c_1 => ?_)
  · exact ok_s (by grind)
  · refine ok_b (tX8_isKind hN ) (fun x_12 hx => ?_)
    have h_x_12_0 := hx
    refine ok_if (fun c_2 => ?_) (fun c_2 => ?_)
    · exact ok_s (by grind)
    · refine ok_b (tX6_isDown hN h_v_now_town_plotOf (by grind)) (fun x_29 hx => ?_)
      have h_x_29_0 := hx
      refine ok_if (fun c_3 => ?_) (fun c_3 => ?_)
      · refine ok_g (ng6 (by grind)) ?_
        refine ok_g (ng6 (by grind)) ?_
        exact ok_s (by grind)
      · exact ok_s (by grind)
theorem tX8_areTwoHouses {N : Nat} {v_ground_houses : Int32} {a1 : Int32} {a2 : Int32}  (hN : 49999 < N) (h_v_ground_houses : RB 0 6 v_ground_houses)  : Ok (fun r => (r = 0 ∧ ¬(0 ≤ a1 ∧ a1 < v_ground_houses ∧ 0 ≤ a2 ∧ a2 < v_ground_houses ∧ a1 ≠ a2) ∨ r = 1 ∧ 0 ≤ a1 ∧ a1 < v_ground_houses ∧ 0 ≤ a2 ∧ a2 < v_ground_houses ∧ a1 ≠ a2)) (fX8_areTwoHouses N v_ground_houses a1 a2) := by
  unfold fX8_areTwoHouses
  refine ok_b (tX8_isHouse hN h_v_ground_houses) (fun x_2 hx => ?_)
  have h_x_2_0 := hx
  refine ok_if (fun c_1 => ?_) (fun c_1 => ?_)
  · exact ok_s (by grind)
  · refine ok_b (tX8_isHouse hN h_v_ground_houses) (fun x_10 hx => ?_)
    have h_x_10_0 := hx
    refine ok_if (fun c_2 => ?_) (fun c_2 => ?_)
    · exact ok_s (by grind)
    · refine ok_if (fun c_3 => ?_) (fun c_3 => ?_)
      · exact ok_s (by grind)
      · exact ok_s (by grind)
