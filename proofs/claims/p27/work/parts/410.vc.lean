theorem tX3_houses {N : Nat} {v_size : Int32} (hN : 49999 < N) (h_v_size : RB 0 32 v_size) : Ok (fun r => (18 ≤ v_size → 2 ≤ r ∧ r ≤ 6 ∧ r = (v_size - 12) / 3)) (fX3_houses N v_size) := by
  unfold fX3_houses
  refine ok_s (fun h18 => ?_)
  have hb : (6 : Int32) ≤ v_size - 12 ∧ v_size - 12 ≤ 20 := by grind
  have e := (mdc (x := v_size - 12) (c := 3) (by decide) (by grind)).2
  have z3 : (3 : Int32).toInt = 3 := rfl
  have z6 : (6 : Int32).toInt = 6 := rfl
  have z2 : (2 : Int32).toInt = 2 := rfl
  have z20 : (20 : Int32).toInt = 20 := rfl
  rw [fa_le, fa_le, z6, z20] at hb
  rw [z3] at e
  have hc : ¬ (6 : Int32) < (v_size - 12) / 3 := by rw [fa_lt, e, z6]; omega
  rw [if_neg hc]
  refine ⟨?_, ?_, rfl⟩
  · rw [fa_le, e, z2]; omega
  · rw [fa_le, e, z6]; omega
theorem tX3_worthWritten {N : Nat} {v_letters : (Nat → Int32)} {a1 : Int32}  (hN : 49999 < N) (h_v_letters : RA 0 126 v_letters) (h_a1 : RB 0 31 a1)  : Ok (fun r => (r = v_letters a1.toNatClampNeg - 48)) (fX3_worthWritten N v_letters a1) := by
  unfold fX3_worthWritten
  refine ok_g (ng32 (by grind)) ?_
  exact ok_s (by have := h_v_letters ((a1).toNatClampNeg); grind)
theorem tX3_likeWritten {N : Nat} {v_letters : (Nat → Int32)} {a1 : Int32}  (hN : 49999 < N) (h_v_letters : RA 0 126 v_letters) (h_a1 : RB 0 5 a1)  : Ok (fun r => (r = v_letters (14 + 3 * a1.toNatClampNeg) - 97)) (fX3_likeWritten N v_letters a1) := by
  unfold fX3_likeWritten
  refine ok_g (ng32 (by have := ix3 h_a1; grind)) ?_
  exact ok_s (by have := ix3 h_a1; have := h_v_letters (((((12 : Int32) + ((3 : Int32) * a1)) + (2 : Int32))).toNatClampNeg); grind)
theorem sX0_readFrom_35 {N : Nat} {w1_size : Int32} {w1_letters : (Nat → Int32)} {K_35 : Int32 → Int32 → (Nat → Int32) → (Nat → Int32) → Option (Int32 × (Nat → Int32) × (Nat → Int32))} {l2 : Int32} {v_houses : Int32} {v_worth : (Nat → Int32)} {v_liked : (Nat → Int32)} {g_v_worth : (Nat → Int32)} {g_v_liked : (Nat → Int32)} {m_35 : Int32} (hN : 49999 < N) (h_w1_size : RB 0 32 w1_size) (h_w1_letters : RA 0 126 w1_letters) (hK_35 : ∀ (l2 : Int32) (v_houses : Int32) (v_worth : (Nat → Int32)) (v_liked : (Nat → Int32)), RB 0 6 v_houses ∧ 0 ≤ l2 ∧ (v_houses = (w1_size - 12) / 3) ∧ (2 ≤ v_houses) ∧ (v_worth = fl 12 (fun k => w1_letters k - 48) g_v_worth) ∧ (v_liked = fl l2 (fun k => w1_letters (14 + 3 * k) - 97) g_v_liked) ∧ (l2 ≤ v_houses) → (v_houses - l2) < m_35 → 0 < m_35 → Ok (fun r => RB 0 6 r.1 ∧ (r.1 = (w1_size - 12) / 3) ∧ (2 ≤ r.1) ∧ (r.2.1 = fl 12 (fun k => w1_letters k - 48) g_v_worth) ∧ (r.2.2 = fl r.1 (fun k => w1_letters (14 + 3 * k) - 97) g_v_liked)) (K_35 l2 v_houses v_worth v_liked)) (hI : RB 0 6 v_houses ∧ 0 ≤ l2 ∧ (v_houses = (w1_size - 12) / 3) ∧ (2 ≤ v_houses) ∧ (v_worth = fl 12 (fun k => w1_letters k - 48) g_v_worth) ∧ (v_liked = fl l2 (fun k => w1_letters (14 + 3 * k) - 97) g_v_liked) ∧ (l2 ≤ v_houses)) (hm_35 : (v_houses - l2) = m_35) : Ok (fun r => RB 0 6 r.1 ∧ (r.1 = (w1_size - 12) / 3) ∧ (2 ≤ r.1) ∧ (r.2.1 = fl 12 (fun k => w1_letters k - 48) g_v_worth) ∧ (r.2.2 = fl r.1 (fun k => w1_letters (14 + 3 * k) - 97) g_v_liked)) (fX0_readFrom_35 N w1_size w1_letters K_35 l2 v_houses v_worth v_liked) := by
  obtain ⟨h_v_houses, h_l2, e_0, e_1, e_2, e_3, e_4⟩ := hI
  unfold fX0_readFrom_35
  refine ok_if (fun c_1 => ?_) (fun c_1 => ?_)
  · exact ok_s ⟨h_v_houses, (by clear hm_35 hK_35; grind), (by clear hm_35 hK_35; grind), e_2, (fl_end e_3 (by clear hm_35 hK_35 e_3 e_2; grind))⟩
  · refine ok_b (tX3_likeWritten hN h_w1_letters (by clear hm_35 hK_35; grind)) (fun x_50 hx => ?_)
    have h_x_50_0 := hx
    refine ok_g (ng6 (by clear hm_35 hK_35; grind)) ?_
    exact hK_35 _ _ _ _ ⟨h_v_houses, (by clear hm_35 hK_35; grind), (by clear hm_35 hK_35; grind), (by clear hm_35 hK_35; grind), e_2, (fl_step e_3 h_x_50_0 (by clear hm_35 hK_35 e_3 e_2; grind)), (by clear hm_35 hK_35; grind)⟩ (by clear hK_35; grind) (by clear hK_35; grind)
theorem lX0_readFrom_35 {N : Nat} {w1_size : Int32} {w1_letters : (Nat → Int32)} {g_v_worth : (Nat → Int32)} {g_v_liked : (Nat → Int32)} (hN : 49999 < N) (h_w1_size : RB 0 32 w1_size) (h_w1_letters : RA 0 126 w1_letters)  : ∀ (l2 : Int32) (v_houses : Int32) (v_worth : (Nat → Int32)) (v_liked : (Nat → Int32)), RB 0 6 v_houses ∧ 0 ≤ l2 ∧ (v_houses = (w1_size - 12) / 3) ∧ (2 ≤ v_houses) ∧ (v_worth = fl 12 (fun k => w1_letters k - 48) g_v_worth) ∧ (v_liked = fl l2 (fun k => w1_letters (14 + 3 * k) - 97) g_v_liked) ∧ (l2 ≤ v_houses) → (v_houses - l2) ≤ 49999 → Ok (fun r => RB 0 6 r.1 ∧ (r.1 = (w1_size - 12) / 3) ∧ (2 ≤ r.1) ∧ (r.2.1 = fl 12 (fun k => w1_letters k - 48) g_v_worth) ∧ (r.2.2 = fl r.1 (fun k => w1_letters (14 + 3 * k) - 97) g_v_liked)) (lfix (fun (K : Int32 × Int32 × (Nat → Int32) × (Nat → Int32) → Option (Int32 × (Nat → Int32) × (Nat → Int32))) (a : Int32 × Int32 × (Nat → Int32) × (Nat → Int32)) => fX0_readFrom_35 N w1_size w1_letters (fun (l2 : Int32) (v_houses : Int32) (v_worth : (Nat → Int32)) (v_liked : (Nat → Int32)) => K (l2, v_houses, v_worth, v_liked)) a.1 a.2.1 a.2.2.1 a.2.2.2) N (l2, v_houses, v_worth, v_liked)) := by
  intro l2 v_houses v_worth v_liked hI hM
  exact ok_l (I := fun (a : Int32 × Int32 × (Nat → Int32) × (Nat → Int32)) => (RB 0 6 a.2.1 ∧ 0 ≤ a.1 ∧ (a.2.1 = (w1_size - 12) / 3) ∧ (2 ≤ a.2.1) ∧ (a.2.2.1 = fl 12 (fun k => w1_letters k - 48) g_v_worth) ∧ (a.2.2.2 = fl a.1 (fun k => w1_letters (14 + 3 * k) - 97) g_v_liked) ∧ (a.1 ≤ a.2.1))) (M := fun (a : Int32 × Int32 × (Nat → Int32) × (Nat → Int32)) => (a.2.1 - a.1)) (fun K a hI hK => sX0_readFrom_35 (g_v_worth := g_v_worth) (g_v_liked := g_v_liked) hN h_w1_size h_w1_letters  (fun l2 v_houses v_worth v_liked hI2  hlt hp => hK (l2, v_houses, v_worth, v_liked) hI2 hlt hp) hI  rfl) N _ hI hN hM
theorem sX0_readFrom_10 {N : Nat} {w1_size : Int32} {w1_letters : (Nat → Int32)} {K_10 : Int32 → Int32 → (Nat → Int32) → (Nat → Int32) → Option (Int32 × (Nat → Int32) × (Nat → Int32))} {l2 : Int32} {v_houses : Int32} {v_worth : (Nat → Int32)} {v_liked : (Nat → Int32)} {g_v_worth : (Nat → Int32)} {g_v_liked : (Nat → Int32)} {m_10 : Int32} (hN : 49999 < N) (h_w1_size : RB 0 32 w1_size) (h_w1_letters : RA 0 126 w1_letters) (hK_10 : ∀ (l2 : Int32) (v_houses : Int32) (v_worth : (Nat → Int32)) (v_liked : (Nat → Int32)), RB 0 6 v_houses ∧ 0 ≤ l2 ∧ (v_houses = (w1_size - 12) / 3) ∧ (2 ≤ v_houses) ∧ (v_worth = fl l2 (fun k => w1_letters k - 48) g_v_worth) ∧ (v_liked = g_v_liked) ∧ (l2 ≤ 12) → ((12 : Int32) - l2) < m_10 → 0 < m_10 → Ok (fun r => RB 0 6 r.1 ∧ (r.1 = (w1_size - 12) / 3) ∧ (2 ≤ r.1) ∧ (r.2.1 = fl 12 (fun k => w1_letters k - 48) g_v_worth) ∧ (r.2.2 = fl r.1 (fun k => w1_letters (14 + 3 * k) - 97) g_v_liked)) (K_10 l2 v_houses v_worth v_liked)) (hI : RB 0 6 v_houses ∧ 0 ≤ l2 ∧ (v_houses = (w1_size - 12) / 3) ∧ (2 ≤ v_houses) ∧ (v_worth = fl l2 (fun k => w1_letters k - 48) g_v_worth) ∧ (v_liked = g_v_liked) ∧ (l2 ≤ 12)) (hm_10 : ((12 : Int32) - l2) = m_10) : Ok (fun r => RB 0 6 r.1 ∧ (r.1 = (w1_size - 12) / 3) ∧ (2 ≤ r.1) ∧ (r.2.1 = fl 12 (fun k => w1_letters k - 48) g_v_worth) ∧ (r.2.2 = fl r.1 (fun k => w1_letters (14 + 3 * k) - 97) g_v_liked)) (fX0_readFrom_10 N w1_size w1_letters K_10 l2 v_houses v_worth v_liked) := by
  obtain ⟨h_v_houses, h_l2, e_0, e_1, e_2, e_3, e_4⟩ := hI
  unfold fX0_readFrom_10
  refine ok_if (fun c_1 => ?_) (fun c_1 => ?_)
  · exact lX0_readFrom_35 (g_v_worth := g_v_worth) (g_v_liked := g_v_liked) hN h_w1_size h_w1_letters  _ _ _ _ ⟨h_v_houses, (by clear hm_10 hK_10; grind), (by clear hm_10 hK_10; grind), (by clear hm_10 hK_10; grind), (fl_end e_2 (by clear hm_10 hK_10 e_2; grind)), (by rw [e_3]; exact fl_0 _ _), (by clear hm_10 hK_10; grind)⟩  (by clear hm_10 hK_10; grind)
  · refine ok_b (tX3_worthWritten hN h_w1_letters (by clear hm_10 hK_10; grind)) (fun x_23 hx => ?_)
    have h_x_23_0 := hx
    refine ok_g (ng12 (by clear hm_10 hK_10; grind)) ?_
    exact hK_10 _ _ _ _ ⟨h_v_houses, (by clear hm_10 hK_10; grind), (by clear hm_10 hK_10; grind), (by clear hm_10 hK_10; grind), (fl_step e_2 h_x_23_0 (by clear hm_10 hK_10 e_2; grind)), (by clear hm_10 hK_10; grind), (by clear hm_10 hK_10; grind)⟩ (by clear hK_10; grind) (by clear hK_10; grind)
theorem lX0_readFrom_10 {N : Nat} {w1_size : Int32} {w1_letters : (Nat → Int32)} {g_v_worth : (Nat → Int32)} {g_v_liked : (Nat → Int32)} (hN : 49999 < N) (h_w1_size : RB 0 32 w1_size) (h_w1_letters : RA 0 126 w1_letters)  : ∀ (l2 : Int32) (v_houses : Int32) (v_worth : (Nat → Int32)) (v_liked : (Nat → Int32)), RB 0 6 v_houses ∧ 0 ≤ l2 ∧ (v_houses = (w1_size - 12) / 3) ∧ (2 ≤ v_houses) ∧ (v_worth = fl l2 (fun k => w1_letters k - 48) g_v_worth) ∧ (v_liked = g_v_liked) ∧ (l2 ≤ 12) → ((12 : Int32) - l2) ≤ 49999 → Ok (fun r => RB 0 6 r.1 ∧ (r.1 = (w1_size - 12) / 3) ∧ (2 ≤ r.1) ∧ (r.2.1 = fl 12 (fun k => w1_letters k - 48) g_v_worth) ∧ (r.2.2 = fl r.1 (fun k => w1_letters (14 + 3 * k) - 97) g_v_liked)) (lfix (fun (K : Int32 × Int32 × (Nat → Int32) × (Nat → Int32) → Option (Int32 × (Nat → Int32) × (Nat → Int32))) (a : Int32 × Int32 × (Nat → Int32) × (Nat → Int32)) => fX0_readFrom_10 N w1_size w1_letters (fun (l2 : Int32) (v_houses : Int32) (v_worth : (Nat → Int32)) (v_liked : (Nat → Int32)) => K (l2, v_houses, v_worth, v_liked)) a.1 a.2.1 a.2.2.1 a.2.2.2) N (l2, v_houses, v_worth, v_liked)) := by
  intro l2 v_houses v_worth v_liked hI hM
  exact ok_l (I := fun (a : Int32 × Int32 × (Nat → Int32) × (Nat → Int32)) => (RB 0 6 a.2.1 ∧ 0 ≤ a.1 ∧ (a.2.1 = (w1_size - 12) / 3) ∧ (2 ≤ a.2.1) ∧ (a.2.2.1 = fl a.1 (fun k => w1_letters k - 48) g_v_worth) ∧ (a.2.2.2 = g_v_liked) ∧ (a.1 ≤ 12))) (M := fun (a : Int32 × Int32 × (Nat → Int32) × (Nat → Int32)) => ((12 : Int32) - a.1)) (fun K a hI hK => sX0_readFrom_10 (g_v_worth := g_v_worth) (g_v_liked := g_v_liked) hN h_w1_size h_w1_letters  (fun l2 v_houses v_worth v_liked hI2  hlt hp => hK (l2, v_houses, v_worth, v_liked) hI2 hlt hp) hI  rfl) N _ hI hN hM
theorem tX0_readFrom {N : Nat} {w1_size : Int32} {w1_letters : (Nat → Int32)} {v_houses : Int32} {v_worth : (Nat → Int32)} {v_liked : (Nat → Int32)}  (hN : 49999 < N) (h_w1_size : RB 0 32 w1_size) (h_w1_letters : RA 0 126 w1_letters) (h_v_houses : RB 0 6 v_houses) (e_0 : 18 ≤ w1_size)  : Ok (fun r => RB 0 6 r.1 ∧ (r.1 = (w1_size - 12) / 3) ∧ (2 ≤ r.1) ∧ (r.2.1 = fl 12 (fun k => w1_letters k - 48) v_worth) ∧ (r.2.2 = fl r.1 (fun k => w1_letters (14 + 3 * k) - 97) v_liked)) (fX0_readFrom N w1_size w1_letters v_houses v_worth v_liked) := by
  unfold fX0_readFrom
  refine ok_b (tX3_houses hN h_w1_size) (fun x_2 hx => ?_)
  have h_x_2_0 := hx
  exact lX0_readFrom_10 (g_v_worth := v_worth) (g_v_liked := v_liked) hN h_w1_size h_w1_letters  _ _ _ _ ⟨(by grind), (by grind), (by grind), (by grind), (fl_0 _ _), (by grind), (by grind)⟩  (by grind)
theorem sX0_likersOf_4 {N : Nat} {v_houses : Int32} {v_liked : (Nat → Int32)} {a1 : Int32} {K_4 : Int32 → Int32 → Option (Int32)} {l2 : Int32} {l3 : Int32}  {m_4 : Int32} (hN : 49999 < N) (h_v_houses : RB 0 6 v_houses) (hK_4 : ∀ (l2 : Int32) (l3 : Int32), 0 ≤ l3 ∧ (l2 = sm (fun k => if v_liked k = a1 then 1 else 0) l3.toNatClampNeg) ∧ (l3 ≤ v_houses) → (v_houses - l3) < m_4 → 0 < m_4 → Ok (fun r => (r = sm (fun k => if v_liked k = a1 then 1 else 0) v_houses.toNatClampNeg)) (K_4 l2 l3)) (hI : 0 ≤ l3 ∧ (l2 = sm (fun k => if v_liked k = a1 then 1 else 0) l3.toNatClampNeg) ∧ (l3 ≤ v_houses)) (hm_4 : (v_houses - l3) = m_4) : Ok (fun r => (r = sm (fun k => if v_liked k = a1 then 1 else 0) v_houses.toNatClampNeg)) (fX0_likersOf_4 N v_houses v_liked a1 K_4 l2 l3) := by
  obtain ⟨h_l3, e_0, e_1⟩ := hI
  unfold fX0_likersOf_4
  refine ok_if (fun c_1 => ?_) (fun c_1 => ?_)
  · exact ok_s (sm_end e_0 (by clear hm_4 hK_4 e_0; grind))
  · refine ok_g (ng6 (by clear hm_4 hK_4; grind)) ?_
    refine ok_if (fun c_2 => ?_) (fun c_2 => ?_)
    · exact hK_4 _ _ ⟨(by clear hm_4 hK_4; grind), (by clear hm_4 hK_4; first | exact sm_step e_0 (if_pos (by clear e_0; grind)).symm (by clear e_0; grind) | exact sm_step0 e_0 (if_neg (by clear e_0; grind)) (by clear e_0; grind)), (by clear hm_4 hK_4; grind)⟩ (by clear hK_4; grind) (by clear hK_4; grind)
    · exact hK_4 _ _ ⟨(by clear hm_4 hK_4; grind), (by clear hm_4 hK_4; first | exact sm_step e_0 (if_pos (by clear e_0; grind)).symm (by clear e_0; grind) | exact sm_step0 e_0 (if_neg (by clear e_0; grind)) (by clear e_0; grind)), (by clear hm_4 hK_4; grind)⟩ (by clear hK_4; grind) (by clear hK_4; grind)
theorem lX0_likersOf_4 {N : Nat} {v_houses : Int32} {v_liked : (Nat → Int32)} {a1 : Int32}  (hN : 49999 < N) (h_v_houses : RB 0 6 v_houses)  : ∀ (l2 : Int32) (l3 : Int32), 0 ≤ l3 ∧ (l2 = sm (fun k => if v_liked k = a1 then 1 else 0) l3.toNatClampNeg) ∧ (l3 ≤ v_houses) → (v_houses - l3) ≤ 49999 → Ok (fun r => (r = sm (fun k => if v_liked k = a1 then 1 else 0) v_houses.toNatClampNeg)) (lfix (fun (K : Int32 × Int32 → Option (Int32)) (a : Int32 × Int32) => fX0_likersOf_4 N v_houses v_liked a1 (fun (l2 : Int32) (l3 : Int32) => K (l2, l3)) a.1 a.2) N (l2, l3)) := by
  intro l2 l3 hI hM
  exact ok_l (I := fun (a : Int32 × Int32) => (0 ≤ a.2 ∧ (a.1 = sm (fun k => if v_liked k = a1 then 1 else 0) a.2.toNatClampNeg) ∧ (a.2 ≤ v_houses))) (M := fun (a : Int32 × Int32) => (v_houses - a.2)) (fun K a hI hK => sX0_likersOf_4  hN h_v_houses  (fun l2 l3 hI2  hlt hp => hK (l2, l3) hI2 hlt hp) hI  rfl) N _ hI hN hM
theorem tX0_likersOf {N : Nat} {v_houses : Int32} {v_liked : (Nat → Int32)} {a1 : Int32}  (hN : 49999 < N) (h_v_houses : RB 0 6 v_houses)  : Ok (fun r => (r = sm (fun k => if v_liked k = a1 then 1 else 0) v_houses.toNatClampNeg)) (fX0_likersOf N v_houses v_liked a1) := by
  unfold fX0_likersOf
  exact lX0_likersOf_4  hN h_v_houses  _ _ ⟨(by grind), rfl, (by grind)⟩  (by grind)
theorem tX6_isDown {N : Nat} {v_plotOf : (Nat → Int32)} {a1 : Int32}  (hN : 49999 < N) (h_v_plotOf : RA (-1) 11 v_plotOf) (h_a1 : RB 0 5 a1)  : Ok (fun r => (r = 0 ∧ ¬(v_plotOf a1.toNatClampNeg = -1) ∨ r = 1 ∧ v_plotOf a1.toNatClampNeg = -1)) (fX6_isDown N v_plotOf a1) := by
  unfold fX6_isDown
  refine ok_g (ng6 (by grind)) ?_
  refine ok_if (fun c_1 => ?_) (fun c_1 => ?_)
  · exact ok_s (by grind)
  · exact ok_s (by grind)
theorem tX0_worthUnder {N : Nat} {w1_plotOf : (Nat → Int32)} {v_worth : (Nat → Int32)} {a2 : Int32}  (hN : 49999 < N) (h_w1_plotOf : RA (-1) 11 w1_plotOf) (h_a2 : RB 0 5 a2)  : Ok (fun r => (r = wu v_worth (w1_plotOf a2.toNatClampNeg))) (fX0_worthUnder N w1_plotOf v_worth a2) := by
  unfold fX0_worthUnder
  refine ok_b (tX6_isDown hN h_w1_plotOf h_a2) (fun x_2 hx => ?_)
  have h_x_2_0 := hx
  refine ok_if (fun c_1 => ?_) (fun c_1 => ?_)
  · refine ok_g (ng6 (by grind)) ?_
    refine ok_g (ng12 (by have := h_w1_plotOf ((a2).toNatClampNeg); grind)) ?_
    exact ok_s (by unfold wu; grind)
  · exact ok_s (by unfold wu; grind)
theorem sX0_worthUnderAll_4 {N : Nat} {v_houses : Int32} {w1_plotOf : (Nat → Int32)} {v_worth : (Nat → Int32)} {K_4 : Int32 → Int32 → Option (Int32)} {l2 : Int32} {l3 : Int32}  {m_4 : Int32} (hN : 49999 < N) (h_v_houses : RB 0 6 v_houses) (h_w1_plotOf : RA (-1) 11 w1_plotOf) (hK_4 : ∀ (l2 : Int32) (l3 : Int32), 0 ≤ l3 ∧ (l2 = sm (fun k => wu v_worth (w1_plotOf k)) l3.toNatClampNeg) ∧ (l3 ≤ v_houses) → (v_houses - l3) < m_4 → 0 < m_4 → Ok (fun r => (r = sm (fun k => wu v_worth (w1_plotOf k)) v_houses.toNatClampNeg)) (K_4 l2 l3)) (hI : 0 ≤ l3 ∧ (l2 = sm (fun k => wu v_worth (w1_plotOf k)) l3.toNatClampNeg) ∧ (l3 ≤ v_houses)) (hm_4 : (v_houses - l3) = m_4) : Ok (fun r => (r = sm (fun k => wu v_worth (w1_plotOf k)) v_houses.toNatClampNeg)) (fX0_worthUnderAll_4 N v_houses w1_plotOf v_worth K_4 l2 l3) := by
  obtain ⟨h_l3, e_0, e_1⟩ := hI
  unfold fX0_worthUnderAll_4
  refine ok_if (fun c_1 => ?_) (fun c_1 => ?_)
  · exact ok_s (sm_end e_0 (by clear hm_4 hK_4 e_0; grind))
  · refine ok_b (tX0_worthUnder hN h_w1_plotOf (by clear hm_4 hK_4; grind)) (fun x_16 hx => ?_)
    have h_x_16_0 := hx
    exact hK_4 _ _ ⟨(by clear hm_4 hK_4; grind), (by clear hm_4 hK_4; first | exact sm_step e_0 h_x_16_0 (by clear e_0; grind)), (by clear hm_4 hK_4; grind)⟩ (by clear hK_4; grind) (by clear hK_4; grind)
theorem lX0_worthUnderAll_4 {N : Nat} {v_houses : Int32} {w1_plotOf : (Nat → Int32)} {v_worth : (Nat → Int32)}  (hN : 49999 < N) (h_v_houses : RB 0 6 v_houses) (h_w1_plotOf : RA (-1) 11 w1_plotOf)  : ∀ (l2 : Int32) (l3 : Int32), 0 ≤ l3 ∧ (l2 = sm (fun k => wu v_worth (w1_plotOf k)) l3.toNatClampNeg) ∧ (l3 ≤ v_houses) → (v_houses - l3) ≤ 49999 → Ok (fun r => (r = sm (fun k => wu v_worth (w1_plotOf k)) v_houses.toNatClampNeg)) (lfix (fun (K : Int32 × Int32 → Option (Int32)) (a : Int32 × Int32) => fX0_worthUnderAll_4 N v_houses w1_plotOf v_worth (fun (l2 : Int32) (l3 : Int32) => K (l2, l3)) a.1 a.2) N (l2, l3)) := by
  intro l2 l3 hI hM
  exact ok_l (I := fun (a : Int32 × Int32) => (0 ≤ a.2 ∧ (a.1 = sm (fun k => wu v_worth (w1_plotOf k)) a.2.toNatClampNeg) ∧ (a.2 ≤ v_houses))) (M := fun (a : Int32 × Int32) => (v_houses - a.2)) (fun K a hI hK => sX0_worthUnderAll_4  hN h_v_houses h_w1_plotOf  (fun l2 l3 hI2  hlt hp => hK (l2, l3) hI2 hlt hp) hI  rfl) N _ hI hN hM
theorem tX0_worthUnderAll {N : Nat} {v_houses : Int32} {w1_plotOf : (Nat → Int32)} {v_worth : (Nat → Int32)}  (hN : 49999 < N) (h_v_houses : RB 0 6 v_houses) (h_w1_plotOf : RA (-1) 11 w1_plotOf)  : Ok (fun r => (r = sm (fun k => wu v_worth (w1_plotOf k)) v_houses.toNatClampNeg)) (fX0_worthUnderAll N v_houses w1_plotOf v_worth) := by
  unfold fX0_worthUnderAll
  exact lX0_worthUnderAll_4  hN h_v_houses h_w1_plotOf  _ _ ⟨(by grind), rfl, (by grind)⟩  (by grind)
theorem sX2_lastNight_4 {N : Nat} {n_o : Nat} {v_size : Int32} {v_night : (Nat → Int32)} {K_4 : Int32 → Int32 → Option (Int32)} {l1 : Int32} {l2 : Int32}  {m_4 : Int32} (hN : 49999 < N) (f_0 : NZ n_o v_size) (h_v_night : RA 0 40 v_night) (hK_4 : ∀ (l1 : Int32) (l2 : Int32), RB 0 40 l1 ∧ 0 ≤ l2 → (v_size - l2) < m_4 → 0 < m_4 → Ok (fun r => RB 0 40 r) (K_4 l1 l2)) (hI : RB 0 40 l1 ∧ 0 ≤ l2) (hm_4 : (v_size - l2) = m_4) : Ok (fun r => RB 0 40 r) (fX2_lastNight_4 N n_o v_size v_night K_4 l1 l2) := by
  obtain ⟨h_l1, h_l2⟩ := hI
  have fz_0 := f_0.le
  have fy_0 := f_0.2.1
  unfold fX2_lastNight_4
  refine ok_if (fun c_1 => ?_) (fun c_1 => ?_)
  · exact ok_s h_l1
  · refine ok_g (ngz f_0 (by clear hm_4 hK_4; grind)) ?_
    exact hK_4 _ _ ⟨(by clear hm_4 hK_4; have := h_v_night ((l2).toNatClampNeg); grind), (by clear hm_4 hK_4; grind)⟩ (by clear hK_4; grind) (by clear hK_4; grind)
theorem lX2_lastNight_4 {N : Nat} {n_o : Nat} {v_size : Int32} {v_night : (Nat → Int32)}  (hN : 49999 < N) (f_0 : NZ n_o v_size) (h_v_night : RA 0 40 v_night)  : ∀ (l1 : Int32) (l2 : Int32), RB 0 40 l1 ∧ 0 ≤ l2 → (v_size - l2) ≤ 49999 → Ok (fun r => RB 0 40 r) (lfix (fun (K : Int32 × Int32 → Option (Int32)) (a : Int32 × Int32) => fX2_lastNight_4 N n_o v_size v_night (fun (l1 : Int32) (l2 : Int32) => K (l1, l2)) a.1 a.2) N (l1, l2)) := by
  intro l1 l2 hI hM
  exact ok_l (I := fun (a : Int32 × Int32) => (RB 0 40 a.1 ∧ 0 ≤ a.2)) (M := fun (a : Int32 × Int32) => (v_size - a.2)) (fun K a hI hK => sX2_lastNight_4  hN f_0 h_v_night  (fun l1 l2 hI2  hlt hp => hK (l1, l2) hI2 hlt hp) hI  rfl) N _ hI hN hM
theorem tX2_lastNight {N : Nat} {n_o : Nat} {v_size : Int32} {v_night : (Nat → Int32)}  (hN : 49999 < N) (f_0 : NZ n_o v_size) (h_v_night : RA 0 40 v_night)  : Ok (fun r => RB 0 40 r) (fX2_lastNight N n_o v_size v_night) := by
  have fz_0 := f_0.le
  have fy_0 := f_0.2.1
  unfold fX2_lastNight
  exact lX2_lastNight_4  hN f_0 h_v_night  _ _ ⟨(by grind), (by grind)⟩  (by grind)
theorem tX6_copyFrom {N : Nat} {w1_houses : Int32} {w1_front : Int32} {w1_downFor : Int32} {w1_kindOf : (Nat → Int32)} {w1_plotOf : (Nat → Int32)} {w1_row : (Nat → Int32)} {w1_standsOn : (Nat → Int32)} {v_houses : Int32} {v_front : Int32} {v_downFor : Int32} {v_kindOf : (Nat → Int32)} {v_plotOf : (Nat → Int32)} {v_row : (Nat → Int32)} {v_standsOn : (Nat → Int32)}  (hN : 49999 < N) (h_w1_houses : RB 0 6 w1_houses) (h_w1_front : RB 0 11 w1_front) (h_w1_plotOf : RA (-1) 11 w1_plotOf) (h_w1_row : RA 0 5 w1_row) (h_w1_standsOn : RA (-1) 5 w1_standsOn) (h_v_houses : RB 0 6 v_houses) (h_v_front : RB 0 11 v_front) (h_v_plotOf : RA (-1) 11 v_plotOf) (h_v_row : RA 0 5 v_row) (h_v_standsOn : RA (-1) 5 v_standsOn)  : Ok (fun r => RB 0 6 r.1 ∧ RB 0 11 r.2.1 ∧ RA (-1) 11 r.2.2.2.2.1 ∧ RA 0 5 r.2.2.2.2.2.1 ∧ RA (-1) 5 r.2.2.2.2.2.2 ∧ (r.1 = w1_houses) ∧ (r.2.1 = w1_front ∧ r.2.2.1 = w1_downFor) ∧ (N6 r.2.2.2.1 = N6 w1_kindOf ∧ N6 r.2.2.2.2.1 = N6 w1_plotOf ∧ N6 r.2.2.2.2.2.1 = N6 w1_row) ∧ (∀ k : Nat, k < 12 → r.2.2.2.2.2.2 k = w1_standsOn k)) (fX6_copyFrom N w1_houses w1_front w1_downFor w1_kindOf w1_plotOf w1_row w1_standsOn v_houses v_front v_downFor v_kindOf v_plotOf v_row v_standsOn) := by
  unfold fX6_copyFrom
  exact ok_s ⟨h_w1_houses, h_w1_front, (RA.cpy h_w1_plotOf h_v_plotOf), (RA.cpy h_w1_row h_v_row), (RA.cpy h_w1_standsOn h_v_standsOn), (by grind), (by grind), ⟨N6_cpy, N6_cpy, N6_cpy⟩, (fun k hk => cpy_at hk)⟩
theorem tX6_nightsFor {N : Nat} {a0 : Int32}  (hN : 49999 < N)   : Ok (fun r => (a0 = 4 ∧ r = 3 ∨ a0 = 1 ∧ r = 2 ∨ (¬ a0 = 4 ∧ ¬ a0 = 1) ∧ r = 1)) (fX6_nightsFor N a0) := by
  unfold fX6_nightsFor
  refine ok_if (fun c_1 => ?_) (fun c_1 => ?_)
  · exact ok_s (by grind)
  · refine ok_if (fun c_2 => ?_) (fun c_2 => ?_)
    · exact ok_s (by grind)
    · exact ok_s (by grind)
theorem tX6_leavePlot {N : Nat} {a1 : Int32} {v_plotOf : (Nat → Int32)} {v_standsOn : (Nat → Int32)}  (hN : 49999 < N) (h_a1 : RB 0 5 a1) (h_v_plotOf : RA (-1) 11 v_plotOf) (h_v_standsOn : RA (-1) 5 v_standsOn)  : Ok (fun r => RA (-1) 11 r.1 ∧ RA (-1) 5 r.2 ∧ (v_plotOf a1.toNatClampNeg = -1 ∧ r.1 = v_plotOf ∧ r.2 = v_standsOn ∨ ¬ v_plotOf a1.toNatClampNeg = -1 ∧ r.1 = upd v_plotOf a1.toNatClampNeg (-1) ∧ r.2 = upd v_standsOn (v_plotOf a1.toNatClampNeg).toNatClampNeg (-1))) (fX6_leavePlot N a1 v_plotOf v_standsOn) := by
  unfold fX6_leavePlot
  refine ok_g (ng6 (by grind)) ?_
  refine ok_if (fun c_1 => ?_) (fun c_1 => ?_)
  · exact ok_s ⟨h_v_plotOf, h_v_standsOn, (by grind)⟩
  · refine ok_g (ng12 (by have := h_v_plotOf ((a1).toNatClampNeg); grind)) ?_
    refine ok_g (ng6 (by grind)) ?_
    exact ok_s ⟨(RA.upd h_v_plotOf (by grind)), (RA.upd h_v_standsOn (by grind)), (by have := h_v_plotOf ((a1).toNatClampNeg); grind)⟩
theorem tX6_takeDown {N : Nat} {v_kindOf : (Nat → Int32)} {a1 : Int32} {v_downFor : Int32} {v_plotOf : (Nat → Int32)} {v_standsOn : (Nat → Int32)}  (hN : 49999 < N) (h_a1 : RB 0 5 a1) (h_v_plotOf : RA (-1) 11 v_plotOf) (h_v_standsOn : RA (-1) 5 v_standsOn)  : Ok (fun r => RA (-1) 11 r.2.1 ∧ RA (-1) 5 r.2.2 ∧ (v_plotOf a1.toNatClampNeg = -1 ∧ r.2.1 = v_plotOf ∧ r.2.2 = v_standsOn ∨ ¬ v_plotOf a1.toNatClampNeg = -1 ∧ r.2.1 = upd v_plotOf a1.toNatClampNeg (-1) ∧ r.2.2 = upd v_standsOn (v_plotOf a1.toNatClampNeg).toNatClampNeg (-1)) ∧ (v_kindOf a1.toNatClampNeg = 4 ∧ r.1 = 2 ∨ v_kindOf a1.toNatClampNeg = 1 ∧ r.1 = 1 ∨ (¬ v_kindOf a1.toNatClampNeg = 4 ∧ ¬ v_kindOf a1.toNatClampNeg = 1) ∧ r.1 = 0)) (fX6_takeDown N v_kindOf a1 v_downFor v_plotOf v_standsOn) := by
  unfold fX6_takeDown
  refine ok_b (tX6_leavePlot hN h_a1 h_v_plotOf h_v_standsOn) (fun x_2 hx => ?_)
  obtain ⟨h_x_2_0, h_x_2_1, h_x_2_2⟩ := hx
  refine ok_g (ng6 (by grind)) ?_
  refine ok_b (tX6_nightsFor hN ) (fun x_12 hx => ?_)
  have h_x_12_0 := hx
  exact ok_s ⟨h_x_2_0, h_x_2_1, h_x_2_2, (by grind)⟩
theorem sX6_freeBeyond_2 {N : Nat} {v_standsOn : (Nat → Int32)} {a1 : Int32} {K_2 : Int32 → Option (Int32)} {l2 : Int32}  {m_2 : Int32} (hN : 49999 < N) (h_v_standsOn : RA (-1) 5 v_standsOn) (h_a1 : RB 0 11 a1) (hK_2 : ∀ (l2 : Int32), 0 ≤ l2 ∧ (1 ≤ l2) ∧ (∀ t : Nat, 1 ≤ t → (t : Int) < l2.toInt → ¬ v_standsOn (pos a1 t).toNatClampNeg = -1) → ((12 : Int32) - l2) < m_2 → 0 < m_2 → Ok (fun r => RB 0 11 r ∧ ((∃ s : Nat, 1 ≤ s ∧ s ≤ 7 ∧ v_standsOn (pos a1 s).toNatClampNeg = -1) → r = sr (fun q => v_standsOn q.toNatClampNeg = -1) 11 a1)) (K_2 l2)) (hI : 0 ≤ l2 ∧ (1 ≤ l2) ∧ (∀ t : Nat, 1 ≤ t → (t : Int) < l2.toInt → ¬ v_standsOn (pos a1 t).toNatClampNeg = -1)) (hm_2 : ((12 : Int32) - l2) = m_2) : Ok (fun r => RB 0 11 r ∧ ((∃ s : Nat, 1 ≤ s ∧ s ≤ 7 ∧ v_standsOn (pos a1 s).toNatClampNeg = -1) → r = sr (fun q => v_standsOn q.toNatClampNeg = -1) 11 a1)) (fX6_freeBeyond_2 N v_standsOn a1 K_2 l2) := by
  obtain ⟨h_l2, e_0, e_1⟩ := hI
  unfold fX6_freeBeyond_2
  refine ok_if (fun c_1 => ?_) (fun c_1 => ?_)
  · exact ok_s ⟨h_a1, (by clear hm_2 hK_2; first | exact fb_end e_1 c_1 | exact fun _ => fb_hit h_a1 (by clear e_1; grind) e_1 c_2)⟩
  · refine ok_g (ng12 (by clear hm_2 hK_2; have := md12 (x := (a1 + l2)) (by grind); grind)) ?_
    refine ok_if (fun c_2 => ?_) (fun c_2 => ?_)
    · exact ok_s ⟨(by clear hm_2 hK_2; have := md12 (x := (a1 + l2)) (by grind); grind), (by clear hm_2 hK_2; first | exact fb_end e_1 c_1 | exact fun _ => fb_hit h_a1 (by clear e_1; grind) e_1 c_2)⟩
    · exact hK_2 _ ⟨(by clear hm_2 hK_2; grind), (by clear hm_2 hK_2; grind), (fb_step h_a1 (by clear hm_2 hK_2 e_1; grind) e_1 c_2)⟩ (by clear hK_2; grind) (by clear hK_2; grind)
theorem lX6_freeBeyond_2 {N : Nat} {v_standsOn : (Nat → Int32)} {a1 : Int32}  (hN : 49999 < N) (h_v_standsOn : RA (-1) 5 v_standsOn) (h_a1 : RB 0 11 a1)  : ∀ (l2 : Int32), 0 ≤ l2 ∧ (1 ≤ l2) ∧ (∀ t : Nat, 1 ≤ t → (t : Int) < l2.toInt → ¬ v_standsOn (pos a1 t).toNatClampNeg = -1) → ((12 : Int32) - l2) ≤ 49999 → Ok (fun r => RB 0 11 r ∧ ((∃ s : Nat, 1 ≤ s ∧ s ≤ 7 ∧ v_standsOn (pos a1 s).toNatClampNeg = -1) → r = sr (fun q => v_standsOn q.toNatClampNeg = -1) 11 a1)) (lfix (fun (K : Int32 → Option (Int32)) (a : Int32) => fX6_freeBeyond_2 N v_standsOn a1 (fun (l2 : Int32) => K l2) a) N (l2)) := by
  intro l2 hI hM
  exact ok_l (I := fun (a : Int32) => (0 ≤ a ∧ (1 ≤ a) ∧ (∀ t : Nat, 1 ≤ t → (t : Int) < a.toInt → ¬ v_standsOn (pos a1 t).toNatClampNeg = -1))) (M := fun (a : Int32) => ((12 : Int32) - a)) (fun K a hI hK => sX6_freeBeyond_2  hN h_v_standsOn h_a1  (fun l2 hI2  hlt hp => hK (l2) hI2 hlt hp) hI  rfl) N _ hI hN hM
theorem tX6_freeBeyond {N : Nat} {v_standsOn : (Nat → Int32)} {a1 : Int32}  (hN : 49999 < N) (h_v_standsOn : RA (-1) 5 v_standsOn) (h_a1 : RB 0 11 a1)  : Ok (fun r => RB 0 11 r ∧ ((∃ s : Nat, 1 ≤ s ∧ s ≤ 7 ∧ v_standsOn (pos a1 s).toNatClampNeg = -1) → r = sr (fun q => v_standsOn q.toNatClampNeg = -1) 11 a1)) (fX6_freeBeyond N v_standsOn a1) := by
  unfold fX6_freeBeyond
  exact lX6_freeBeyond_2  hN h_v_standsOn h_a1  _ ⟨(by grind), (by grind), (fun t t1 t2 => absurd t2 (by have : (1 : Int32).toInt = 1 := rfl; omega))⟩  (by grind)
theorem sX6_moveFirst_58 {N : Nat} {v_houses : Int32} {v_kindOf : (Nat → Int32)} {K_58 : Int32 → Int32 → Int32 → (Nat → Int32) → (Nat → Int32) → (Nat → Int32) → Option (Int32 × (Nat → Int32) × (Nat → Int32) × (Nat → Int32))} {l1 : Int32} {l3 : Int32} {v_front : Int32} {v_row : (Nat → Int32)} {v_standsOn : (Nat → Int32)} {v_plotOf : (Nat → Int32)} {g_v_row : (Nat → Int32)} {g_v_plotOf : (Nat → Int32)} {g_v_standsOn : (Nat → Int32)} {g_v_front : Int32} {m_58 : Int32} (hN : 49999 < N) (h_v_houses : RB 1 6 v_houses) (hK_58 : ∀ (l1 : Int32) (l3 : Int32) (v_front : Int32) (v_row : (Nat → Int32)) (v_standsOn : (Nat → Int32)) (v_plotOf : (Nat → Int32)), RB 0 5 l1 ∧ RB 1 6 l3 ∧ RB 0 11 v_front ∧ RA 0 5 v_row ∧ RA (-1) 5 v_standsOn ∧ RA (-1) 11 v_plotOf ∧ (v_row = rotp l3 g_v_row) ∧ (l1 = g_v_row 0) ∧ (l3 ≤ v_houses) ∧ (SOC v_houses g_v_plotOf g_v_standsOn → RH v_houses g_v_row → v_front = mvq v_houses v_kindOf g_v_front g_v_row g_v_plotOf ∧ v_plotOf = upd g_v_plotOf (g_v_row 0).toNatClampNeg v_front ∧ SOC v_houses v_plotOf v_standsOn) → (v_houses - l3) < m_58 → 0 < m_58 → Ok (fun r => RB 0 11 r.1 ∧ RA 0 5 r.2.1 ∧ RA (-1) 5 r.2.2.1 ∧ RA (-1) 11 r.2.2.2 ∧ (r.2.1 = rot v_houses g_v_row) ∧ (SOC v_houses g_v_plotOf g_v_standsOn → RH v_houses g_v_row → r.1 = mvq v_houses v_kindOf g_v_front g_v_row g_v_plotOf ∧ r.2.2.2 = upd g_v_plotOf (g_v_row 0).toNatClampNeg r.1 ∧ SOC v_houses r.2.2.2 r.2.2.1)) (K_58 l1 l3 v_front v_row v_standsOn v_plotOf)) (hI : RB 0 5 l1 ∧ RB 1 6 l3 ∧ RB 0 11 v_front ∧ RA 0 5 v_row ∧ RA (-1) 5 v_standsOn ∧ RA (-1) 11 v_plotOf ∧ (v_row = rotp l3 g_v_row) ∧ (l1 = g_v_row 0) ∧ (l3 ≤ v_houses) ∧ (SOC v_houses g_v_plotOf g_v_standsOn → RH v_houses g_v_row → v_front = mvq v_houses v_kindOf g_v_front g_v_row g_v_plotOf ∧ v_plotOf = upd g_v_plotOf (g_v_row 0).toNatClampNeg v_front ∧ SOC v_houses v_plotOf v_standsOn)) (hm_58 : (v_houses - l3) = m_58) : Ok (fun r => RB 0 11 r.1 ∧ RA 0 5 r.2.1 ∧ RA (-1) 5 r.2.2.1 ∧ RA (-1) 11 r.2.2.2 ∧ (r.2.1 = rot v_houses g_v_row) ∧ (SOC v_houses g_v_plotOf g_v_standsOn → RH v_houses g_v_row → r.1 = mvq v_houses v_kindOf g_v_front g_v_row g_v_plotOf ∧ r.2.2.2 = upd g_v_plotOf (g_v_row 0).toNatClampNeg r.1 ∧ SOC v_houses r.2.2.2 r.2.2.1)) (fX6_moveFirst_58 N v_houses v_kindOf K_58 l1 l3 v_front v_row v_standsOn v_plotOf) := by
  obtain ⟨h_l1, h_l3, h_v_front, h_v_row, h_v_standsOn, h_v_plotOf, e_0, e_1, e_2, e_3⟩ := hI
  unfold fX6_moveFirst_58
  refine ok_if (fun c_1 => ?_) (fun c_1 => ?_)
  · refine ok_g (ng6 (by clear hm_58 hK_58; grind)) ?_
    exact ok_s ⟨h_v_front, (RA.upd h_v_row (by clear hm_58 hK_58; grind)), h_v_standsOn, h_v_plotOf, (by clear hm_58 hK_58 e_3; rw [e_1]; exact rotp_end (by grind) (by grind) e_0), e_3⟩
  · refine ok_g (ng6 (by clear hm_58 hK_58; grind)) ?_
    refine ok_g (ng6 (by clear hm_58 hK_58; grind)) ?_
    exact hK_58 _ _ _ _ _ _ ⟨h_l1, (by clear hm_58 hK_58; grind), h_v_front, (RA.upd h_v_row (by clear hm_58 hK_58; have := h_v_row ((l3).toNatClampNeg); grind)), h_v_standsOn, h_v_plotOf, (rotp_step (by clear hm_58 hK_58 e_3; grind) e_0), (by clear hm_58 hK_58; grind), (by clear hm_58 hK_58; grind), e_3⟩ (by clear hK_58; grind) (by clear hK_58; grind)
theorem lX6_moveFirst_58 {N : Nat} {v_houses : Int32} {v_kindOf : (Nat → Int32)} {g_v_row : (Nat → Int32)} {g_v_plotOf : (Nat → Int32)} {g_v_standsOn : (Nat → Int32)} {g_v_front : Int32} (hN : 49999 < N) (h_v_houses : RB 1 6 v_houses)  : ∀ (l1 : Int32) (l3 : Int32) (v_front : Int32) (v_row : (Nat → Int32)) (v_standsOn : (Nat → Int32)) (v_plotOf : (Nat → Int32)), RB 0 5 l1 ∧ RB 1 6 l3 ∧ RB 0 11 v_front ∧ RA 0 5 v_row ∧ RA (-1) 5 v_standsOn ∧ RA (-1) 11 v_plotOf ∧ (v_row = rotp l3 g_v_row) ∧ (l1 = g_v_row 0) ∧ (l3 ≤ v_houses) ∧ (SOC v_houses g_v_plotOf g_v_standsOn → RH v_houses g_v_row → v_front = mvq v_houses v_kindOf g_v_front g_v_row g_v_plotOf ∧ v_plotOf = upd g_v_plotOf (g_v_row 0).toNatClampNeg v_front ∧ SOC v_houses v_plotOf v_standsOn) → (v_houses - l3) ≤ 49999 → Ok (fun r => RB 0 11 r.1 ∧ RA 0 5 r.2.1 ∧ RA (-1) 5 r.2.2.1 ∧ RA (-1) 11 r.2.2.2 ∧ (r.2.1 = rot v_houses g_v_row) ∧ (SOC v_houses g_v_plotOf g_v_standsOn → RH v_houses g_v_row → r.1 = mvq v_houses v_kindOf g_v_front g_v_row g_v_plotOf ∧ r.2.2.2 = upd g_v_plotOf (g_v_row 0).toNatClampNeg r.1 ∧ SOC v_houses r.2.2.2 r.2.2.1)) (lfix (fun (K : Int32 × Int32 × Int32 × (Nat → Int32) × (Nat → Int32) × (Nat → Int32) → Option (Int32 × (Nat → Int32) × (Nat → Int32) × (Nat → Int32))) (a : Int32 × Int32 × Int32 × (Nat → Int32) × (Nat → Int32) × (Nat → Int32)) => fX6_moveFirst_58 N v_houses v_kindOf (fun (l1 : Int32) (l3 : Int32) (v_front : Int32) (v_row : (Nat → Int32)) (v_standsOn : (Nat → Int32)) (v_plotOf : (Nat → Int32)) => K (l1, l3, v_front, v_row, v_standsOn, v_plotOf)) a.1 a.2.1 a.2.2.1 a.2.2.2.1 a.2.2.2.2.1 a.2.2.2.2.2) N (l1, l3, v_front, v_row, v_standsOn, v_plotOf)) := by
  intro l1 l3 v_front v_row v_standsOn v_plotOf hI hM
  exact ok_l (I := fun (a : Int32 × Int32 × Int32 × (Nat → Int32) × (Nat → Int32) × (Nat → Int32)) => (RB 0 5 a.1 ∧ RB 1 6 a.2.1 ∧ RB 0 11 a.2.2.1 ∧ RA 0 5 a.2.2.2.1 ∧ RA (-1) 5 a.2.2.2.2.1 ∧ RA (-1) 11 a.2.2.2.2.2 ∧ (a.2.2.2.1 = rotp a.2.1 g_v_row) ∧ (a.1 = g_v_row 0) ∧ (a.2.1 ≤ v_houses) ∧ (SOC v_houses g_v_plotOf g_v_standsOn → RH v_houses g_v_row → a.2.2.1 = mvq v_houses v_kindOf g_v_front g_v_row g_v_plotOf ∧ a.2.2.2.2.2 = upd g_v_plotOf (g_v_row 0).toNatClampNeg a.2.2.1 ∧ SOC v_houses a.2.2.2.2.2 a.2.2.2.2.1))) (M := fun (a : Int32 × Int32 × Int32 × (Nat → Int32) × (Nat → Int32) × (Nat → Int32)) => (v_houses - a.2.1)) (fun K a hI hK => sX6_moveFirst_58 (g_v_row := g_v_row) (g_v_plotOf := g_v_plotOf) (g_v_standsOn := g_v_standsOn) (g_v_front := g_v_front) hN h_v_houses  (fun l1 l3 v_front v_row v_standsOn v_plotOf hI2  hlt hp => hK (l1, l3, v_front, v_row, v_standsOn, v_plotOf) hI2 hlt hp) hI  rfl) N _ hI hN hM
theorem tX6_moveFirst_32 {N : Nat} {v_houses : Int32} {v_kindOf : (Nat → Int32)} {l1 : Int32} {l2 : Int32} {v_front : Int32} {v_row : (Nat → Int32)} {v_standsOn : (Nat → Int32)} {v_plotOf : (Nat → Int32)} {g_v_row : (Nat → Int32)} {g_v_plotOf : (Nat → Int32)} {g_v_standsOn : (Nat → Int32)} {g_v_front : Int32} (hN : 49999 < N) (h_v_houses : RB 1 6 v_houses) (h_l1 : RB 0 5 l1) (h_l2 : RB 0 11 l2) (h_v_front : RB 0 11 v_front) (h_v_row : RA 0 5 v_row) (h_v_standsOn : RA (-1) 5 v_standsOn) (h_v_plotOf : RA (-1) 11 v_plotOf) (e_0 : l1 = g_v_row 0) (e_1 : v_row = g_v_row) (e_2 : v_plotOf = g_v_plotOf) (e_3 : v_standsOn = g_v_standsOn) (e_4 : v_front = g_v_front) (e_5 : SOC v_houses g_v_plotOf g_v_standsOn → l2 = mvq v_houses v_kindOf g_v_front g_v_row g_v_plotOf)  : Ok (fun r => RB 0 11 r.1 ∧ RA 0 5 r.2.1 ∧ RA (-1) 5 r.2.2.1 ∧ RA (-1) 11 r.2.2.2 ∧ (r.2.1 = rot v_houses g_v_row) ∧ (SOC v_houses g_v_plotOf g_v_standsOn → RH v_houses g_v_row → r.1 = mvq v_houses v_kindOf g_v_front g_v_row g_v_plotOf ∧ r.2.2.2 = upd g_v_plotOf (g_v_row 0).toNatClampNeg r.1 ∧ SOC v_houses r.2.2.2 r.2.2.1)) (fX6_moveFirst_32 N v_houses v_kindOf l1 l2 v_front v_row v_standsOn v_plotOf) := by
  unfold fX6_moveFirst_32
  refine ok_b (tX6_leavePlot hN h_l1 h_v_plotOf h_v_standsOn) (fun x_34 hx => ?_)
  obtain ⟨h_x_34_0, h_x_34_1, h_x_34_2⟩ := hx
  refine ok_g (ng6 (by grind)) ?_
  refine ok_g (ng12 (by grind)) ?_
  exact lX6_moveFirst_58 (g_v_row := g_v_row) (g_v_plotOf := g_v_plotOf) (g_v_standsOn := g_v_standsOn) (g_v_front := g_v_front) hN h_v_houses  _ _ _ _ _ _ ⟨h_l1, (by grind), h_l2, h_v_row, (RA.upd h_x_34_1 (by grind)), (RA.upd h_x_34_0 (by grind)), (by rw [e_1]; exact (rotp_1 _).symm), e_0, (by grind), (by subst e_2; subst e_3; subst e_4; exact fun S R => mv_fin S R h_v_plotOf h_v_houses h_v_front e_0 e_5 h_x_34_2)⟩  (by grind)
theorem tX6_moveFirst {N : Nat} {v_houses : Int32} {v_kindOf : (Nat → Int32)} {v_front : Int32} {v_row : (Nat → Int32)} {v_standsOn : (Nat → Int32)} {v_plotOf : (Nat → Int32)}  (hN : 49999 < N) (h_v_houses : RB 1 6 v_houses) (h_v_front : RB 0 11 v_front) (h_v_row : RA 0 5 v_row) (h_v_standsOn : RA (-1) 5 v_standsOn) (h_v_plotOf : RA (-1) 11 v_plotOf)  : Ok (fun r => RB 0 11 r.1 ∧ RA 0 5 r.2.1 ∧ RA (-1) 5 r.2.2.1 ∧ RA (-1) 11 r.2.2.2 ∧ (r.2.1 = rot v_houses v_row) ∧ (SOC v_houses v_plotOf v_standsOn → RH v_houses v_row → r.1 = mvq v_houses v_kindOf v_front v_row v_plotOf ∧ r.2.2.2 = upd v_plotOf (v_row 0).toNatClampNeg r.1 ∧ SOC v_houses r.2.2.2 r.2.2.1)) (fX6_moveFirst N v_houses v_kindOf v_front v_row v_standsOn v_plotOf) := by
  unfold fX6_moveFirst
  refine ok_b (tX6_freeBeyond hN h_v_standsOn h_v_front) (fun x_12 hx => ?_)
  obtain ⟨h_x_12_0, h_x_12_1⟩ := hx
  refine ok_g (ng6 (by have := h_v_row (((0 : Int32)).toNatClampNeg); grind)) ?_
  refine ok_if (fun c_1 => ?_) (fun c_1 => ?_)
  · refine ok_b (tX6_freeBeyond hN h_v_standsOn h_x_12_0) (fun x_28 hx => ?_)
    obtain ⟨h_x_28_0, h_x_28_1⟩ := hx
    exact tX6_moveFirst_32 (g_v_row := v_row) (g_v_plotOf := v_plotOf) (g_v_standsOn := v_standsOn) (g_v_front := v_front) hN h_v_houses (by have := h_v_row (((0 : Int32)).toNatClampNeg); grind) h_x_28_0 h_v_front h_v_row h_v_standsOn h_v_plotOf rfl (by grind) (by grind) (by grind) (by grind) (fun S => by first | exact mv_shop S h_v_front h_x_12_0 h_v_houses.2 c_1 h_x_12_1 h_x_28_1 | exact mv_one S h_v_front h_v_houses.2 c_1 h_x_12_1) 
  · exact tX6_moveFirst_32 (g_v_row := v_row) (g_v_plotOf := v_plotOf) (g_v_standsOn := v_standsOn) (g_v_front := v_front) hN h_v_houses (by have := h_v_row (((0 : Int32)).toNatClampNeg); grind) h_x_12_0 h_v_front h_v_row h_v_standsOn h_v_plotOf rfl (by grind) (by grind) (by grind) (by grind) (fun S => by first | exact mv_shop S h_v_front h_x_12_0 h_v_houses.2 c_1 h_x_12_1 h_x_28_1 | exact mv_one S h_v_front h_v_houses.2 c_1 h_x_12_1)
theorem tX6_turn_54 {N : Nat} {v_houses : Int32} {v_kindOf : (Nat → Int32)} {l1 : Int32} {v_front : Int32} {v_downFor : Int32} {v_row : (Nat → Int32)} {v_plotOf : (Nat → Int32)} {v_standsOn : (Nat → Int32)} {g_v_downFor : Int32} {g_v_row : (Nat → Int32)} {g_v_plotOf : (Nat → Int32)} {g_v_standsOn : (Nat → Int32)} {g_v_front : Int32} (hN : 49999 < N) (h_v_houses : RB 1 6 v_houses) (h_l1 : RB 0 5 l1) (h_v_front : RB 0 11 v_front) (h_v_row : RA 0 5 v_row) (h_v_plotOf : RA (-1) 11 v_plotOf) (h_v_standsOn : RA (-1) 5 v_standsOn) (e_0 : l1 = g_v_row 0) (e_1 : v_row = g_v_row) (e_2 : v_plotOf = g_v_plotOf) (e_3 : v_standsOn = g_v_standsOn) (e_4 : v_front = g_v_front) (e_5 : v_downFor = g_v_downFor) (e_6 : v_downFor ≤ 1 ∧ (v_downFor = 0 → ¬ v_kindOf l1.toNatClampNeg = 1 ∧ ¬ v_kindOf l1.toNatClampNeg = 4))  : Ok (fun r => RB 0 11 r.2.1 ∧ RA 0 5 r.2.2.2.1 ∧ RA (-1) 11 r.2.2.2.2.1 ∧ RA (-1) 5 r.2.2.2.2.2 ∧ (TWN v_houses v_kindOf g_v_downFor g_v_row g_v_plotOf g_v_standsOn → r.1 = tnM v_kindOf g_v_downFor g_v_row ∧ (r.2.1, r.2.2.1, r.2.2.2.1, r.2.2.2.2.1) = tnS v_houses v_kindOf (g_v_front, g_v_downFor, g_v_row, g_v_plotOf) ∧ TWN v_houses v_kindOf r.2.2.1 r.2.2.2.1 r.2.2.2.2.1 r.2.2.2.2.2)) (fX6_turn_54 N v_houses v_kindOf l1 v_front v_downFor v_row v_plotOf v_standsOn) := by
  unfold fX6_turn_54
  refine ok_b (tX6_moveFirst hN h_v_houses h_v_front h_v_row h_v_standsOn h_v_plotOf) (fun x_60 hx => ?_)
  obtain ⟨h_x_60_0, h_x_60_1, h_x_60_2, h_x_60_3, h_x_60_4, h_x_60_5⟩ := hx
  refine ok_g (ng6 (by grind)) ?_
  refine ok_if (fun c_1 => ?_) (fun c_1 => ?_)
  · refine ok_b (tX6_moveFirst hN h_v_houses h_x_60_0 h_x_60_1 h_x_60_2 h_x_60_3) (fun x_76 hx => ?_)
    obtain ⟨h_x_76_0, h_x_76_1, h_x_76_2, h_x_76_3, h_x_76_4, h_x_76_5⟩ := hx
    exact ok_s ⟨h_x_76_0, h_x_76_1, h_x_76_3, h_x_76_2, (by subst e_0; subst e_1; subst e_2; subst e_3; subst e_4; subst e_5; intro T; first | exact tn_mv2 T h_v_houses e_6 c_1 h_x_60_4 h_x_60_5 h_x_76_4 h_x_76_5 | exact tn_mv1 T h_v_houses e_6 c_1 h_x_60_4 h_x_60_5)⟩
  · exact ok_s ⟨h_x_60_0, h_x_60_1, h_x_60_3, h_x_60_2, (by subst e_0; subst e_1; subst e_2; subst e_3; subst e_4; subst e_5; intro T; first | exact tn_mv2 T h_v_houses e_6 c_1 h_x_60_4 h_x_60_5 h_x_76_4 h_x_76_5 | exact tn_mv1 T h_v_houses e_6 c_1 h_x_60_4 h_x_60_5)⟩
theorem tX6_turn {N : Nat} {v_houses : Int32} {v_kindOf : (Nat → Int32)} {v_front : Int32} {v_downFor : Int32} {v_row : (Nat → Int32)} {v_plotOf : (Nat → Int32)} {v_standsOn : (Nat → Int32)}  (hN : 49999 < N) (h_v_houses : RB 1 6 v_houses) (h_v_front : RB 0 11 v_front) (h_v_row : RA 0 5 v_row) (h_v_plotOf : RA (-1) 11 v_plotOf) (h_v_standsOn : RA (-1) 5 v_standsOn)  : Ok (fun r => RB 0 11 r.2.1 ∧ RA 0 5 r.2.2.2.1 ∧ RA (-1) 11 r.2.2.2.2.1 ∧ RA (-1) 5 r.2.2.2.2.2 ∧ (TWN v_houses v_kindOf v_downFor v_row v_plotOf v_standsOn → r.1 = tnM v_kindOf v_downFor v_row ∧ (r.2.1, r.2.2.1, r.2.2.2.1, r.2.2.2.2.1) = tnS v_houses v_kindOf (v_front, v_downFor, v_row, v_plotOf) ∧ TWN v_houses v_kindOf r.2.2.1 r.2.2.2.1 r.2.2.2.2.1 r.2.2.2.2.2)) (fX6_turn N v_houses v_kindOf v_front v_downFor v_row v_plotOf v_standsOn) := by
  unfold fX6_turn
  refine ok_if (fun c_1 => ?_) (fun c_1 => ?_)
  · refine ok_if (fun c_2 => ?_) (fun c_2 => ?_)
    · refine ok_g (ng6 (by have := h_v_row (((0 : Int32)).toNatClampNeg); grind)) ?_
      refine ok_b (tX6_nightsFor hN ) (fun x_40 hx => ?_)
      have h_x_40_0 := hx
      refine ok_if (fun c_3 => ?_) (fun c_3 => ?_)
      · exact tX6_turn_54 (g_v_downFor := v_downFor) (g_v_row := v_row) (g_v_plotOf := v_plotOf) (g_v_standsOn := v_standsOn) (g_v_front := v_front) hN h_v_houses (by have := h_v_row (((0 : Int32)).toNatClampNeg); grind) h_v_front h_v_row h_v_plotOf h_v_standsOn rfl (by grind) (by grind) (by grind) (by grind) (by grind) (by have := h_v_row (((0 : Int32)).toNatClampNeg); grind)
      · refine ok_b (tX6_takeDown hN (by have := h_v_row (((0 : Int32)).toNatClampNeg); grind) h_v_plotOf h_v_standsOn) (fun x_49 hx => ?_)
        obtain ⟨h_x_49_0, h_x_49_1, h_x_49_2, h_x_49_3⟩ := hx
        exact ok_s ⟨h_v_front, h_v_row, h_x_49_0, h_x_49_1, (by intro T; first | exact tn_wait T c_1 | exact tn_down T h_v_plotOf h_v_houses c_2 (by grind) h_x_49_2)⟩
    · exact tX6_turn_54 (g_v_downFor := v_downFor) (g_v_row := v_row) (g_v_plotOf := v_plotOf) (g_v_standsOn := v_standsOn) (g_v_front := v_front) hN h_v_houses (by have := h_v_row (((0 : Int32)).toNatClampNeg); grind) h_v_front h_v_row h_v_plotOf h_v_standsOn rfl (by grind) (by grind) (by grind) (by grind) (by grind) (by have := h_v_row (((0 : Int32)).toNatClampNeg); grind)
  · exact ok_s ⟨h_v_front, h_v_row, h_v_plotOf, h_v_standsOn, (by intro T; first | exact tn_wait T c_1 | exact tn_down T h_v_plotOf h_v_houses c_2 (by grind) h_x_49_2)⟩
theorem sX1_follow_39 {N : Nat} {w2_houses : Int32} {w2_front : Int32} {w2_downFor : Int32} {w2_kindOf : (Nat → Int32)} {w2_plotOf : (Nat → Int32)} {w2_row : (Nat → Int32)} {w2_standsOn : (Nat → Int32)} {a1 : Int32} {a3 : Int32} {K_11 : Int32 → Int32 → Int32 → Int32 → Int32 → (Nat → Int32) → (Nat → Int32) → (Nat → Int32) → (Nat → Int32) → (Nat → Int32) → (Nat → Int32) → (Nat → Int32) → (Nat → Int32) → (Nat → Int32) → Option (Int32 × Int32 × Int32 × (Nat → Int32) × (Nat → Int32) × (Nat → Int32) × (Nat → Int32) × (Nat → Int32) × (Nat → Int32) × (Nat → Int32) × (Nat → Int32) × (Nat → Int32))} {K_39 : Int32 → Int32 → Int32 → Int32 → Int32 → Int32 → (Nat → Int32) → (Nat → Int32) → (Nat → Int32) → (Nat → Int32) → (Nat → Int32) → (Nat → Int32) → (Nat → Int32) → (Nat → Int32) → (Nat → Int32) → Option (Int32 × Int32 × Int32 × (Nat → Int32) × (Nat → Int32) × (Nat → Int32) × (Nat → Int32) × (Nat → Int32) × (Nat → Int32) × (Nat → Int32) × (Nat → Int32) × (Nat → Int32))} {l4 : Int32} {l5 : Int32} {l6 : Int32} {v_town_houses : Int32} {v_town_front : Int32} {v_town_downFor : Int32} {v_town_kindOf : (Nat → Int32)} {v_town_plotOf : (Nat → Int32)} {v_town_row : (Nat → Int32)} {v_town_standsOn : (Nat → Int32)} {v_track_0 : (Nat → Int32)} {v_track_1 : (Nat → Int32)} {v_track_2 : (Nat → Int32)} {v_track_3 : (Nat → Int32)} {v_track_4 : (Nat → Int32)}  {m_11 : Int32} {m_39 : Int32} (hN : 49999 < N) (h_w2_houses : RB 1 6 w2_houses) (h_w2_front : RB 0 11 w2_front) (h_w2_plotOf : RA (-1) 11 w2_plotOf) (h_w2_row : RA 0 5 w2_row) (h_w2_standsOn : RA (-1) 5 w2_standsOn) (h_a1 : RB 0 5 a1) (h_a3 : RB 0 40 a3) (hK_11 : ∀ (l4 : Int32) (l5 : Int32) (v_town_houses : Int32) (v_town_front : Int32) (v_town_downFor : Int32) (v_town_kindOf : (Nat → Int32)) (v_town_plotOf : (Nat → Int32)) (v_town_row : (Nat → Int32)) (v_town_standsOn : (Nat → Int32)) (v_track_0 : (Nat → Int32)) (v_track_1 : (Nat → Int32)) (v_track_2 : (Nat → Int32)) (v_track_3 : (Nat → Int32)) (v_track_4 : (Nat → Int32)), RB 0 40 l4 ∧ RB 0 6 v_town_houses ∧ RB 0 11 v_town_front ∧ RA (-1) 11 v_town_plotOf ∧ RA 0 5 v_town_row ∧ RA (-1) 5 v_town_standsOn ∧ 0 ≤ l5 → ((5 : Int32) - l5) < m_11 → 0 < m_11 → Ok (fun r => RB 0 6 r.1 ∧ RB 0 11 r.2.1 ∧ RA (-1) 11 r.2.2.2.2.1 ∧ RA 0 5 r.2.2.2.2.2.1 ∧ RA (-1) 5 r.2.2.2.2.2.2.1) (K_11 l4 l5 v_town_houses v_town_front v_town_downFor v_town_kindOf v_town_plotOf v_town_row v_town_standsOn v_track_0 v_track_1 v_track_2 v_track_3 v_track_4)) (hK_39 : ∀ (l4 : Int32) (l5 : Int32) (l6 : Int32) (v_town_houses : Int32) (v_town_front : Int32) (v_town_downFor : Int32) (v_town_kindOf : (Nat → Int32)) (v_town_plotOf : (Nat → Int32)) (v_town_row : (Nat → Int32)) (v_town_standsOn : (Nat → Int32)) (v_track_0 : (Nat → Int32)) (v_track_1 : (Nat → Int32)) (v_track_2 : (Nat → Int32)) (v_track_3 : (Nat → Int32)) (v_track_4 : (Nat → Int32)), RB 0 40 l4 ∧ RB 0 4 l5 ∧ RB 1 41 l6 ∧ RB 1 6 v_town_houses ∧ RB 0 11 v_town_front ∧ RA (-1) 11 v_town_plotOf ∧ RA 0 5 v_town_row ∧ RA (-1) 5 v_town_standsOn → ((5 : Int32) - l5) ≤ m_11 → (l4 + 1 - l6) < m_39 → 0 < m_39 → Ok (fun r => RB 0 6 r.1 ∧ RB 0 11 r.2.1 ∧ RA (-1) 11 r.2.2.2.2.1 ∧ RA 0 5 r.2.2.2.2.2.1 ∧ RA (-1) 5 r.2.2.2.2.2.2.1) (K_39 l4 l5 l6 v_town_houses v_town_front v_town_downFor v_town_kindOf v_town_plotOf v_town_row v_town_standsOn v_track_0 v_track_1 v_track_2 v_track_3 v_track_4)) (hI : RB 0 40 l4 ∧ RB 0 4 l5 ∧ RB 1 41 l6 ∧ RB 1 6 v_town_houses ∧ RB 0 11 v_town_front ∧ RA (-1) 11 v_town_plotOf ∧ RA 0 5 v_town_row ∧ RA (-1) 5 v_town_standsOn) (hm_11 : ((5 : Int32) - l5) ≤ m_11) (hm_39 : (l4 + 1 - l6) = m_39) : Ok (fun r => RB 0 6 r.1 ∧ RB 0 11 r.2.1 ∧ RA (-1) 11 r.2.2.2.2.1 ∧ RA 0 5 r.2.2.2.2.2.1 ∧ RA (-1) 5 r.2.2.2.2.2.2.1) (fX1_follow_39 N w2_houses w2_front w2_downFor w2_kindOf w2_plotOf w2_row w2_standsOn a1 a3 K_11 K_39 l4 l5 l6 v_town_houses v_town_front v_town_downFor v_town_kindOf v_town_plotOf v_town_row v_town_standsOn v_track_0 v_track_1 v_track_2 v_track_3 v_track_4) := by
  obtain ⟨h_l4, h_l5, h_l6, h_v_town_houses, h_v_town_front, h_v_town_plotOf, h_v_town_row, h_v_town_standsOn⟩ := hI
  unfold fX1_follow_39
  refine ok_if (fun c_1 => ?_) (fun c_1 => ?_)
  · exact hK_11 _ _ _ _ _ _ _ _ _ _ _ _ _ _ ⟨h_l4, (by clear hm_39 hm_11 hK_39 hK_11; grind), h_v_town_front, h_v_town_plotOf, h_v_town_row, h_v_town_standsOn, (by clear hm_39 hm_11 hK_39 hK_11; grind)⟩ (by clear hm_39 hK_39 hK_11; grind) (by clear hm_39 hK_39 hK_11; grind)
  · refine ok_b (tX6_turn hN h_v_town_houses h_v_town_front h_v_town_row h_v_town_plotOf h_v_town_standsOn) (fun x_50 hx => ?_)
    obtain ⟨h_x_50_0, h_x_50_1, h_x_50_2, h_x_50_3, h_x_50_4⟩ := hx
    refine ok_g (ng5 (by clear hm_39 hm_11 hK_39 hK_11; grind)) ?_
    refine ok_if (fun c_2 => ?_) (fun c_2 => ?_)
    · refine ok_g (ng6 (by clear hm_39 hm_11 hK_39 hK_11; grind)) ?_
      refine ok_g (ng41 (by clear hm_39 hm_11 hK_39 hK_11; grind)) ?_
      exact hK_39 _ _ _ _ _ _ _ _ _ _ _ _ _ _ _ ⟨h_l4, h_l5, (by clear hm_39 hm_11 hK_39 hK_11; grind), h_v_town_houses, h_x_50_0, h_x_50_2, h_x_50_1, h_x_50_3⟩ (by clear hm_39 hK_39 hK_11; grind) (by clear hm_11 hK_39 hK_11; grind) (by clear hm_11 hK_39 hK_11; grind)
    · refine ok_if (fun c_3 => ?_) (fun c_3 => ?_)
      · refine ok_g (ng6 (by clear hm_39 hm_11 hK_39 hK_11; grind)) ?_
        refine ok_g (ng41 (by clear hm_39 hm_11 hK_39 hK_11; grind)) ?_
        exact hK_39 _ _ _ _ _ _ _ _ _ _ _ _ _ _ _ ⟨h_l4, h_l5, (by clear hm_39 hm_11 hK_39 hK_11; grind), h_v_town_houses, h_x_50_0, h_x_50_2, h_x_50_1, h_x_50_3⟩ (by clear hm_39 hK_39 hK_11; grind) (by clear hm_11 hK_39 hK_11; grind) (by clear hm_11 hK_39 hK_11; grind)
      · refine ok_if (fun c_4 => ?_) (fun c_4 => ?_)
        · refine ok_g (ng6 (by clear hm_39 hm_11 hK_39 hK_11; grind)) ?_
          refine ok_g (ng41 (by clear hm_39 hm_11 hK_39 hK_11; grind)) ?_
          exact hK_39 _ _ _ _ _ _ _ _ _ _ _ _ _ _ _ ⟨h_l4, h_l5, (by clear hm_39 hm_11 hK_39 hK_11; grind), h_v_town_houses, h_x_50_0, h_x_50_2, h_x_50_1, h_x_50_3⟩ (by clear hm_39 hK_39 hK_11; grind) (by clear hm_11 hK_39 hK_11; grind) (by clear hm_11 hK_39 hK_11; grind)
        · refine ok_if (fun c_5 => ?_) (fun c_5 => ?_)
          · refine ok_g (ng6 (by clear hm_39 hm_11 hK_39 hK_11; grind)) ?_
            refine ok_g (ng41 (by clear hm_39 hm_11 hK_39 hK_11; grind)) ?_
            exact hK_39 _ _ _ _ _ _ _ _ _ _ _ _ _ _ _ ⟨h_l4, h_l5, (by clear hm_39 hm_11 hK_39 hK_11; grind), h_v_town_houses, h_x_50_0, h_x_50_2, h_x_50_1, h_x_50_3⟩ (by clear hm_39 hK_39 hK_11; grind) (by clear hm_11 hK_39 hK_11; grind) (by clear hm_11 hK_39 hK_11; grind)
          · refine ok_n (by clear hm_39 hm_11 hK_39 hK_11; grind) ?_
            refine ok_g (ng6 (by clear hm_39 hm_11 hK_39 hK_11; grind)) ?_
            refine ok_g (ng41 (by clear hm_39 hm_11 hK_39 hK_11; grind)) ?_
            exact hK_39 _ _ _ _ _ _ _ _ _ _ _ _ _ _ _ ⟨h_l4, h_l5, (by clear hm_39 hm_11 hK_39 hK_11; grind), h_v_town_houses, h_x_50_0, h_x_50_2, h_x_50_1, h_x_50_3⟩ (by clear hm_39 hK_39 hK_11; grind) (by clear hm_11 hK_39 hK_11; grind) (by clear hm_11 hK_39 hK_11; grind)
theorem lX1_follow_39 {N : Nat} {w2_houses : Int32} {w2_front : Int32} {w2_downFor : Int32} {w2_kindOf : (Nat → Int32)} {w2_plotOf : (Nat → Int32)} {w2_row : (Nat → Int32)} {w2_standsOn : (Nat → Int32)} {a1 : Int32} {a3 : Int32} {K_11 : Int32 → Int32 → Int32 → Int32 → Int32 → (Nat → Int32) → (Nat → Int32) → (Nat → Int32) → (Nat → Int32) → (Nat → Int32) → (Nat → Int32) → (Nat → Int32) → (Nat → Int32) → (Nat → Int32) → Option (Int32 × Int32 × Int32 × (Nat → Int32) × (Nat → Int32) × (Nat → Int32) × (Nat → Int32) × (Nat → Int32) × (Nat → Int32) × (Nat → Int32) × (Nat → Int32) × (Nat → Int32))}  {m_11 : Int32} (hN : 49999 < N) (h_w2_houses : RB 1 6 w2_houses) (h_w2_front : RB 0 11 w2_front) (h_w2_plotOf : RA (-1) 11 w2_plotOf) (h_w2_row : RA 0 5 w2_row) (h_w2_standsOn : RA (-1) 5 w2_standsOn) (h_a1 : RB 0 5 a1) (h_a3 : RB 0 40 a3) (hK_11 : ∀ (l4 : Int32) (l5 : Int32) (v_town_houses : Int32) (v_town_front : Int32) (v_town_downFor : Int32) (v_town_kindOf : (Nat → Int32)) (v_town_plotOf : (Nat → Int32)) (v_town_row : (Nat → Int32)) (v_town_standsOn : (Nat → Int32)) (v_track_0 : (Nat → Int32)) (v_track_1 : (Nat → Int32)) (v_track_2 : (Nat → Int32)) (v_track_3 : (Nat → Int32)) (v_track_4 : (Nat → Int32)), RB 0 40 l4 ∧ RB 0 6 v_town_houses ∧ RB 0 11 v_town_front ∧ RA (-1) 11 v_town_plotOf ∧ RA 0 5 v_town_row ∧ RA (-1) 5 v_town_standsOn ∧ 0 ≤ l5 → ((5 : Int32) - l5) < m_11 → 0 < m_11 → Ok (fun r => RB 0 6 r.1 ∧ RB 0 11 r.2.1 ∧ RA (-1) 11 r.2.2.2.2.1 ∧ RA 0 5 r.2.2.2.2.2.1 ∧ RA (-1) 5 r.2.2.2.2.2.2.1) (K_11 l4 l5 v_town_houses v_town_front v_town_downFor v_town_kindOf v_town_plotOf v_town_row v_town_standsOn v_track_0 v_track_1 v_track_2 v_track_3 v_track_4)) : ∀ (l4 : Int32) (l5 : Int32) (l6 : Int32) (v_town_houses : Int32) (v_town_front : Int32) (v_town_downFor : Int32) (v_town_kindOf : (Nat → Int32)) (v_town_plotOf : (Nat → Int32)) (v_town_row : (Nat → Int32)) (v_town_standsOn : (Nat → Int32)) (v_track_0 : (Nat → Int32)) (v_track_1 : (Nat → Int32)) (v_track_2 : (Nat → Int32)) (v_track_3 : (Nat → Int32)) (v_track_4 : (Nat → Int32)), RB 0 40 l4 ∧ RB 0 4 l5 ∧ RB 1 41 l6 ∧ RB 1 6 v_town_houses ∧ RB 0 11 v_town_front ∧ RA (-1) 11 v_town_plotOf ∧ RA 0 5 v_town_row ∧ RA (-1) 5 v_town_standsOn → ((5 : Int32) - l5) ≤ m_11 → (l4 + 1 - l6) ≤ 49999 → Ok (fun r => RB 0 6 r.1 ∧ RB 0 11 r.2.1 ∧ RA (-1) 11 r.2.2.2.2.1 ∧ RA 0 5 r.2.2.2.2.2.1 ∧ RA (-1) 5 r.2.2.2.2.2.2.1) (lfix (fun (K : Int32 × Int32 × Int32 × Int32 × Int32 × Int32 × (Nat → Int32) × (Nat → Int32) × (Nat → Int32) × (Nat → Int32) × (Nat → Int32) × (Nat → Int32) × (Nat → Int32) × (Nat → Int32) × (Nat → Int32) → Option (Int32 × Int32 × Int32 × (Nat → Int32) × (Nat → Int32) × (Nat → Int32) × (Nat → Int32) × (Nat → Int32) × (Nat → Int32) × (Nat → Int32) × (Nat → Int32) × (Nat → Int32))) (a : Int32 × Int32 × Int32 × Int32 × Int32 × Int32 × (Nat → Int32) × (Nat → Int32) × (Nat → Int32) × (Nat → Int32) × (Nat → Int32) × (Nat → Int32) × (Nat → Int32) × (Nat → Int32) × (Nat → Int32)) => fX1_follow_39 N w2_houses w2_front w2_downFor w2_kindOf w2_plotOf w2_row w2_standsOn a1 a3 K_11 (fun (l4 : Int32) (l5 : Int32) (l6 : Int32) (v_town_houses : Int32) (v_town_front : Int32) (v_town_downFor : Int32) (v_town_kindOf : (Nat → Int32)) (v_town_plotOf : (Nat → Int32)) (v_town_row : (Nat → Int32)) (v_town_standsOn : (Nat → Int32)) (v_track_0 : (Nat → Int32)) (v_track_1 : (Nat → Int32)) (v_track_2 : (Nat → Int32)) (v_track_3 : (Nat → Int32)) (v_track_4 : (Nat → Int32)) => K (l4, l5, l6, v_town_houses, v_town_front, v_town_downFor, v_town_kindOf, v_town_plotOf, v_town_row, v_town_standsOn, v_track_0, v_track_1, v_track_2, v_track_3, v_track_4)) a.1 a.2.1 a.2.2.1 a.2.2.2.1 a.2.2.2.2.1 a.2.2.2.2.2.1 a.2.2.2.2.2.2.1 a.2.2.2.2.2.2.2.1 a.2.2.2.2.2.2.2.2.1 a.2.2.2.2.2.2.2.2.2.1 a.2.2.2.2.2.2.2.2.2.2.1 a.2.2.2.2.2.2.2.2.2.2.2.1 a.2.2.2.2.2.2.2.2.2.2.2.2.1 a.2.2.2.2.2.2.2.2.2.2.2.2.2.1 a.2.2.2.2.2.2.2.2.2.2.2.2.2.2) N (l4, l5, l6, v_town_houses, v_town_front, v_town_downFor, v_town_kindOf, v_town_plotOf, v_town_row, v_town_standsOn, v_track_0, v_track_1, v_track_2, v_track_3, v_track_4)) := by
  intro l4 l5 l6 v_town_houses v_town_front v_town_downFor v_town_kindOf v_town_plotOf v_town_row v_town_standsOn v_track_0 v_track_1 v_track_2 v_track_3 v_track_4 hI hm_11 hM
  exact ok_l (I := fun (a : Int32 × Int32 × Int32 × Int32 × Int32 × Int32 × (Nat → Int32) × (Nat → Int32) × (Nat → Int32) × (Nat → Int32) × (Nat → Int32) × (Nat → Int32) × (Nat → Int32) × (Nat → Int32) × (Nat → Int32)) => (RB 0 40 a.1 ∧ RB 0 4 a.2.1 ∧ RB 1 41 a.2.2.1 ∧ RB 1 6 a.2.2.2.1 ∧ RB 0 11 a.2.2.2.2.1 ∧ RA (-1) 11 a.2.2.2.2.2.2.2.1 ∧ RA 0 5 a.2.2.2.2.2.2.2.2.1 ∧ RA (-1) 5 a.2.2.2.2.2.2.2.2.2.1) ∧ ((5 : Int32) - a.2.1) ≤ m_11) (M := fun (a : Int32 × Int32 × Int32 × Int32 × Int32 × Int32 × (Nat → Int32) × (Nat → Int32) × (Nat → Int32) × (Nat → Int32) × (Nat → Int32) × (Nat → Int32) × (Nat → Int32) × (Nat → Int32) × (Nat → Int32)) => (a.1 + 1 - a.2.2.1)) (fun K a hI hK => sX1_follow_39  hN h_w2_houses h_w2_front h_w2_plotOf h_w2_row h_w2_standsOn h_a1 h_a3 hK_11 (fun l4 l5 l6 v_town_houses v_town_front v_town_downFor v_town_kindOf v_town_plotOf v_town_row v_town_standsOn v_track_0 v_track_1 v_track_2 v_track_3 v_track_4 hI2 q_11 hlt hp => hK (l4, l5, l6, v_town_houses, v_town_front, v_town_downFor, v_town_kindOf, v_town_plotOf, v_town_row, v_town_standsOn, v_track_0, v_track_1, v_track_2, v_track_3, v_track_4) ⟨hI2, q_11⟩ hlt hp) hI.1 hI.2 rfl) N _ ⟨hI, hm_11⟩ hN hM
theorem sX1_follow_11 {N : Nat} {w2_houses : Int32} {w2_front : Int32} {w2_downFor : Int32} {w2_kindOf : (Nat → Int32)} {w2_plotOf : (Nat → Int32)} {w2_row : (Nat → Int32)} {w2_standsOn : (Nat → Int32)} {a1 : Int32} {a3 : Int32} {K_11 : Int32 → Int32 → Int32 → Int32 → Int32 → (Nat → Int32) → (Nat → Int32) → (Nat → Int32) → (Nat → Int32) → (Nat → Int32) → (Nat → Int32) → (Nat → Int32) → (Nat → Int32) → (Nat → Int32) → Option (Int32 × Int32 × Int32 × (Nat → Int32) × (Nat → Int32) × (Nat → Int32) × (Nat → Int32) × (Nat → Int32) × (Nat → Int32) × (Nat → Int32) × (Nat → Int32) × (Nat → Int32))} {l4 : Int32} {l5 : Int32} {v_town_houses : Int32} {v_town_front : Int32} {v_town_downFor : Int32} {v_town_kindOf : (Nat → Int32)} {v_town_plotOf : (Nat → Int32)} {v_town_row : (Nat → Int32)} {v_town_standsOn : (Nat → Int32)} {v_track_0 : (Nat → Int32)} {v_track_1 : (Nat → Int32)} {v_track_2 : (Nat → Int32)} {v_track_3 : (Nat → Int32)} {v_track_4 : (Nat → Int32)}  {m_11 : Int32} (hN : 49999 < N) (h_w2_houses : RB 1 6 w2_houses) (h_w2_front : RB 0 11 w2_front) (h_w2_plotOf : RA (-1) 11 w2_plotOf) (h_w2_row : RA 0 5 w2_row) (h_w2_standsOn : RA (-1) 5 w2_standsOn) (h_a1 : RB 0 5 a1) (h_a3 : RB 0 40 a3) (hK_11 : ∀ (l4 : Int32) (l5 : Int32) (v_town_houses : Int32) (v_town_front : Int32) (v_town_downFor : Int32) (v_town_kindOf : (Nat → Int32)) (v_town_plotOf : (Nat → Int32)) (v_town_row : (Nat → Int32)) (v_town_standsOn : (Nat → Int32)) (v_track_0 : (Nat → Int32)) (v_track_1 : (Nat → Int32)) (v_track_2 : (Nat → Int32)) (v_track_3 : (Nat → Int32)) (v_track_4 : (Nat → Int32)), RB 0 40 l4 ∧ RB 0 6 v_town_houses ∧ RB 0 11 v_town_front ∧ RA (-1) 11 v_town_plotOf ∧ RA 0 5 v_town_row ∧ RA (-1) 5 v_town_standsOn ∧ 0 ≤ l5 → ((5 : Int32) - l5) < m_11 → 0 < m_11 → Ok (fun r => RB 0 6 r.1 ∧ RB 0 11 r.2.1 ∧ RA (-1) 11 r.2.2.2.2.1 ∧ RA 0 5 r.2.2.2.2.2.1 ∧ RA (-1) 5 r.2.2.2.2.2.2.1) (K_11 l4 l5 v_town_houses v_town_front v_town_downFor v_town_kindOf v_town_plotOf v_town_row v_town_standsOn v_track_0 v_track_1 v_track_2 v_track_3 v_track_4)) (hI : RB 0 40 l4 ∧ RB 0 6 v_town_houses ∧ RB 0 11 v_town_front ∧ RA (-1) 11 v_town_plotOf ∧ RA 0 5 v_town_row ∧ RA (-1) 5 v_town_standsOn ∧ 0 ≤ l5) (hm_11 : ((5 : Int32) - l5) = m_11) : Ok (fun r => RB 0 6 r.1 ∧ RB 0 11 r.2.1 ∧ RA (-1) 11 r.2.2.2.2.1 ∧ RA 0 5 r.2.2.2.2.2.1 ∧ RA (-1) 5 r.2.2.2.2.2.2.1) (fX1_follow_11 N w2_houses w2_front w2_downFor w2_kindOf w2_plotOf w2_row w2_standsOn a1 a3 K_11 l4 l5 v_town_houses v_town_front v_town_downFor v_town_kindOf v_town_plotOf v_town_row v_town_standsOn v_track_0 v_track_1 v_track_2 v_track_3 v_track_4) := by
  obtain ⟨h_l4, h_v_town_houses, h_v_town_front, h_v_town_plotOf, h_v_town_row, h_v_town_standsOn, h_l5⟩ := hI
  unfold fX1_follow_11
  refine ok_if (fun c_1 => ?_) (fun c_1 => ?_)
  · exact ok_s ⟨h_v_town_houses, h_v_town_front, h_v_town_plotOf, h_v_town_row, h_v_town_standsOn⟩
  · refine ok_b (tX6_copyFrom hN (by clear hm_11 hK_11; grind) h_w2_front h_w2_plotOf h_w2_row h_w2_standsOn h_v_town_houses h_v_town_front h_v_town_plotOf h_v_town_row h_v_town_standsOn) (fun x_22 hx => ?_)
    obtain ⟨h_x_22_0, h_x_22_1, h_x_22_2, h_x_22_3, h_x_22_4, h_x_22_5, h_x_22_6, h_x_22_7, h_x_22_8⟩ := hx
    refine ok_g (ng6 (by clear hm_11 hK_11; grind)) ?_
    exact lX1_follow_39  hN h_w2_houses h_w2_front h_w2_plotOf h_w2_row h_w2_standsOn h_a1 h_a3 hK_11 _ _ _ _ _ _ _ _ _ _ _ _ _ _ _ ⟨h_l4, (by clear hm_11 hK_11; grind), (by clear hm_11 hK_11; grind), (by clear hm_11 hK_11; grind), h_x_22_1, h_x_22_2, h_x_22_3, h_x_22_4⟩ (by clear hK_11; grind) (by clear hm_11 hK_11; grind)
theorem lX1_follow_11 {N : Nat} {w2_houses : Int32} {w2_front : Int32} {w2_downFor : Int32} {w2_kindOf : (Nat → Int32)} {w2_plotOf : (Nat → Int32)} {w2_row : (Nat → Int32)} {w2_standsOn : (Nat → Int32)} {a1 : Int32} {a3 : Int32}  (hN : 49999 < N) (h_w2_houses : RB 1 6 w2_houses) (h_w2_front : RB 0 11 w2_front) (h_w2_plotOf : RA (-1) 11 w2_plotOf) (h_w2_row : RA 0 5 w2_row) (h_w2_standsOn : RA (-1) 5 w2_standsOn) (h_a1 : RB 0 5 a1) (h_a3 : RB 0 40 a3)  : ∀ (l4 : Int32) (l5 : Int32) (v_town_houses : Int32) (v_town_front : Int32) (v_town_downFor : Int32) (v_town_kindOf : (Nat → Int32)) (v_town_plotOf : (Nat → Int32)) (v_town_row : (Nat → Int32)) (v_town_standsOn : (Nat → Int32)) (v_track_0 : (Nat → Int32)) (v_track_1 : (Nat → Int32)) (v_track_2 : (Nat → Int32)) (v_track_3 : (Nat → Int32)) (v_track_4 : (Nat → Int32)), RB 0 40 l4 ∧ RB 0 6 v_town_houses ∧ RB 0 11 v_town_front ∧ RA (-1) 11 v_town_plotOf ∧ RA 0 5 v_town_row ∧ RA (-1) 5 v_town_standsOn ∧ 0 ≤ l5 → ((5 : Int32) - l5) ≤ 49999 → Ok (fun r => RB 0 6 r.1 ∧ RB 0 11 r.2.1 ∧ RA (-1) 11 r.2.2.2.2.1 ∧ RA 0 5 r.2.2.2.2.2.1 ∧ RA (-1) 5 r.2.2.2.2.2.2.1) (lfix (fun (K : Int32 × Int32 × Int32 × Int32 × Int32 × (Nat → Int32) × (Nat → Int32) × (Nat → Int32) × (Nat → Int32) × (Nat → Int32) × (Nat → Int32) × (Nat → Int32) × (Nat → Int32) × (Nat → Int32) → Option (Int32 × Int32 × Int32 × (Nat → Int32) × (Nat → Int32) × (Nat → Int32) × (Nat → Int32) × (Nat → Int32) × (Nat → Int32) × (Nat → Int32) × (Nat → Int32) × (Nat → Int32))) (a : Int32 × Int32 × Int32 × Int32 × Int32 × (Nat → Int32) × (Nat → Int32) × (Nat → Int32) × (Nat → Int32) × (Nat → Int32) × (Nat → Int32) × (Nat → Int32) × (Nat → Int32) × (Nat → Int32)) => fX1_follow_11 N w2_houses w2_front w2_downFor w2_kindOf w2_plotOf w2_row w2_standsOn a1 a3 (fun (l4 : Int32) (l5 : Int32) (v_town_houses : Int32) (v_town_front : Int32) (v_town_downFor : Int32) (v_town_kindOf : (Nat → Int32)) (v_town_plotOf : (Nat → Int32)) (v_town_row : (Nat → Int32)) (v_town_standsOn : (Nat → Int32)) (v_track_0 : (Nat → Int32)) (v_track_1 : (Nat → Int32)) (v_track_2 : (Nat → Int32)) (v_track_3 : (Nat → Int32)) (v_track_4 : (Nat → Int32)) => K (l4, l5, v_town_houses, v_town_front, v_town_downFor, v_town_kindOf, v_town_plotOf, v_town_row, v_town_standsOn, v_track_0, v_track_1, v_track_2, v_track_3, v_track_4)) a.1 a.2.1 a.2.2.1 a.2.2.2.1 a.2.2.2.2.1 a.2.2.2.2.2.1 a.2.2.2.2.2.2.1 a.2.2.2.2.2.2.2.1 a.2.2.2.2.2.2.2.2.1 a.2.2.2.2.2.2.2.2.2.1 a.2.2.2.2.2.2.2.2.2.2.1 a.2.2.2.2.2.2.2.2.2.2.2.1 a.2.2.2.2.2.2.2.2.2.2.2.2.1 a.2.2.2.2.2.2.2.2.2.2.2.2.2) N (l4, l5, v_town_houses, v_town_front, v_town_downFor, v_town_kindOf, v_town_plotOf, v_town_row, v_town_standsOn, v_track_0, v_track_1, v_track_2, v_track_3, v_track_4)) := by
  intro l4 l5 v_town_houses v_town_front v_town_downFor v_town_kindOf v_town_plotOf v_town_row v_town_standsOn v_track_0 v_track_1 v_track_2 v_track_3 v_track_4 hI hM
  exact ok_l (I := fun (a : Int32 × Int32 × Int32 × Int32 × Int32 × (Nat → Int32) × (Nat → Int32) × (Nat → Int32) × (Nat → Int32) × (Nat → Int32) × (Nat → Int32) × (Nat → Int32) × (Nat → Int32) × (Nat → Int32)) => (RB 0 40 a.1 ∧ RB 0 6 a.2.2.1 ∧ RB 0 11 a.2.2.2.1 ∧ RA (-1) 11 a.2.2.2.2.2.2.1 ∧ RA 0 5 a.2.2.2.2.2.2.2.1 ∧ RA (-1) 5 a.2.2.2.2.2.2.2.2.1 ∧ 0 ≤ a.2.1)) (M := fun (a : Int32 × Int32 × Int32 × Int32 × Int32 × (Nat → Int32) × (Nat → Int32) × (Nat → Int32) × (Nat → Int32) × (Nat → Int32) × (Nat → Int32) × (Nat → Int32) × (Nat → Int32) × (Nat → Int32)) => ((5 : Int32) - a.2.1)) (fun K a hI hK => sX1_follow_11  hN h_w2_houses h_w2_front h_w2_plotOf h_w2_row h_w2_standsOn h_a1 h_a3  (fun l4 l5 v_town_houses v_town_front v_town_downFor v_town_kindOf v_town_plotOf v_town_row v_town_standsOn v_track_0 v_track_1 v_track_2 v_track_3 v_track_4 hI2  hlt hp => hK (l4, l5, v_town_houses, v_town_front, v_town_downFor, v_town_kindOf, v_town_plotOf, v_town_row, v_town_standsOn, v_track_0, v_track_1, v_track_2, v_track_3, v_track_4) hI2 hlt hp) hI  rfl) N _ hI hN hM
theorem tX1_follow {N : Nat} {w2_houses : Int32} {w2_front : Int32} {w2_downFor : Int32} {w2_kindOf : (Nat → Int32)} {w2_plotOf : (Nat → Int32)} {w2_row : (Nat → Int32)} {w2_standsOn : (Nat → Int32)} {a1 : Int32} {a3 : Int32} {v_town_houses : Int32} {v_town_front : Int32} {v_town_downFor : Int32} {v_town_kindOf : (Nat → Int32)} {v_town_plotOf : (Nat → Int32)} {v_town_row : (Nat → Int32)} {v_town_standsOn : (Nat → Int32)} {v_track_0 : (Nat → Int32)} {v_track_1 : (Nat → Int32)} {v_track_2 : (Nat → Int32)} {v_track_3 : (Nat → Int32)} {v_track_4 : (Nat → Int32)}  (hN : 49999 < N) (h_w2_houses : RB 1 6 w2_houses) (h_w2_front : RB 0 11 w2_front) (h_w2_plotOf : RA (-1) 11 w2_plotOf) (h_w2_row : RA 0 5 w2_row) (h_w2_standsOn : RA (-1) 5 w2_standsOn) (h_a1 : RB 0 5 a1) (h_a3 : RB 0 40 a3) (h_v_town_houses : RB 0 6 v_town_houses) (h_v_town_front : RB 0 11 v_town_front) (h_v_town_plotOf : RA (-1) 11 v_town_plotOf) (h_v_town_row : RA 0 5 v_town_row) (h_v_town_standsOn : RA (-1) 5 v_town_standsOn)  : Ok (fun r => RB 0 6 r.1 ∧ RB 0 11 r.2.1 ∧ RA (-1) 11 r.2.2.2.2.1 ∧ RA 0 5 r.2.2.2.2.2.1 ∧ RA (-1) 5 r.2.2.2.2.2.2.1) (fX1_follow N w2_houses w2_front w2_downFor w2_kindOf w2_plotOf w2_row w2_standsOn a1 a3 v_town_houses v_town_front v_town_downFor v_town_kindOf v_town_plotOf v_town_row v_town_standsOn v_track_0 v_track_1 v_track_2 v_track_3 v_track_4) := by
  unfold fX1_follow
  exact lX1_follow_11  hN h_w2_houses h_w2_front h_w2_plotOf h_w2_row h_w2_standsOn h_a1 h_a3  _ _ _ _ _ _ _ _ _ _ _ _ _ _ ⟨(by grind), h_v_town_houses, h_v_town_front, h_v_town_plotOf, h_v_town_row, h_v_town_standsOn, (by grind)⟩  (by grind)
theorem sX1_agrees_3 {N : Nat} {n_a3 : Nat} {w3_size : Int32} {w3_house : (Nat → Int32)} {v_track_0 : (Nat → Int32)} {v_track_1 : (Nat → Int32)} {v_track_2 : (Nat → Int32)} {v_track_3 : (Nat → Int32)} {v_track_4 : (Nat → Int32)} {w3_night : (Nat → Int32)} {w3_plot : (Nat → Int32)} {a1 : Int32} {a2 : Int32} {K_3 : Int32 → Option (Int32)} {l4 : Int32}  {m_3 : Int32} (hN : 49999 < N) (f_0 : NZ n_a3 w3_size) (h_w3_size : RB 0 6 w3_size) (h_w3_house : RA 0 5 w3_house) (h_w3_night : RA 0 40 w3_night) (h_a1 : RB 0 4 a1) (hK_3 : ∀ (l4 : Int32), 0 ≤ l4 → (w3_size - l4) < m_3 → 0 < m_3 → Ok (fun r => True) (K_3 l4)) (hI : 0 ≤ l4) (hm_3 : (w3_size - l4) = m_3) : Ok (fun r => True) (fX1_agrees_3 N n_a3 w3_size w3_house v_track_0 v_track_1 v_track_2 v_track_3 v_track_4 w3_night w3_plot a1 a2 K_3 l4) := by
  have h_l4 := hI
  have fz_0 := f_0.le
  have fy_0 := f_0.2.1
  unfold fX1_agrees_3
  refine ok_if (fun c_1 => ?_) (fun c_1 => ?_)
  · exact ok_s trivial
  · refine ok_g (ngz f_0 (by clear hm_3 hK_3; grind)) ?_
    refine ok_if (fun c_2 => ?_) (fun c_2 => ?_)
    · refine ok_g (ng5 (by clear hm_3 hK_3; grind)) ?_
      refine ok_if (fun c_3 => ?_) (fun c_3 => ?_)
      · refine ok_g (ngz f_0 (by clear hm_3 hK_3; grind)) ?_
        refine ok_g (ng41 (by clear hm_3 hK_3; have := h_w3_night ((l4).toNatClampNeg); grind)) ?_
        refine ok_g (ngz f_0 (by clear hm_3 hK_3; grind)) ?_
        refine ok_if (fun c_4 => ?_) (fun c_4 => ?_)
        · exact hK_3 _ (by clear hm_3 hK_3; grind) (by clear hK_3; grind) (by clear hK_3; grind)
        · exact ok_s trivial
      · refine ok_if (fun c_5 => ?_) (fun c_5 => ?_)
        · refine ok_g (ngz f_0 (by clear hm_3 hK_3; grind)) ?_
          refine ok_g (ng41 (by clear hm_3 hK_3; have := h_w3_night ((l4).toNatClampNeg); grind)) ?_
          refine ok_g (ngz f_0 (by clear hm_3 hK_3; grind)) ?_
          refine ok_if (fun c_6 => ?_) (fun c_6 => ?_)
          · exact hK_3 _ (by clear hm_3 hK_3; grind) (by clear hK_3; grind) (by clear hK_3; grind)
          · exact ok_s trivial
        · refine ok_if (fun c_7 => ?_) (fun c_7 => ?_)
          · refine ok_g (ngz f_0 (by clear hm_3 hK_3; grind)) ?_
            refine ok_g (ng41 (by clear hm_3 hK_3; have := h_w3_night ((l4).toNatClampNeg); grind)) ?_
            refine ok_g (ngz f_0 (by clear hm_3 hK_3; grind)) ?_
            refine ok_if (fun c_8 => ?_) (fun c_8 => ?_)
            · exact hK_3 _ (by clear hm_3 hK_3; grind) (by clear hK_3; grind) (by clear hK_3; grind)
            · exact ok_s trivial
          · refine ok_if (fun c_9 => ?_) (fun c_9 => ?_)
            · refine ok_g (ngz f_0 (by clear hm_3 hK_3; grind)) ?_
              refine ok_g (ng41 (by clear hm_3 hK_3; have := h_w3_night ((l4).toNatClampNeg); grind)) ?_
              refine ok_g (ngz f_0 (by clear hm_3 hK_3; grind)) ?_
              refine ok_if (fun c_10 => ?_) (fun c_10 => ?_)
              · exact hK_3 _ (by clear hm_3 hK_3; grind) (by clear hK_3; grind) (by clear hK_3; grind)
              · exact ok_s trivial
            · refine ok_n (by clear hm_3 hK_3; grind) ?_
              refine ok_g (ngz f_0 (by clear hm_3 hK_3; grind)) ?_
              refine ok_g (ng41 (by clear hm_3 hK_3; have := h_w3_night ((l4).toNatClampNeg); grind)) ?_
              refine ok_g (ngz f_0 (by clear hm_3 hK_3; grind)) ?_
              refine ok_if (fun c_11 => ?_) (fun c_11 => ?_)
              · exact hK_3 _ (by clear hm_3 hK_3; grind) (by clear hK_3; grind) (by clear hK_3; grind)
              · exact ok_s trivial
    · exact hK_3 _ (by clear hm_3 hK_3; grind) (by clear hK_3; grind) (by clear hK_3; grind)
theorem lX1_agrees_3 {N : Nat} {n_a3 : Nat} {w3_size : Int32} {w3_house : (Nat → Int32)} {v_track_0 : (Nat → Int32)} {v_track_1 : (Nat → Int32)} {v_track_2 : (Nat → Int32)} {v_track_3 : (Nat → Int32)} {v_track_4 : (Nat → Int32)} {w3_night : (Nat → Int32)} {w3_plot : (Nat → Int32)} {a1 : Int32} {a2 : Int32}  (hN : 49999 < N) (f_0 : NZ n_a3 w3_size) (h_w3_size : RB 0 6 w3_size) (h_w3_house : RA 0 5 w3_house) (h_w3_night : RA 0 40 w3_night) (h_a1 : RB 0 4 a1)  : ∀ (l4 : Int32), 0 ≤ l4 → (w3_size - l4) ≤ 49999 → Ok (fun r => True) (lfix (fun (K : Int32 → Option (Int32)) (a : Int32) => fX1_agrees_3 N n_a3 w3_size w3_house v_track_0 v_track_1 v_track_2 v_track_3 v_track_4 w3_night w3_plot a1 a2 (fun (l4 : Int32) => K l4) a) N (l4)) := by
  intro l4 hI hM
  exact ok_l (I := fun (a : Int32) => (0 ≤ a)) (M := fun (a : Int32) => (w3_size - a)) (fun K a hI hK => sX1_agrees_3  hN f_0 h_w3_size h_w3_house h_w3_night h_a1  (fun l4 hI2  hlt hp => hK (l4) hI2 hlt hp) hI  rfl) N _ hI hN hM
theorem tX1_agrees {N : Nat} {n_a3 : Nat} {w3_size : Int32} {w3_house : (Nat → Int32)} {v_track_0 : (Nat → Int32)} {v_track_1 : (Nat → Int32)} {v_track_2 : (Nat → Int32)} {v_track_3 : (Nat → Int32)} {v_track_4 : (Nat → Int32)} {w3_night : (Nat → Int32)} {w3_plot : (Nat → Int32)} {a1 : Int32} {a2 : Int32}  (hN : 49999 < N) (f_0 : NZ n_a3 w3_size) (h_w3_size : RB 0 6 w3_size) (h_w3_house : RA 0 5 w3_house) (h_w3_night : RA 0 40 w3_night) (h_a1 : RB 0 4 a1)  : Ok (fun r => True) (fX1_agrees N n_a3 w3_size w3_house v_track_0 v_track_1 v_track_2 v_track_3 v_track_4 w3_night w3_plot a1 a2) := by
  have fz_0 := f_0.le
  have fy_0 := f_0.2.1
  unfold fX1_agrees
  exact lX1_agrees_3  hN f_0 h_w3_size h_w3_house h_w3_night h_a1  _ (by grind)  (by grind)
theorem sX1_kindsByTracks_5 {N : Nat} {n_a2 : Nat} {w2_size : Int32} {w2_house : (Nat → Int32)} {v_track_0 : (Nat → Int32)} {v_track_1 : (Nat → Int32)} {v_track_2 : (Nat → Int32)} {v_track_3 : (Nat → Int32)} {v_track_4 : (Nat → Int32)} {w2_night : (Nat → Int32)} {w2_plot : (Nat → Int32)} {a1 : Int32} {K_5 : Int32 → Int32 → Option (Int32)} {l3 : Int32} {l4 : Int32}  {m_5 : Int32} (hN : 49999 < N) (f_0 : NZ n_a2 w2_size) (h_w2_size : RB 0 6 w2_size) (h_w2_house : RA 0 5 w2_house) (h_w2_night : RA 0 40 w2_night) (hK_5 : ∀ (l3 : Int32) (l4 : Int32), 0 ≤ l4 → ((5 : Int32) - l4) < m_5 → 0 < m_5 → Ok (fun r => True) (K_5 l3 l4)) (hI : 0 ≤ l4) (hm_5 : ((5 : Int32) - l4) = m_5) : Ok (fun r => True) (fX1_kindsByTracks_5 N n_a2 w2_size w2_house v_track_0 v_track_1 v_track_2 v_track_3 v_track_4 w2_night w2_plot a1 K_5 l3 l4) := by
  have h_l4 := hI
  have fz_0 := f_0.le
  have fy_0 := f_0.2.1
  unfold fX1_kindsByTracks_5
  refine ok_if (fun c_1 => ?_) (fun c_1 => ?_)
  · exact ok_s trivial
  · refine ok_b (tX1_agrees hN f_0 h_w2_size h_w2_house h_w2_night (by clear hm_5 hK_5; grind)) (fun x_16 hx => ?_)
    refine ok_if (fun c_2 => ?_) (fun c_2 => ?_)
    · exact hK_5 _ _ (by clear hm_5 hK_5; grind) (by clear hK_5; grind) (by clear hK_5; grind)
    · exact hK_5 _ _ (by clear hm_5 hK_5; grind) (by clear hK_5; grind) (by clear hK_5; grind)
theorem lX1_kindsByTracks_5 {N : Nat} {n_a2 : Nat} {w2_size : Int32} {w2_house : (Nat → Int32)} {v_track_0 : (Nat → Int32)} {v_track_1 : (Nat → Int32)} {v_track_2 : (Nat → Int32)} {v_track_3 : (Nat → Int32)} {v_track_4 : (Nat → Int32)} {w2_night : (Nat → Int32)} {w2_plot : (Nat → Int32)} {a1 : Int32}  (hN : 49999 < N) (f_0 : NZ n_a2 w2_size) (h_w2_size : RB 0 6 w2_size) (h_w2_house : RA 0 5 w2_house) (h_w2_night : RA 0 40 w2_night)  : ∀ (l3 : Int32) (l4 : Int32), 0 ≤ l4 → ((5 : Int32) - l4) ≤ 49999 → Ok (fun r => True) (lfix (fun (K : Int32 × Int32 → Option (Int32)) (a : Int32 × Int32) => fX1_kindsByTracks_5 N n_a2 w2_size w2_house v_track_0 v_track_1 v_track_2 v_track_3 v_track_4 w2_night w2_plot a1 (fun (l3 : Int32) (l4 : Int32) => K (l3, l4)) a.1 a.2) N (l3, l4)) := by
  intro l3 l4 hI hM
  exact ok_l (I := fun (a : Int32 × Int32) => (0 ≤ a.2)) (M := fun (a : Int32 × Int32) => ((5 : Int32) - a.2)) (fun K a hI hK => sX1_kindsByTracks_5  hN f_0 h_w2_size h_w2_house h_w2_night  (fun l3 l4 hI2  hlt hp => hK (l3, l4) hI2 hlt hp) hI  rfl) N _ hI hN hM
theorem tX1_kindsByTracks {N : Nat} {n_a2 : Nat} {w2_size : Int32} {w2_house : (Nat → Int32)} {v_track_0 : (Nat → Int32)} {v_track_1 : (Nat → Int32)} {v_track_2 : (Nat → Int32)} {v_track_3 : (Nat → Int32)} {v_track_4 : (Nat → Int32)} {w2_night : (Nat → Int32)} {w2_plot : (Nat → Int32)} {a1 : Int32}  (hN : 49999 < N) (f_0 : NZ n_a2 w2_size) (h_w2_size : RB 0 6 w2_size) (h_w2_house : RA 0 5 w2_house) (h_w2_night : RA 0 40 w2_night)  : Ok (fun r => True) (fX1_kindsByTracks N n_a2 w2_size w2_house v_track_0 v_track_1 v_track_2 v_track_3 v_track_4 w2_night w2_plot a1) := by
  have fz_0 := f_0.le
  have fy_0 := f_0.2.1
  unfold fX1_kindsByTracks
  exact lX1_kindsByTracks_5  hN f_0 h_w2_size h_w2_house h_w2_night  _ _ (by grind)  (by grind)
theorem tX1_kindsOf {N : Nat} {w2_seen_size : Int32} {w2_seen_night : (Nat → Int32)} {w2_town_houses : Int32} {w2_town_front : Int32} {w2_town_downFor : Int32} {w2_town_kindOf : (Nat → Int32)} {w2_town_plotOf : (Nat → Int32)} {w2_town_row : (Nat → Int32)} {w2_town_standsOn : (Nat → Int32)} {w2_seen_house : (Nat → Int32)} {w2_seen_plot : (Nat → Int32)} {a1 : Int32} {v_town_houses : Int32} {v_town_front : Int32} {v_town_downFor : Int32} {v_town_kindOf : (Nat → Int32)} {v_town_plotOf : (Nat → Int32)} {v_town_row : (Nat → Int32)} {v_town_standsOn : (Nat → Int32)} {v_track_0 : (Nat → Int32)} {v_track_1 : (Nat → Int32)} {v_track_2 : (Nat → Int32)} {v_track_3 : (Nat → Int32)} {v_track_4 : (Nat → Int32)}  (hN : 49999 < N) (h_w2_seen_size : RB 0 6 w2_seen_size) (h_w2_seen_night : RA 0 40 w2_seen_night) (h_w2_town_houses : RB 1 6 w2_town_houses) (h_w2_town_front : RB 0 11 w2_town_front) (h_w2_town_plotOf : RA (-1) 11 w2_town_plotOf) (h_w2_town_row : RA 0 5 w2_town_row) (h_w2_town_standsOn : RA (-1) 5 w2_town_standsOn) (h_w2_seen_house : RA 0 5 w2_seen_house) (h_a1 : RB 0 5 a1) (h_v_town_houses : RB 0 6 v_town_houses) (h_v_town_front : RB 0 11 v_town_front) (h_v_town_plotOf : RA (-1) 11 v_town_plotOf) (h_v_town_row : RA 0 5 v_town_row) (h_v_town_standsOn : RA (-1) 5 v_town_standsOn)  : Ok (fun r => RB 0 6 r.2.1 ∧ RB 0 11 r.2.2.1 ∧ RA (-1) 11 r.2.2.2.2.2.1 ∧ RA 0 5 r.2.2.2.2.2.2.1 ∧ RA (-1) 5 r.2.2.2.2.2.2.2.1) (fX1_kindsOf N w2_seen_size w2_seen_night w2_town_houses w2_town_front w2_town_downFor w2_town_kindOf w2_town_plotOf w2_town_row w2_town_standsOn w2_seen_house w2_seen_plot a1 v_town_houses v_town_front v_town_downFor v_town_kindOf v_town_plotOf v_town_row v_town_standsOn v_track_0 v_track_1 v_track_2 v_track_3 v_track_4) := by
  unfold fX1_kindsOf
  refine ok_b (tX2_lastNight hN (nz6 (by grind)) h_w2_seen_night) (fun x_10 hx => ?_)
  have h_x_10_0 := hx
  refine ok_b (tX1_follow hN h_w2_town_houses h_w2_town_front h_w2_town_plotOf h_w2_town_row h_w2_town_standsOn h_a1 h_x_10_0 h_v_town_houses h_v_town_front h_v_town_plotOf h_v_town_row h_v_town_standsOn) (fun x_13 hx => ?_)
  obtain ⟨h_x_13_0, h_x_13_1, h_x_13_2, h_x_13_3, h_x_13_4⟩ := hx
  refine ok_b (tX1_kindsByTracks hN (nz6 (by grind)) h_w2_seen_size h_w2_seen_house h_w2_seen_night) (fun x_22 hx => ?_)
  exact ok_s ⟨h_x_13_0, h_x_13_1, h_x_13_2, h_x_13_3, h_x_13_4⟩
theorem tX1_has {N : Nat} {a0 : Int32} {a1 : Int32}  (hN : 49999 < N)   : Ok (fun r => True) (fX1_has N a0 a1) := by
  unfold fX1_has
  refine ok_if (fun c_1 => ?_) (fun c_1 => ?_)
  · exact ok_s trivial
  · exact ok_s trivial
theorem sX1_seenAlike_6 {N : Nat} {v_track_0 : (Nat → Int32)} {v_track_1 : (Nat → Int32)} {v_track_2 : (Nat → Int32)} {v_track_3 : (Nat → Int32)} {v_track_4 : (Nat → Int32)} {a1 : Int32} {a2 : Int32} {a3 : Int32} {K_6 : Int32 → Int32 → Option (Int32)} {l4 : Int32} {l5 : Int32}  {m_6 : Int32} (hN : 49999 < N) (h_a2 : RB 0 4 a2) (h_a3 : RB 0 40 a3) (hK_6 : ∀ (l4 : Int32) (l5 : Int32), 0 ≤ l5 → ((5 : Int32) - l5) < m_6 → 0 < m_6 → Ok (fun r => True) (K_6 l4 l5)) (hI : 0 ≤ l5) (hm_6 : ((5 : Int32) - l5) = m_6) : Ok (fun r => True) (fX1_seenAlike_6 N v_track_0 v_track_1 v_track_2 v_track_3 v_track_4 a1 a2 a3 K_6 l4 l5) := by
  have h_l5 := hI
  unfold fX1_seenAlike_6
  refine ok_if (fun c_1 => ?_) (fun c_1 => ?_)
  · exact ok_s trivial
  · refine ok_b (tX1_has hN ) (fun x_15 hx => ?_)
    refine ok_if (fun c_2 => ?_) (fun c_2 => ?_)
    · exact hK_6 _ _ (by clear hm_6 hK_6; grind) (by clear hK_6; grind) (by clear hK_6; grind)
    · refine ok_g (ng5 (by clear hm_6 hK_6; grind)) ?_
      refine ok_if (fun c_3 => ?_) (fun c_3 => ?_)
      · refine ok_g (ng41 (by clear hm_6 hK_6; grind)) ?_
        refine ok_g (ng5 (by clear hm_6 hK_6; grind)) ?_
        refine ok_if (fun c_4 => ?_) (fun c_4 => ?_)
        · refine ok_g (ng41 (by clear hm_6 hK_6; grind)) ?_
          refine ok_if (fun c_5 => ?_) (fun c_5 => ?_)
          · exact hK_6 _ _ (by clear hm_6 hK_6; grind) (by clear hK_6; grind) (by clear hK_6; grind)
          · exact hK_6 _ _ (by clear hm_6 hK_6; grind) (by clear hK_6; grind) (by clear hK_6; grind)
        · refine ok_if (fun c_6 => ?_) (fun c_6 => ?_)
          · refine ok_g (ng41 (by clear hm_6 hK_6; grind)) ?_
            refine ok_if (fun c_7 => ?_) (fun c_7 => ?_)
            · exact hK_6 _ _ (by clear hm_6 hK_6; grind) (by clear hK_6; grind) (by clear hK_6; grind)
            · exact hK_6 _ _ (by clear hm_6 hK_6; grind) (by clear hK_6; grind) (by clear hK_6; grind)
          · refine ok_if (fun c_8 => ?_) (fun c_8 => ?_)
            · refine ok_g (ng41 (by clear hm_6 hK_6; grind)) ?_
              refine ok_if (fun c_9 => ?_) (fun c_9 => ?_)
              · exact hK_6 _ _ (by clear hm_6 hK_6; grind) (by clear hK_6; grind) (by clear hK_6; grind)
              · exact hK_6 _ _ (by clear hm_6 hK_6; grind) (by clear hK_6; grind) (by clear hK_6; grind)
            · refine ok_if (fun c_10 => ?_) (fun c_10 => ?_)
              · refine ok_g (ng41 (by clear hm_6 hK_6; grind)) ?_
                refine ok_if (fun c_11 => ?_) (fun c_11 => ?_)
                · exact hK_6 _ _ (by clear hm_6 hK_6; grind) (by clear hK_6; grind) (by clear hK_6; grind)
                · exact hK_6 _ _ (by clear hm_6 hK_6; grind) (by clear hK_6; grind) (by clear hK_6; grind)
              · refine ok_n (by clear hm_6 hK_6; grind) ?_
                refine ok_g (ng41 (by clear hm_6 hK_6; grind)) ?_
                refine ok_if (fun c_12 => ?_) (fun c_12 => ?_)
                · exact hK_6 _ _ (by clear hm_6 hK_6; grind) (by clear hK_6; grind) (by clear hK_6; grind)
                · exact hK_6 _ _ (by clear hm_6 hK_6; grind) (by clear hK_6; grind) (by clear hK_6; grind)
      · refine ok_if (fun c_13 => ?_) (fun c_13 => ?_)
        · refine ok_g (ng41 (by clear hm_6 hK_6; grind)) ?_
          refine ok_g (ng5 (by clear hm_6 hK_6; grind)) ?_
          refine ok_if (fun c_14 => ?_) (fun c_14 => ?_)
          · refine ok_g (ng41 (by clear hm_6 hK_6; grind)) ?_
            refine ok_if (fun c_15 => ?_) (fun c_15 => ?_)
            · exact hK_6 _ _ (by clear hm_6 hK_6; grind) (by clear hK_6; grind) (by clear hK_6; grind)
            · exact hK_6 _ _ (by clear hm_6 hK_6; grind) (by clear hK_6; grind) (by clear hK_6; grind)
          · refine ok_if (fun c_16 => ?_) (fun c_16 => ?_)
            · refine ok_g (ng41 (by clear hm_6 hK_6; grind)) ?_
              refine ok_if (fun c_17 => ?_) (fun c_17 => ?_)
              · exact hK_6 _ _ (by clear hm_6 hK_6; grind) (by clear hK_6; grind) (by clear hK_6; grind)
              · exact hK_6 _ _ (by clear hm_6 hK_6; grind) (by clear hK_6; grind) (by clear hK_6; grind)
            · refine ok_if (fun c_18 => ?_) (fun c_18 => ?_)
              · refine ok_g (ng41 (by clear hm_6 hK_6; grind)) ?_
                refine ok_if (fun c_19 => ?_) (fun c_19 => ?_)
                · exact hK_6 _ _ (by clear hm_6 hK_6; grind) (by clear hK_6; grind) (by clear hK_6; grind)
                · exact hK_6 _ _ (by clear hm_6 hK_6; grind) (by clear hK_6; grind) (by clear hK_6; grind)
              · refine ok_if (fun c_20 => ?_) (fun c_20 => ?_)
                · refine ok_g (ng41 (by clear hm_6 hK_6; grind)) ?_
                  refine ok_if (fun c_21 => ?_) (fun c_21 => ?_)
                  · exact hK_6 _ _ (by clear hm_6 hK_6; grind) (by clear hK_6; grind) (by clear hK_6; grind)
                  · exact hK_6 _ _ (by clear hm_6 hK_6; grind) (by clear hK_6; grind) (by clear hK_6; grind)
                · refine ok_n (by clear hm_6 hK_6; grind) ?_
                  refine ok_g (ng41 (by clear hm_6 hK_6; grind)) ?_
                  refine ok_if (fun c_22 => ?_) (fun c_22 => ?_)
                  · exact hK_6 _ _ (by clear hm_6 hK_6; grind) (by clear hK_6; grind) (by clear hK_6; grind)
                  · exact hK_6 _ _ (by clear hm_6 hK_6; grind) (by clear hK_6; grind) (by clear hK_6; grind)
        · refine ok_if (fun c_23 => ?_) (fun c_23 => ?_)
          · refine ok_g (ng41 (by clear hm_6 hK_6; grind)) ?_
            refine ok_g (ng5 (by clear hm_6 hK_6; grind)) ?_
            refine ok_if (fun c_24 => ?_) (fun c_24 => ?_)
            · refine ok_g (ng41 (by clear hm_6 hK_6; grind)) ?_
              refine ok_if (fun c_25 => ?_) (fun c_25 => ?_)
              · exact hK_6 _ _ (by clear hm_6 hK_6; grind) (by clear hK_6; grind) (by clear hK_6; grind)
              · exact hK_6 _ _ (by clear hm_6 hK_6; grind) (by clear hK_6; grind) (by clear hK_6; grind)
            · refine ok_if (fun c_26 => ?_) (fun c_26 => ?_)
              · refine ok_g (ng41 (by clear hm_6 hK_6; grind)) ?_
                refine ok_if (fun c_27 => ?_) (fun c_27 => ?_)
                · exact hK_6 _ _ (by clear hm_6 hK_6; grind) (by clear hK_6; grind) (by clear hK_6; grind)
                · exact hK_6 _ _ (by clear hm_6 hK_6; grind) (by clear hK_6; grind) (by clear hK_6; grind)
              · refine ok_if (fun c_28 => ?_) (fun c_28 => ?_)
                · refine ok_g (ng41 (by clear hm_6 hK_6; grind)) ?_
                  refine ok_if (fun c_29 => ?_) (fun c_29 => ?_)
                  · exact hK_6 _ _ (by clear hm_6 hK_6; grind) (by clear hK_6; grind) (by clear hK_6; grind)
                  · exact hK_6 _ _ (by clear hm_6 hK_6; grind) (by clear hK_6; grind) (by clear hK_6; grind)
                · refine ok_if (fun c_30 => ?_) (fun c_30 => ?_)
                  · refine ok_g (ng41 (by clear hm_6 hK_6; grind)) ?_
                    refine ok_if (fun c_31 => ?_) (fun c_31 => ?_)
                    · exact hK_6 _ _ (by clear hm_6 hK_6; grind) (by clear hK_6; grind) (by clear hK_6; grind)
                    · exact hK_6 _ _ (by clear hm_6 hK_6; grind) (by clear hK_6; grind) (by clear hK_6; grind)
                  · refine ok_n (by clear hm_6 hK_6; grind) ?_
                    refine ok_g (ng41 (by clear hm_6 hK_6; grind)) ?_
                    refine ok_if (fun c_32 => ?_) (fun c_32 => ?_)
                    · exact hK_6 _ _ (by clear hm_6 hK_6; grind) (by clear hK_6; grind) (by clear hK_6; grind)
                    · exact hK_6 _ _ (by clear hm_6 hK_6; grind) (by clear hK_6; grind) (by clear hK_6; grind)
          · refine ok_if (fun c_33 => ?_) (fun c_33 => ?_)
            · refine ok_g (ng41 (by clear hm_6 hK_6; grind)) ?_
              refine ok_g (ng5 (by clear hm_6 hK_6; grind)) ?_
              refine ok_if (fun c_34 => ?_) (fun c_34 => ?_)
              · refine ok_g (ng41 (by clear hm_6 hK_6; grind)) ?_
                refine ok_if (fun c_35 => ?_) (fun c_35 => ?_)
                · exact hK_6 _ _ (by clear hm_6 hK_6; grind) (by clear hK_6; grind) (by clear hK_6; grind)
                · exact hK_6 _ _ (by clear hm_6 hK_6; grind) (by clear hK_6; grind) (by clear hK_6; grind)
              · refine ok_if (fun c_36 => ?_) (fun c_36 => ?_)
                · refine ok_g (ng41 (by clear hm_6 hK_6; grind)) ?_
                  refine ok_if (fun c_37 => ?_) (fun c_37 => ?_)
                  · exact hK_6 _ _ (by clear hm_6 hK_6; grind) (by clear hK_6; grind) (by clear hK_6; grind)
                  · exact hK_6 _ _ (by clear hm_6 hK_6; grind) (by clear hK_6; grind) (by clear hK_6; grind)
                · refine ok_if (fun c_38 => ?_) (fun c_38 => ?_)
                  · refine ok_g (ng41 (by clear hm_6 hK_6; grind)) ?_
                    refine ok_if (fun c_39 => ?_) (fun c_39 => ?_)
                    · exact hK_6 _ _ (by clear hm_6 hK_6; grind) (by clear hK_6; grind) (by clear hK_6; grind)
                    · exact hK_6 _ _ (by clear hm_6 hK_6; grind) (by clear hK_6; grind) (by clear hK_6; grind)
                  · refine ok_if (fun c_40 => ?_) (fun c_40 => ?_)
                    · refine ok_g (ng41 (by clear hm_6 hK_6; grind)) ?_
                      refine ok_if (fun c_41 => ?_) (fun c_41 => ?_)
                      · exact hK_6 _ _ (by clear hm_6 hK_6; grind) (by clear hK_6; grind) (by clear hK_6; grind)
                      · exact hK_6 _ _ (by clear hm_6 hK_6; grind) (by clear hK_6; grind) (by clear hK_6; grind)
                    · refine ok_n (by clear hm_6 hK_6; grind) ?_
                      refine ok_g (ng41 (by clear hm_6 hK_6; grind)) ?_
                      refine ok_if (fun c_42 => ?_) (fun c_42 => ?_)
                      · exact hK_6 _ _ (by clear hm_6 hK_6; grind) (by clear hK_6; grind) (by clear hK_6; grind)
                      · exact hK_6 _ _ (by clear hm_6 hK_6; grind) (by clear hK_6; grind) (by clear hK_6; grind)
            · refine ok_n (by clear hm_6 hK_6; grind) ?_
              refine ok_g (ng41 (by clear hm_6 hK_6; grind)) ?_
              refine ok_g (ng5 (by clear hm_6 hK_6; grind)) ?_
              refine ok_if (fun c_43 => ?_) (fun c_43 => ?_)
              · refine ok_g (ng41 (by clear hm_6 hK_6; grind)) ?_
                refine ok_if (fun c_44 => ?_) (fun c_44 => ?_)
                · exact hK_6 _ _ (by clear hm_6 hK_6; grind) (by clear hK_6; grind) (by clear hK_6; grind)
                · exact hK_6 _ _ (by clear hm_6 hK_6; grind) (by clear hK_6; grind) (by clear hK_6; grind)
              · refine ok_if (fun c_45 => ?_) (fun c_45 => ?_)
                · refine ok_g (ng41 (by clear hm_6 hK_6; grind)) ?_
                  refine ok_if (fun c_46 => ?_) (fun c_46 => ?_)
                  · exact hK_6 _ _ (by clear hm_6 hK_6; grind) (by clear hK_6; grind) (by clear hK_6; grind)
                  · exact hK_6 _ _ (by clear hm_6 hK_6; grind) (by clear hK_6; grind) (by clear hK_6; grind)
                · refine ok_if (fun c_47 => ?_) (fun c_47 => ?_)
                  · refine ok_g (ng41 (by clear hm_6 hK_6; grind)) ?_
                    refine ok_if (fun c_48 => ?_) (fun c_48 => ?_)
                    · exact hK_6 _ _ (by clear hm_6 hK_6; grind) (by clear hK_6; grind) (by clear hK_6; grind)
                    · exact hK_6 _ _ (by clear hm_6 hK_6; grind) (by clear hK_6; grind) (by clear hK_6; grind)
                  · refine ok_if (fun c_49 => ?_) (fun c_49 => ?_)
                    · refine ok_g (ng41 (by clear hm_6 hK_6; grind)) ?_
                      refine ok_if (fun c_50 => ?_) (fun c_50 => ?_)
                      · exact hK_6 _ _ (by clear hm_6 hK_6; grind) (by clear hK_6; grind) (by clear hK_6; grind)
                      · exact hK_6 _ _ (by clear hm_6 hK_6; grind) (by clear hK_6; grind) (by clear hK_6; grind)
                    · refine ok_n (by clear hm_6 hK_6; grind) ?_
                      refine ok_g (ng41 (by clear hm_6 hK_6; grind)) ?_
                      refine ok_if (fun c_51 => ?_) (fun c_51 => ?_)
                      · exact hK_6 _ _ (by clear hm_6 hK_6; grind) (by clear hK_6; grind) (by clear hK_6; grind)
                      · exact hK_6 _ _ (by clear hm_6 hK_6; grind) (by clear hK_6; grind) (by clear hK_6; grind)
theorem lX1_seenAlike_6 {N : Nat} {v_track_0 : (Nat → Int32)} {v_track_1 : (Nat → Int32)} {v_track_2 : (Nat → Int32)} {v_track_3 : (Nat → Int32)} {v_track_4 : (Nat → Int32)} {a1 : Int32} {a2 : Int32} {a3 : Int32}  (hN : 49999 < N) (h_a2 : RB 0 4 a2) (h_a3 : RB 0 40 a3)  : ∀ (l4 : Int32) (l5 : Int32), 0 ≤ l5 → ((5 : Int32) - l5) ≤ 49999 → Ok (fun r => True) (lfix (fun (K : Int32 × Int32 → Option (Int32)) (a : Int32 × Int32) => fX1_seenAlike_6 N v_track_0 v_track_1 v_track_2 v_track_3 v_track_4 a1 a2 a3 (fun (l4 : Int32) (l5 : Int32) => K (l4, l5)) a.1 a.2) N (l4, l5)) := by
  intro l4 l5 hI hM
  exact ok_l (I := fun (a : Int32 × Int32) => (0 ≤ a.2)) (M := fun (a : Int32 × Int32) => ((5 : Int32) - a.2)) (fun K a hI hK => sX1_seenAlike_6  hN h_a2 h_a3  (fun l4 l5 hI2  hlt hp => hK (l4, l5) hI2 hlt hp) hI  rfl) N _ hI hN hM
theorem tX1_seenAlike {N : Nat} {v_track_0 : (Nat → Int32)} {v_track_1 : (Nat → Int32)} {v_track_2 : (Nat → Int32)} {v_track_3 : (Nat → Int32)} {v_track_4 : (Nat → Int32)} {a1 : Int32} {a2 : Int32} {a3 : Int32}  (hN : 49999 < N) (h_a2 : RB 0 4 a2) (h_a3 : RB 0 40 a3)  : Ok (fun r => True) (fX1_seenAlike N v_track_0 v_track_1 v_track_2 v_track_3 v_track_4 a1 a2 a3) := by
  unfold fX1_seenAlike
  exact lX1_seenAlike_6  hN h_a2 h_a3  _ _ (by grind)  (by grind)
theorem sX1_leftAtWorst_5 {N : Nat} {v_track_0 : (Nat → Int32)} {v_track_1 : (Nat → Int32)} {v_track_2 : (Nat → Int32)} {v_track_3 : (Nat → Int32)} {v_track_4 : (Nat → Int32)} {a1 : Int32} {a2 : Int32} {K_5 : Int32 → Int32 → Option (Int32)} {l3 : Int32} {l4 : Int32}  {m_5 : Int32} (hN : 49999 < N) (h_a2 : RB 0 40 a2) (hK_5 : ∀ (l3 : Int32) (l4 : Int32), 0 ≤ l4 → ((5 : Int32) - l4) < m_5 → 0 < m_5 → Ok (fun r => True) (K_5 l3 l4)) (hI : 0 ≤ l4) (hm_5 : ((5 : Int32) - l4) = m_5) : Ok (fun r => True) (fX1_leftAtWorst_5 N v_track_0 v_track_1 v_track_2 v_track_3 v_track_4 a1 a2 K_5 l3 l4) := by
  have h_l4 := hI
  unfold fX1_leftAtWorst_5
  refine ok_if (fun c_1 => ?_) (fun c_1 => ?_)
  · exact ok_s trivial
  · refine ok_b (tX1_has hN ) (fun x_14 hx => ?_)
    refine ok_if (fun c_2 => ?_) (fun c_2 => ?_)
    · exact hK_5 _ _ (by clear hm_5 hK_5; grind) (by clear hK_5; grind) (by clear hK_5; grind)
    · refine ok_b (tX1_seenAlike hN (by clear hm_5 hK_5; grind) h_a2) (fun x_26 hx => ?_)
      exact hK_5 _ _ (by clear hm_5 hK_5; grind) (by clear hK_5; grind) (by clear hK_5; grind)
theorem lX1_leftAtWorst_5 {N : Nat} {v_track_0 : (Nat → Int32)} {v_track_1 : (Nat → Int32)} {v_track_2 : (Nat → Int32)} {v_track_3 : (Nat → Int32)} {v_track_4 : (Nat → Int32)} {a1 : Int32} {a2 : Int32}  (hN : 49999 < N) (h_a2 : RB 0 40 a2)  : ∀ (l3 : Int32) (l4 : Int32), 0 ≤ l4 → ((5 : Int32) - l4) ≤ 49999 → Ok (fun r => True) (lfix (fun (K : Int32 × Int32 → Option (Int32)) (a : Int32 × Int32) => fX1_leftAtWorst_5 N v_track_0 v_track_1 v_track_2 v_track_3 v_track_4 a1 a2 (fun (l3 : Int32) (l4 : Int32) => K (l3, l4)) a.1 a.2) N (l3, l4)) := by
  intro l3 l4 hI hM
  exact ok_l (I := fun (a : Int32 × Int32) => (0 ≤ a.2)) (M := fun (a : Int32 × Int32) => ((5 : Int32) - a.2)) (fun K a hI hK => sX1_leftAtWorst_5  hN h_a2  (fun l3 l4 hI2  hlt hp => hK (l3, l4) hI2 hlt hp) hI  rfl) N _ hI hN hM
theorem tX1_leftAtWorst {N : Nat} {v_track_0 : (Nat → Int32)} {v_track_1 : (Nat → Int32)} {v_track_2 : (Nat → Int32)} {v_track_3 : (Nat → Int32)} {v_track_4 : (Nat → Int32)} {a1 : Int32} {a2 : Int32}  (hN : 49999 < N) (h_a2 : RB 0 40 a2)  : Ok (fun r => True) (fX1_leftAtWorst N v_track_0 v_track_1 v_track_2 v_track_3 v_track_4 a1 a2) := by
  unfold fX1_leftAtWorst
  exact lX1_leftAtWorst_5  hN h_a2  _ _ (by grind)  (by grind)
theorem sX1_nightToLook_37 {N : Nat} {w2_town_houses : Int32} {w2_town_front : Int32} {w2_town_downFor : Int32} {w2_town_kindOf : (Nat → Int32)} {w2_town_plotOf : (Nat → Int32)} {w2_town_row : (Nat → Int32)} {w2_town_standsOn : (Nat → Int32)} {w2_seen_size : Int32} {w2_seen_house : (Nat → Int32)} {w2_seen_night : (Nat → Int32)} {w2_seen_plot : (Nat → Int32)} {a1 : Int32} {K_37 : Int32 → Int32 → Int32 → Int32 → Int32 → Int32 → Int32 → (Nat → Int32) → (Nat → Int32) → (Nat → Int32) → (Nat → Int32) → (Nat → Int32) → (Nat → Int32) → (Nat → Int32) → (Nat → Int32) → (Nat → Int32) → Option (Int32 × Int32 × Int32 × Int32 × (Nat → Int32) × (Nat → Int32) × (Nat → Int32) × (Nat → Int32) × (Nat → Int32) × (Nat → Int32) × (Nat → Int32) × (Nat → Int32) × (Nat → Int32))} {l3 : Int32} {l4 : Int32} {l5 : Int32} {l6 : Int32} {v_town_houses : Int32} {v_town_front : Int32} {v_town_downFor : Int32} {v_town_kindOf : (Nat → Int32)} {v_town_plotOf : (Nat → Int32)} {v_town_row : (Nat → Int32)} {v_town_standsOn : (Nat → Int32)} {v_track_0 : (Nat → Int32)} {v_track_1 : (Nat → Int32)} {v_track_2 : (Nat → Int32)} {v_track_3 : (Nat → Int32)} {v_track_4 : (Nat → Int32)}  {m_37 : Int32} (hN : 49999 < N) (h_w2_town_houses : RB 1 6 w2_town_houses) (h_w2_town_front : RB 0 11 w2_town_front) (h_w2_town_plotOf : RA (-1) 11 w2_town_plotOf) (h_w2_town_row : RA 0 5 w2_town_row) (h_w2_town_standsOn : RA (-1) 5 w2_town_standsOn) (h_w2_seen_size : RB 0 6 w2_seen_size) (h_w2_seen_house : RA 0 5 w2_seen_house) (h_w2_seen_night : RA 0 40 w2_seen_night) (h_a1 : RB 0 5 a1) (hK_37 : ∀ (l3 : Int32) (l4 : Int32) (l5 : Int32) (l6 : Int32) (v_town_houses : Int32) (v_town_front : Int32) (v_town_downFor : Int32) (v_town_kindOf : (Nat → Int32)) (v_town_plotOf : (Nat → Int32)) (v_town_row : (Nat → Int32)) (v_town_standsOn : (Nat → Int32)) (v_track_0 : (Nat → Int32)) (v_track_1 : (Nat → Int32)) (v_track_2 : (Nat → Int32)) (v_track_3 : (Nat → Int32)) (v_track_4 : (Nat → Int32)), RB 0 6 v_town_houses ∧ RB 0 11 v_town_front ∧ RA (-1) 11 v_town_plotOf ∧ RA 0 5 v_town_row ∧ RA (-1) 5 v_town_standsOn ∧ 0 ≤ l6 → ((40 : Int32) + 1 - l6) < m_37 → 0 < m_37 → Ok (fun r => RB 0 6 r.2.1 ∧ RB 0 11 r.2.2.1 ∧ RA (-1) 11 r.2.2.2.2.2.1 ∧ RA 0 5 r.2.2.2.2.2.2.1 ∧ RA (-1) 5 r.2.2.2.2.2.2.2.1) (K_37 l3 l4 l5 l6 v_town_houses v_town_front v_town_downFor v_town_kindOf v_town_plotOf v_town_row v_town_standsOn v_track_0 v_track_1 v_track_2 v_track_3 v_track_4)) (hI : RB 0 6 v_town_houses ∧ RB 0 11 v_town_front ∧ RA (-1) 11 v_town_plotOf ∧ RA 0 5 v_town_row ∧ RA (-1) 5 v_town_standsOn ∧ 0 ≤ l6) (hm_37 : ((40 : Int32) + 1 - l6) = m_37) : Ok (fun r => RB 0 6 r.2.1 ∧ RB 0 11 r.2.2.1 ∧ RA (-1) 11 r.2.2.2.2.2.1 ∧ RA 0 5 r.2.2.2.2.2.2.1 ∧ RA (-1) 5 r.2.2.2.2.2.2.2.1) (fX1_nightToLook_37 N w2_town_houses w2_town_front w2_town_downFor w2_town_kindOf w2_town_plotOf w2_town_row w2_town_standsOn w2_seen_size w2_seen_house w2_seen_night w2_seen_plot a1 K_37 l3 l4 l5 l6 v_town_houses v_town_front v_town_downFor v_town_kindOf v_town_plotOf v_town_row v_town_standsOn v_track_0 v_track_1 v_track_2 v_track_3 v_track_4) := by
  obtain ⟨h_v_town_houses, h_v_town_front, h_v_town_plotOf, h_v_town_row, h_v_town_standsOn, h_l6⟩ := hI
  unfold fX1_nightToLook_37
  refine ok_if (fun c_1 => ?_) (fun c_1 => ?_)
  · exact ok_s ⟨h_v_town_houses, h_v_town_front, h_v_town_plotOf, h_v_town_row, h_v_town_standsOn⟩
  · refine ok_b (tX1_leftAtWorst hN (by clear hm_37 hK_37; grind)) (fun x_48 hx => ?_)
    refine ok_if (fun c_2 => ?_) (fun c_2 => ?_)
    · exact hK_37 _ _ _ _ _ _ _ _ _ _ _ _ _ _ _ _ ⟨h_v_town_houses, h_v_town_front, h_v_town_plotOf, h_v_town_row, h_v_town_standsOn, (by clear hm_37 hK_37; grind)⟩ (by clear hK_37; grind) (by clear hK_37; grind)
    · exact hK_37 _ _ _ _ _ _ _ _ _ _ _ _ _ _ _ _ ⟨h_v_town_houses, h_v_town_front, h_v_town_plotOf, h_v_town_row, h_v_town_standsOn, (by clear hm_37 hK_37; grind)⟩ (by clear hK_37; grind) (by clear hK_37; grind)
theorem lX1_nightToLook_37 {N : Nat} {w2_town_houses : Int32} {w2_town_front : Int32} {w2_town_downFor : Int32} {w2_town_kindOf : (Nat → Int32)} {w2_town_plotOf : (Nat → Int32)} {w2_town_row : (Nat → Int32)} {w2_town_standsOn : (Nat → Int32)} {w2_seen_size : Int32} {w2_seen_house : (Nat → Int32)} {w2_seen_night : (Nat → Int32)} {w2_seen_plot : (Nat → Int32)} {a1 : Int32}  (hN : 49999 < N) (h_w2_town_houses : RB 1 6 w2_town_houses) (h_w2_town_front : RB 0 11 w2_town_front) (h_w2_town_plotOf : RA (-1) 11 w2_town_plotOf) (h_w2_town_row : RA 0 5 w2_town_row) (h_w2_town_standsOn : RA (-1) 5 w2_town_standsOn) (h_w2_seen_size : RB 0 6 w2_seen_size) (h_w2_seen_house : RA 0 5 w2_seen_house) (h_w2_seen_night : RA 0 40 w2_seen_night) (h_a1 : RB 0 5 a1)  : ∀ (l3 : Int32) (l4 : Int32) (l5 : Int32) (l6 : Int32) (v_town_houses : Int32) (v_town_front : Int32) (v_town_downFor : Int32) (v_town_kindOf : (Nat → Int32)) (v_town_plotOf : (Nat → Int32)) (v_town_row : (Nat → Int32)) (v_town_standsOn : (Nat → Int32)) (v_track_0 : (Nat → Int32)) (v_track_1 : (Nat → Int32)) (v_track_2 : (Nat → Int32)) (v_track_3 : (Nat → Int32)) (v_track_4 : (Nat → Int32)), RB 0 6 v_town_houses ∧ RB 0 11 v_town_front ∧ RA (-1) 11 v_town_plotOf ∧ RA 0 5 v_town_row ∧ RA (-1) 5 v_town_standsOn ∧ 0 ≤ l6 → ((40 : Int32) + 1 - l6) ≤ 49999 → Ok (fun r => RB 0 6 r.2.1 ∧ RB 0 11 r.2.2.1 ∧ RA (-1) 11 r.2.2.2.2.2.1 ∧ RA 0 5 r.2.2.2.2.2.2.1 ∧ RA (-1) 5 r.2.2.2.2.2.2.2.1) (lfix (fun (K : Int32 × Int32 × Int32 × Int32 × Int32 × Int32 × Int32 × (Nat → Int32) × (Nat → Int32) × (Nat → Int32) × (Nat → Int32) × (Nat → Int32) × (Nat → Int32) × (Nat → Int32) × (Nat → Int32) × (Nat → Int32) → Option (Int32 × Int32 × Int32 × Int32 × (Nat → Int32) × (Nat → Int32) × (Nat → Int32) × (Nat → Int32) × (Nat → Int32) × (Nat → Int32) × (Nat → Int32) × (Nat → Int32) × (Nat → Int32))) (a : Int32 × Int32 × Int32 × Int32 × Int32 × Int32 × Int32 × (Nat → Int32) × (Nat → Int32) × (Nat → Int32) × (Nat → Int32) × (Nat → Int32) × (Nat → Int32) × (Nat → Int32) × (Nat → Int32) × (Nat → Int32)) => fX1_nightToLook_37 N w2_town_houses w2_town_front w2_town_downFor w2_town_kindOf w2_town_plotOf w2_town_row w2_town_standsOn w2_seen_size w2_seen_house w2_seen_night w2_seen_plot a1 (fun (l3 : Int32) (l4 : Int32) (l5 : Int32) (l6 : Int32) (v_town_houses : Int32) (v_town_front : Int32) (v_town_downFor : Int32) (v_town_kindOf : (Nat → Int32)) (v_town_plotOf : (Nat → Int32)) (v_town_row : (Nat → Int32)) (v_town_standsOn : (Nat → Int32)) (v_track_0 : (Nat → Int32)) (v_track_1 : (Nat → Int32)) (v_track_2 : (Nat → Int32)) (v_track_3 : (Nat → Int32)) (v_track_4 : (Nat → Int32)) => K (l3, l4, l5, l6, v_town_houses, v_town_front, v_town_downFor, v_town_kindOf, v_town_plotOf, v_town_row, v_town_standsOn, v_track_0, v_track_1, v_track_2, v_track_3, v_track_4)) a.1 a.2.1 a.2.2.1 a.2.2.2.1 a.2.2.2.2.1 a.2.2.2.2.2.1 a.2.2.2.2.2.2.1 a.2.2.2.2.2.2.2.1 a.2.2.2.2.2.2.2.2.1 a.2.2.2.2.2.2.2.2.2.1 a.2.2.2.2.2.2.2.2.2.2.1 a.2.2.2.2.2.2.2.2.2.2.2.1 a.2.2.2.2.2.2.2.2.2.2.2.2.1 a.2.2.2.2.2.2.2.2.2.2.2.2.2.1 a.2.2.2.2.2.2.2.2.2.2.2.2.2.2.1 a.2.2.2.2.2.2.2.2.2.2.2.2.2.2.2) N (l3, l4, l5, l6, v_town_houses, v_town_front, v_town_downFor, v_town_kindOf, v_town_plotOf, v_town_row, v_town_standsOn, v_track_0, v_track_1, v_track_2, v_track_3, v_track_4)) := by
  intro l3 l4 l5 l6 v_town_houses v_town_front v_town_downFor v_town_kindOf v_town_plotOf v_town_row v_town_standsOn v_track_0 v_track_1 v_track_2 v_track_3 v_track_4 hI hM
  exact ok_l (I := fun (a : Int32 × Int32 × Int32 × Int32 × Int32 × Int32 × Int32 × (Nat → Int32) × (Nat → Int32) × (Nat → Int32) × (Nat → Int32) × (Nat → Int32) × (Nat → Int32) × (Nat → Int32) × (Nat → Int32) × (Nat → Int32)) => (RB 0 6 a.2.2.2.2.1 ∧ RB 0 11 a.2.2.2.2.2.1 ∧ RA (-1) 11 a.2.2.2.2.2.2.2.2.1 ∧ RA 0 5 a.2.2.2.2.2.2.2.2.2.1 ∧ RA (-1) 5 a.2.2.2.2.2.2.2.2.2.2.1 ∧ 0 ≤ a.2.2.2.1)) (M := fun (a : Int32 × Int32 × Int32 × Int32 × Int32 × Int32 × Int32 × (Nat → Int32) × (Nat → Int32) × (Nat → Int32) × (Nat → Int32) × (Nat → Int32) × (Nat → Int32) × (Nat → Int32) × (Nat → Int32) × (Nat → Int32)) => ((40 : Int32) + 1 - a.2.2.2.1)) (fun K a hI hK => sX1_nightToLook_37  hN h_w2_town_houses h_w2_town_front h_w2_town_plotOf h_w2_town_row h_w2_town_standsOn h_w2_seen_size h_w2_seen_house h_w2_seen_night h_a1  (fun l3 l4 l5 l6 v_town_houses v_town_front v_town_downFor v_town_kindOf v_town_plotOf v_town_row v_town_standsOn v_track_0 v_track_1 v_track_2 v_track_3 v_track_4 hI2  hlt hp => hK (l3, l4, l5, l6, v_town_houses, v_town_front, v_town_downFor, v_town_kindOf, v_town_plotOf, v_town_row, v_town_standsOn, v_track_0, v_track_1, v_track_2, v_track_3, v_track_4) hI2 hlt hp) hI  rfl) N _ hI hN hM
theorem tX1_nightToLook {N : Nat} {w2_town_houses : Int32} {w2_town_front : Int32} {w2_town_downFor : Int32} {w2_town_kindOf : (Nat → Int32)} {w2_town_plotOf : (Nat → Int32)} {w2_town_row : (Nat → Int32)} {w2_town_standsOn : (Nat → Int32)} {w2_seen_size : Int32} {w2_seen_house : (Nat → Int32)} {w2_seen_night : (Nat → Int32)} {w2_seen_plot : (Nat → Int32)} {a1 : Int32} {v_town_houses : Int32} {v_town_front : Int32} {v_town_downFor : Int32} {v_town_kindOf : (Nat → Int32)} {v_town_plotOf : (Nat → Int32)} {v_town_row : (Nat → Int32)} {v_town_standsOn : (Nat → Int32)} {v_track_0 : (Nat → Int32)} {v_track_1 : (Nat → Int32)} {v_track_2 : (Nat → Int32)} {v_track_3 : (Nat → Int32)} {v_track_4 : (Nat → Int32)}  (hN : 49999 < N) (h_w2_town_houses : RB 1 6 w2_town_houses) (h_w2_town_front : RB 0 11 w2_town_front) (h_w2_town_plotOf : RA (-1) 11 w2_town_plotOf) (h_w2_town_row : RA 0 5 w2_town_row) (h_w2_town_standsOn : RA (-1) 5 w2_town_standsOn) (h_w2_seen_size : RB 0 6 w2_seen_size) (h_w2_seen_house : RA 0 5 w2_seen_house) (h_w2_seen_night : RA 0 40 w2_seen_night) (h_a1 : RB 0 5 a1) (h_v_town_houses : RB 0 6 v_town_houses) (h_v_town_front : RB 0 11 v_town_front) (h_v_town_plotOf : RA (-1) 11 v_town_plotOf) (h_v_town_row : RA 0 5 v_town_row) (h_v_town_standsOn : RA (-1) 5 v_town_standsOn)  : Ok (fun r => RB 0 6 r.2.1 ∧ RB 0 11 r.2.2.1 ∧ RA (-1) 11 r.2.2.2.2.2.1 ∧ RA 0 5 r.2.2.2.2.2.2.1 ∧ RA (-1) 5 r.2.2.2.2.2.2.2.1) (fX1_nightToLook N w2_town_houses w2_town_front w2_town_downFor w2_town_kindOf w2_town_plotOf w2_town_row w2_town_standsOn w2_seen_size w2_seen_house w2_seen_night w2_seen_plot a1 v_town_houses v_town_front v_town_downFor v_town_kindOf v_town_plotOf v_town_row v_town_standsOn v_track_0 v_track_1 v_track_2 v_track_3 v_track_4) := by
  unfold fX1_nightToLook
  refine ok_b (tX1_follow hN h_w2_town_houses h_w2_town_front h_w2_town_plotOf h_w2_town_row h_w2_town_standsOn h_a1 (by grind) h_v_town_houses h_v_town_front h_v_town_plotOf h_v_town_row h_v_town_standsOn) (fun x_8 hx => ?_)
  obtain ⟨h_x_8_0, h_x_8_1, h_x_8_2, h_x_8_3, h_x_8_4⟩ := hx
  refine ok_b (tX1_kindsByTracks hN (nz6 (by grind)) h_w2_seen_size h_w2_seen_house h_w2_seen_night) (fun x_17 hx => ?_)
  refine ok_if (fun c_1 => ?_) (fun c_1 => ?_)
  · exact ok_s ⟨h_x_8_0, h_x_8_1, h_x_8_2, h_x_8_3, h_x_8_4⟩
  · exact lX1_nightToLook_37  hN h_w2_town_houses h_w2_town_front h_w2_town_plotOf h_w2_town_row h_w2_town_standsOn h_w2_seen_size h_w2_seen_house h_w2_seen_night h_a1  _ _ _ _ _ _ _ _ _ _ _ _ _ _ _ _ ⟨h_x_8_0, h_x_8_1, h_x_8_2, h_x_8_3, h_x_8_4, (by grind)⟩  (by grind)
theorem tX2_add {N : Nat} {n_o : Nat} {a1 : Int32} {a2 : Int32} {a3 : Int32} {v_size : Int32} {v_house : (Nat → Int32)} {v_plot : (Nat → Int32)} {v_night : (Nat → Int32)} (hN : 49999 < N) (f_0 : NZ n_o v_size) (h_a1 : RB 0 5 a1) (h_a3 : RB 0 40 a3) (h_v_house : RA 0 5 v_house) (h_v_night : RA 0 40 v_night) : Ok (fun r => RA 0 5 r.2.2.1 ∧ RA 0 40 r.2.2.2.2 ∧ (0 ≤ r.2.1 ∧ r.2.1 ≤ Int32.ofNat n_o) ∧ (v_size < Int32.ofNat n_o ∧ r.1 = v_size + 1 ∧ r.2.1 = v_size + 1 ∨ ¬ v_size < Int32.ofNat n_o ∧ r.1 = -104 ∧ r.2.1 = v_size)) (fX2_add N n_o a1 a2 a3 v_size v_house v_plot v_night) := by
  unfold fX2_add
  refine ok_if (fun c => ?_) (fun c => ?_)
  · have hg := ngy f_0 c
    have h0 := f_0.1
    have hl := f_0.le
    refine ok_g hg (ok_g hg (ok_g hg (ok_s ⟨RA.upd h_v_house h_a1, RA.upd h_v_night h_a3, ?_, Or.inl ⟨c, rfl, rfl⟩⟩)))
    refine ⟨by show 0 ≤ v_size + 1; grind, ?_⟩
    show v_size + 1 ≤ Int32.ofNat n_o
    grind
  · exact ok_s ⟨h_v_house, h_v_night, ⟨f_0.1, f_0.2.1⟩, Or.inr ⟨c, rfl, rfl⟩⟩
theorem tX2_clear {N : Nat} {v_size : Int32}  (hN : 49999 < N)   : Ok (fun r => (r.1 = v_size ∧ r.2 = 0)) (fX2_clear N v_size) := by
  unfold fX2_clear
  exact ok_s (by grind)
theorem tX2_copyFrom {N : Nat} {n_o : Nat} {n_a1 : Nat} {w1_size : Int32} {w1_house : (Nat → Int32)} {w1_plot : (Nat → Int32)} {w1_night : (Nat → Int32)} {v_size : Int32} {v_house : (Nat → Int32)} {v_plot : (Nat → Int32)} {v_night : (Nat → Int32)} (hN : 49999 < N) (f_0 : NZ n_o w1_size) (f_1 : NZ n_a1 w1_size) (h_w1_house : RA 0 5 w1_house) (h_w1_night : RA 0 40 w1_night) (h_v_house : RA 0 5 v_house) (h_v_night : RA 0 40 v_night) : Ok (fun r => RA 0 5 r.2.1 ∧ RA 0 40 r.2.2.2 ∧ (r.1 = w1_size)) (fX2_copyFrom N n_o n_a1 w1_size w1_house w1_plot w1_night v_size v_house v_plot v_night) := by
  unfold fX2_copyFrom
  have e : (if (Int32.ofNat n_o) < w1_size then (Int32.ofNat n_o) else w1_size) = w1_size := if_neg (by have := f_0.2.1; grind)
  rw [e]
  have hg : ¬ (w1_size < 0 ∨ n_a1 < (w1_size).toNatClampNeg ∨ n_o < (w1_size).toNatClampNeg) := ngc f_0 f_1
  exact ok_g hg (ok_g hg (ok_g hg (ok_s ⟨RA.cpy h_w1_house h_v_house, RA.cpy h_w1_night h_v_night, rfl⟩)))
theorem sX2_trueBehind_5 {N : Nat} {n_o : Nat} {v_size : Int32} {v_night : (Nat → Int32)} {v_house : (Nat → Int32)} {w2_plotOf : (Nat → Int32)} {v_plot : (Nat → Int32)} {a1 : Int32} {K_5 : Int32 → Int32 → Option (Int32)} {l3 : Int32} {l4 : Int32}  {m_5 : Int32} (hN : 49999 < N) (f_0 : NZ n_o v_size) (h_v_night : RA 0 40 v_night) (h_v_house : RA 0 5 v_house) (h_w2_plotOf : RA (-1) 11 w2_plotOf) (hK_5 : ∀ (l3 : Int32) (l4 : Int32), 0 ≤ l4 → (v_size - l4) < m_5 → 0 < m_5 → Ok (fun r => True) (K_5 l3 l4)) (hI : 0 ≤ l4) (hm_5 : (v_size - l4) = m_5) : Ok (fun r => True) (fX2_trueBehind_5 N n_o v_size v_night v_house w2_plotOf v_plot a1 K_5 l3 l4) := by
  have h_l4 := hI
  have fz_0 := f_0.le
  have fy_0 := f_0.2.1
  unfold fX2_trueBehind_5
  refine ok_if (fun c_1 => ?_) (fun c_1 => ?_)
  · exact ok_s trivial
  · refine ok_g (ngz f_0 (by clear hm_5 hK_5; grind)) ?_
    refine ok_if (fun c_2 => ?_) (fun c_2 => ?_)
    · refine ok_g (ngz f_0 (by clear hm_5 hK_5; grind)) ?_
      refine ok_g (ng6 (by clear hm_5 hK_5; have := h_v_house ((l4).toNatClampNeg); grind)) ?_
      refine ok_g (ngz f_0 (by clear hm_5 hK_5; grind)) ?_
      refine ok_if (fun c_3 => ?_) (fun c_3 => ?_)
      · exact hK_5 _ _ (by clear hm_5 hK_5; grind) (by clear hK_5; grind) (by clear hK_5; grind)
      · exact hK_5 _ _ (by clear hm_5 hK_5; grind) (by clear hK_5; grind) (by clear hK_5; grind)
    · exact hK_5 _ _ (by clear hm_5 hK_5; grind) (by clear hK_5; grind) (by clear hK_5; grind)
theorem lX2_trueBehind_5 {N : Nat} {n_o : Nat} {v_size : Int32} {v_night : (Nat → Int32)} {v_house : (Nat → Int32)} {w2_plotOf : (Nat → Int32)} {v_plot : (Nat → Int32)} {a1 : Int32}  (hN : 49999 < N) (f_0 : NZ n_o v_size) (h_v_night : RA 0 40 v_night) (h_v_house : RA 0 5 v_house) (h_w2_plotOf : RA (-1) 11 w2_plotOf)  : ∀ (l3 : Int32) (l4 : Int32), 0 ≤ l4 → (v_size - l4) ≤ 49999 → Ok (fun r => True) (lfix (fun (K : Int32 × Int32 → Option (Int32)) (a : Int32 × Int32) => fX2_trueBehind_5 N n_o v_size v_night v_house w2_plotOf v_plot a1 (fun (l3 : Int32) (l4 : Int32) => K (l3, l4)) a.1 a.2) N (l3, l4)) := by
  intro l3 l4 hI hM
  exact ok_l (I := fun (a : Int32 × Int32) => (0 ≤ a.2)) (M := fun (a : Int32 × Int32) => (v_size - a.2)) (fun K a hI hK => sX2_trueBehind_5  hN f_0 h_v_night h_v_house h_w2_plotOf  (fun l3 l4 hI2  hlt hp => hK (l3, l4) hI2 hlt hp) hI  rfl) N _ hI hN hM
theorem tX2_trueBehind {N : Nat} {n_o : Nat} {v_size : Int32} {v_night : (Nat → Int32)} {v_house : (Nat → Int32)} {w2_plotOf : (Nat → Int32)} {v_plot : (Nat → Int32)} {a1 : Int32}  (hN : 49999 < N) (f_0 : NZ n_o v_size) (h_v_night : RA 0 40 v_night) (h_v_house : RA 0 5 v_house) (h_w2_plotOf : RA (-1) 11 w2_plotOf)  : Ok (fun r => True) (fX2_trueBehind N n_o v_size v_night v_house w2_plotOf v_plot a1) := by
  have fz_0 := f_0.le
  have fy_0 := f_0.2.1
  unfold fX2_trueBehind
  exact lX2_trueBehind_5  hN f_0 h_v_night h_v_house h_w2_plotOf  _ _ (by grind)  (by grind)
theorem tX3_write {N : Nat} {a1 : Int32} {v_size : Int32} {v_letters : (Nat → Int32)}  (hN : 49999 < N) (h_a1 : RB 0 126 a1) (h_v_size : RB 0 32 v_size) (h_v_letters : RA 0 126 v_letters)  : Ok (fun r => RB 0 32 r.1 ∧ RA 0 126 r.2 ∧ (v_size < 32 ∧ r.1 = v_size + 1 ∧ r.2 = upd v_letters (v_size).toNatClampNeg a1 ∨ 32 ≤ v_size ∧ r.1 = v_size ∧ r.2 = v_letters)) (fX3_write N a1 v_size v_letters) := by
  unfold fX3_write
  refine ok_if (fun c_1 => ?_) (fun c_1 => ?_)
  · exact ok_s ⟨h_v_size, h_v_letters, (by grind)⟩
  · refine ok_g (ng32 (by grind)) ?_
    exact ok_s ⟨(by grind), (RA.upd h_v_letters (by grind)), (by grind)⟩
theorem kb_i8 : ∀ j : Fin 127, (nI j.val).toInt8.toInt32 = nI j.val ∧ ((nI j.val).toUInt32 % 65536).toInt32 = nI j.val := by decide +kernel
theorem ic_ok {N : Nat} {c : Int32} (hN : 49999 < N) (hc : c.toInt8.toInt32 = c) : fJ1_indexOfChar_4cfef_a0V N c 0 5 = some (kc c) := by
  obtain ⟨M, rfl⟩ : ∃ M, N = M + 6 := ⟨N - 6, by omega⟩
  unfold fJ1_indexOfChar_4cfef_a0V
  rw [hc]
  have st : ∀ (n : Nat) (l : Int32), ¬ (5 : Int32) ≤ l → ¬ (l < 0 ∨ 5 ≤ l.toNatClampNeg) → lfix (fun (K : Int32 × Int32 → Option (Int32)) (a : Int32 × Int32) => fJ1_indexOfChar_4cfef_a0V_7 (M + 6) c 0 5 (fun (l4 : Int32) (l5 : Int32) => K (l4, l5)) a.1 a.2) (n + 1) (c, l) = if kb l.toNatClampNeg = c then some l else lfix (fun (K : Int32 × Int32 → Option (Int32)) (a : Int32 × Int32) => fJ1_indexOfChar_4cfef_a0V_7 (M + 6) c 0 5 (fun (l4 : Int32) (l5 : Int32) => K (l4, l5)) a.1 a.2) n (c, l + 1) := by
    intro n l h1 h2
    rw [lfix_s]
    show fJ1_indexOfChar_4cfef_a0V_7 (M + 6) c 0 5 _ c l = _
    unfold fJ1_indexOfChar_4cfef_a0V_7
    rw [if_neg h1, if_neg h2]
  have en : ∀ (n : Nat), lfix (fun (K : Int32 × Int32 → Option (Int32)) (a : Int32 × Int32) => fJ1_indexOfChar_4cfef_a0V_7 (M + 6) c 0 5 (fun (l4 : Int32) (l5 : Int32) => K (l4, l5)) a.1 a.2) (n + 1) (c, 5) = some (-1) := by
    intro n
    rw [lfix_s]
    show fJ1_indexOfChar_4cfef_a0V_7 (M + 6) c 0 5 _ c 5 = _
    unfold fJ1_indexOfChar_4cfef_a0V_7
    rw [if_pos (by decide)]
  rw [st (M + 5) 0 (by decide) (by decide), show (0 : Int32) + 1 = 1 from rfl, st (M + 4) 1 (by decide) (by decide), show (1 : Int32) + 1 = 2 from rfl, st (M + 3) 2 (by decide) (by decide), show (2 : Int32) + 1 = 3 from rfl, st (M + 2) 3 (by decide) (by decide), show (3 : Int32) + 1 = 4 from rfl, st (M + 1) 4 (by decide) (by decide), show (4 : Int32) + 1 = 5 from rfl, en M]
  rw [show kb ((0 : Int32)).toNatClampNeg = 104 from rfl, show kb ((1 : Int32)).toNatClampNeg = 101 from rfl, show kb ((2 : Int32)).toNatClampNeg = 116 from rfl, show kb ((3 : Int32)).toNatClampNeg = 115 from rfl, show kb ((4 : Int32)).toNatClampNeg = 99 from rfl]
  unfold kc
  grind
theorem tX3_kindBy {N : Nat} {a0 : Int32} (hN : 49999 < N) (h_a0 : RB 0 126 a0) : Ok (fun r => (r = kc a0)) (fX3_kindBy N a0) := by
  obtain ⟨j, hj, rfl⟩ := nI_of2 (x := a0) (M := 126) (n := 126) rfl (by grind) h_a0.2
  have hk := kb_i8 ⟨j, by omega⟩
  have h1 : (nI j).toInt8.toInt32 = nI j := hk.1
  have h2 : ((nI j).toUInt32 % 65536).toInt32 = nI j := hk.2
  have q0 : ¬ nI j < 0 := by grind
  have q1 : ¬ (255 : Int32) < nI j := by grind
  unfold fX3_kindBy fJ0_indexOf_0f7a4_oK fJ0_indexOf_7cf53_oK fJ0_isLatin1_aae02_oK fJ0_length_8abf5_oK fJ0_coder_7d493_oK
  rw [h2]
  have e : fJ1_indexOf_4cfef_a0V N (nI j) 0 5 = some (kc (nI j)) := by
    unfold fJ1_indexOf_4cfef_a0V fJ1_canEncode_9a6ad
    rw [if_neg q0, if_neg q1]
    simp only [Option.bind_some]
    rw [if_neg (by decide), if_pos (by decide)]
    show (fJ1_indexOfChar_4cfef_a0V N (nI j) 0 5).bind _ = _
    rw [ic_ok hN h1]
    rfl
  have s5 : (5 : Int32) >>> ((0 : Int32) &&& 31) = 5 := by decide
  simp only [Option.bind_some]
  rw [if_neg (by decide), s5, e]
  exact ok_s rfl
