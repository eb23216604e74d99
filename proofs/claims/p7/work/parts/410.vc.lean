theorem tX3_houses {N : Nat} {v_size : Int32} (hN : 49999 < N) (h_v_size : RB 0 32 v_size) : Ok (fun r => (18 ≤ v_size → 2 ≤ r ∧ r ≤ 6 ∧ r = (v_size - 12) / 3)) (fX3_houses N v_size) := by
  unfold fX3_houses
  refine ok_s (fun h18 => ?_)
  have hb : (6 : Int32) ≤ v_size - 12 ∧ v_size - 12 ≤ 20 := by grind
  have e := (mdc (x := v_size - 12) (c := 3) (by decide) (by grind)).2
  have z3 : (3 : Int32).toInt = 3 := rfl
  have z6 : (6 : Int32).toInt = 6 := rfl
  have z2 : (2 : Int32).toInt = 2 := rfl
  have z20 : (20 : Int32).toInt = 20 := rfl
  rw [fa_le, fa_le, z6, z20] at hb
  rw [z3] at e
  have hc : ¬ (6 : Int32) < (v_size - 12) / 3 := by rw [fa_lt, e, z6]; omega
  rw [if_neg hc]
  refine ⟨?_, ?_, rfl⟩
  · rw [fa_le, e, z2]; omega
  · rw [fa_le, e, z6]; omega
theorem tX3_worthWritten {N : Nat} {v_letters : (Nat → Int32)} {a1 : Int32}  (hN : 49999 < N) (h_v_letters : RA 0 126 v_letters) (h_a1 : RB 0 31 a1)  : Ok (fun r => (r = v_letters a1.toNatClampNeg - 48)) (fX3_worthWritten N v_letters a1) := by
  unfold fX3_worthWritten
  refine ok_g (ng32 (by grind)) ?_
  exact ok_s (by have := h_v_letters ((a1).toNatClampNeg); grind)
theorem tX3_likeWritten {N : Nat} {v_letters : (Nat → Int32)} {a1 : Int32}  (hN : 49999 < N) (h_v_letters : RA 0 126 v_letters) (h_a1 : RB 0 5 a1)  : Ok (fun r => (r = v_letters (14 + 3 * a1.toNatClampNeg) - 97)) (fX3_likeWritten N v_letters a1) := by
  unfold fX3_likeWritten
  refine ok_g (ng32 (by have := ix3 h_a1; grind)) ?_
  exact ok_s (by have := ix3 h_a1; have := h_v_letters (((((12 : Int32) + ((3 : Int32) * a1)) + (2 : Int32))).toNatClampNeg); grind)
theorem sX0_readFrom_35 {N : Nat} {w1_size : Int32} {w1_letters : (Nat → Int32)} {K_35 : Int32 → Int32 → (Nat → Int32) → (Nat → Int32) → Option (Int32 × (Nat → Int32) × (Nat → Int32))} {l2 : Int32} {v_houses : Int32} {v_worth : (Nat → Int32)} {v_liked : (Nat → Int32)} {g_v_worth : (Nat → Int32)} {g_v_liked : (Nat → Int32)} {m_35 : Int32} (hN : 49999 < N) (h_w1_size : RB 0 32 w1_size) (h_w1_letters : RA 0 126 w1_letters) (hK_35 : ∀ (l2 : Int32) (v_houses : Int32) (v_worth : (Nat → Int32)) (v_liked : (Nat → Int32)), RB 0 6 v_houses ∧ 0 ≤ l2 ∧ (v_houses = (w1_size - 12) / 3) ∧ (2 ≤ v_houses) ∧ (v_worth = fl 12 (fun k => w1_letters k - 48) g_v_worth) ∧ (v_liked = fl l2 (fun k => w1_letters (14 + 3 * k) - 97) g_v_liked) ∧ (l2 ≤ v_houses) → (v_houses - l2) < m_35 → 0 < m_35 → Ok (fun r => RB 0 6 r.1 ∧ (r.1 = (w1_size - 12) / 3) ∧ (2 ≤ r.1) ∧ (r.2.1 = fl 12 (fun k => w1_letters k - 48) g_v_worth) ∧ (r.2.2 = fl r.1 (fun k => w1_letters (14 + 3 * k) - 97) g_v_liked)) (K_35 l2 v_houses v_worth v_liked)) (hI : RB 0 6 v_houses ∧ 0 ≤ l2 ∧ (v_houses = (w1_size - 12) / 3) ∧ (2 ≤ v_houses) ∧ (v_worth = fl 12 (fun k => w1_letters k - 48) g_v_worth) ∧ (v_liked = fl l2 (fun k => w1_letters (14 + 3 * k) - 97) g_v_liked) ∧ (l2 ≤ v_houses)) (hm_35 : (v_houses - l2) = m_35) : Ok (fun r => RB 0 6 r.1 ∧ (r.1 = (w1_size - 12) / 3) ∧ (2 ≤ r.1) ∧ (r.2.1 = fl 12 (fun k => w1_letters k - 48) g_v_worth) ∧ (r.2.2 = fl r.1 (fun k => w1_letters (14 + 3 * k) - 97) g_v_liked)) (fX0_readFrom_35 N w1_size w1_letters K_35 l2 v_houses v_worth v_liked) := by
  obtain ⟨h_v_houses, h_l2, e_0, e_1, e_2, e_3, e_4⟩ := hI
  unfold fX0_readFrom_35
  refine ok_if (fun c_1 => ?_) (fun c_1 => ?_)
  · exact ok_s ⟨h_v_houses, (by clear hm_35 hK_35; grind), (by clear hm_35 hK_35; grind), e_2, (fl_end e_3 (by clear hm_35 hK_35 e_3 e_2; grind))⟩
  · refine ok_b (tX3_likeWritten hN h_w1_letters (by clear hm_35 hK_35; grind)) (fun x_50 hx => ?_)
    have h_x_50_0 := hx
    refine ok_g (ng6 (by clear hm_35 hK_35; grind)) ?_
    exact hK_35 _ _ _ _ ⟨h_v_houses, (by clear hm_35 hK_35; grind), (by clear hm_35 hK_35; grind), (by clear hm_35 hK_35; grind), e_2, (fl_step e_3 h_x_50_0 (by clear hm_35 hK_35 e_3 e_2; grind)), (by clear hm_35 hK_35; grind)⟩ (by clear hK_35; grind) (by clear hK_35; grind)
theorem lX0_readFrom_35 {N : Nat} {w1_size : Int32} {w1_letters : (Nat → Int32)} {g_v_worth : (Nat → Int32)} {g_v_liked : (Nat → Int32)} (hN : 49999 < N) (h_w1_size : RB 0 32 w1_size) (h_w1_letters : RA 0 126 w1_letters)  : ∀ (l2 : Int32) (v_houses : Int32) (v_worth : (Nat → Int32)) (v_liked : (Nat → Int32)), RB 0 6 v_houses ∧ 0 ≤ l2 ∧ (v_houses = (w1_size - 12) / 3) ∧ (2 ≤ v_houses) ∧ (v_worth = fl 12 (fun k => w1_letters k - 48) g_v_worth) ∧ (v_liked = fl l2 (fun k => w1_letters (14 + 3 * k) - 97) g_v_liked) ∧ (l2 ≤ v_houses) → (v_houses - l2) ≤ 49999 → Ok (fun r => RB 0 6 r.1 ∧ (r.1 = (w1_size - 12) / 3) ∧ (2 ≤ r.1) ∧ (r.2.1 = fl 12 (fun k => w1_letters k - 48) g_v_worth) ∧ (r.2.2 = fl r.1 (fun k => w1_letters (14 + 3 * k) - 97) g_v_liked)) (lfix (fun (K : Int32 × Int32 × (Nat → Int32) × (Nat → Int32) → Option (Int32 × (Nat → Int32) × (Nat → Int32))) (a : Int32 × Int32 × (Nat → Int32) × (Nat → Int32)) => fX0_readFrom_35 N w1_size w1_letters (fun (l2 : Int32) (v_houses : Int32) (v_worth : (Nat → Int32)) (v_liked : (Nat → Int32)) => K (l2, v_houses, v_worth, v_liked)) a.1 a.2.1 a.2.2.1 a.2.2.2) N (l2, v_houses, v_worth, v_liked)) := by
  intro l2 v_houses v_worth v_liked hI hM
  exact ok_l (I := fun (a : Int32 × Int32 × (Nat → Int32) × (Nat → Int32)) => (RB 0 6 a.2.1 ∧ 0 ≤ a.1 ∧ (a.2.1 = (w1_size - 12) / 3) ∧ (2 ≤ a.2.1) ∧ (a.2.2.1 = fl 12 (fun k => w1_letters k - 48) g_v_worth) ∧ (a.2.2.2 = fl a.1 (fun k => w1_letters (14 + 3 * k) - 97) g_v_liked) ∧ (a.1 ≤ a.2.1))) (M := fun (a : Int32 × Int32 × (Nat → Int32) × (Nat → Int32)) => (a.2.1 - a.1)) (fun K a hI hK => sX0_readFrom_35 (g_v_worth := g_v_worth) (g_v_liked := g_v_liked) hN h_w1_size h_w1_letters  (fun l2 v_houses v_worth v_liked hI2  hlt hp => hK (l2, v_houses, v_worth, v_liked) hI2 hlt hp) hI  rfl) N _ hI hN hM
theorem sX0_readFrom_10 {N : Nat} {w1_size : Int32} {w1_letters : (Nat → Int32)} {K_10 : Int32 → Int32 → (Nat → Int32) → (Nat → Int32) → Option (Int32 × (Nat → Int32) × (Nat → Int32))} {l2 : Int32} {v_houses : Int32} {v_worth : (Nat → Int32)} {v_liked : (Nat → Int32)} {g_v_worth : (Nat → Int32)} {g_v_liked : (Nat → Int32)} {m_10 : Int32} (hN : 49999 < N) (h_w1_size : RB 0 32 w1_size) (h_w1_letters : RA 0 126 w1_letters) (hK_10 : ∀ (l2 : Int32) (v_houses : Int32) (v_worth : (Nat → Int32)) (v_liked : (Nat → Int32)), RB 0 6 v_houses ∧ 0 ≤ l2 ∧ (v_houses = (w1_size - 12) / 3) ∧ (2 ≤ v_houses) ∧ (v_worth = fl l2 (fun k => w1_letters k - 48) g_v_worth) ∧ (v_liked = g_v_liked) ∧ (l2 ≤ 12) → ((12 : Int32) - l2) < m_10 → 0 < m_10 → Ok (fun r => RB 0 6 r.1 ∧ (r.1 = (w1_size - 12) / 3) ∧ (2 ≤ r.1) ∧ (r.2.1 = fl 12 (fun k => w1_letters k - 48) g_v_worth) ∧ (r.2.2 = fl r.1 (fun k => w1_letters (14 + 3 * k) - 97) g_v_liked)) (K_10 l2 v_houses v_worth v_liked)) (hI : RB 0 6 v_houses ∧ 0 ≤ l2 ∧ (v_houses = (w1_size - 12) / 3) ∧ (2 ≤ v_houses) ∧ (v_worth = fl l2 (fun k => w1_letters k - 48) g_v_worth) ∧ (v_liked = g_v_liked) ∧ (l2 ≤ 12)) (hm_10 : ((12 : Int32) - l2) = m_10) : Ok (fun r => RB 0 6 r.1 ∧ (r.1 = (w1_size - 12) / 3) ∧ (2 ≤ r.1) ∧ (r.2.1 = fl 12 (fun k => w1_letters k - 48) g_v_worth) ∧ (r.2.2 = fl r.1 (fun k => w1_letters (14 + 3 * k) - 97) g_v_liked)) (fX0_readFrom_10 N w1_size w1_letters K_10 l2 v_houses v_worth v_liked) := by
  obtain ⟨h_v_houses, h_l2, e_0, e_1, e_2, e_3, e_4⟩ := hI
  unfold fX0_readFrom_10
  refine ok_if (fun c_1 => ?_) (fun c_1 => ?_)
  · exact lX0_readFrom_35 (g_v_worth := g_v_worth) (g_v_liked := g_v_liked) hN h_w1_size h_w1_letters  _ _ _ _ ⟨h_v_houses, (by clear hm_10 hK_10; grind), (by clear hm_10 hK_10; grind), (by clear hm_10 hK_10; grind), (fl_end e_2 (by clear hm_10 hK_10 e_2; grind)), (by rw [e_3]; exact fl_0 _ _), (by clear hm_10 hK_10; grind)⟩  (by clear hm_10 hK_10; grind)
  · refine ok_b (tX3_worthWritten hN h_w1_letters (by clear hm_10 hK_10; grind)) (fun x_23 hx => ?_)
    have h_x_23_0 := hx
    refine ok_g (ng12 (by clear hm_10 hK_10; grind)) ?_
    exact hK_10 _ _ _ _ ⟨h_v_houses, (by clear hm_10 hK_10; grind), (by clear hm_10 hK_10; grind), (by clear hm_10 hK_10; grind), (fl_step e_2 h_x_23_0 (by clear hm_10 hK_10 e_2; grind)), (by clear hm_10 hK_10; grind), (by clear hm_10 hK_10; grind)⟩ (by clear hK_10; grind) (by clear hK_10; grind)
theorem lX0_readFrom_10 {N : Nat} {w1_size : Int32} {w1_letters : (Nat → Int32)} {g_v_worth : (Nat → Int32)} {g_v_liked : (Nat → Int32)} (hN : 49999 < N) (h_w1_size : RB 0 32 w1_size) (h_w1_letters : RA 0 126 w1_letters)  : ∀ (l2 : Int32) (v_houses : Int32) (v_worth : (Nat → Int32)) (v_liked : (Nat → Int32)), RB 0 6 v_houses ∧ 0 ≤ l2 ∧ (v_houses = (w1_size - 12) / 3) ∧ (2 ≤ v_houses) ∧ (v_worth = fl l2 (fun k => w1_letters k - 48) g_v_worth) ∧ (v_liked = g_v_liked) ∧ (l2 ≤ 12) → ((12 : Int32) - l2) ≤ 49999 → Ok (fun r => RB 0 6 r.1 ∧ (r.1 = (w1_size - 12) / 3) ∧ (2 ≤ r.1) ∧ (r.2.1 = fl 12 (fun k => w1_letters k - 48) g_v_worth) ∧ (r.2.2 = fl r.1 (fun k => w1_letters (14 + 3 * k) - 97) g_v_liked)) (lfix (fun (K : Int32 × Int32 × (Nat → Int32) × (Nat → Int32) → Option (Int32 × (Nat → Int32) × (Nat → Int32))) (a : Int32 × Int32 × (Nat → Int32) × (Nat → Int32)) => fX0_readFrom_10 N w1_size w1_letters (fun (l2 : Int32) (v_houses : Int32) (v_worth : (Nat → Int32)) (v_liked : (Nat → Int32)) => K (l2, v_houses, v_worth, v_liked)) a.1 a.2.1 a.2.2.1 a.2.2.2) N (l2, v_houses, v_worth, v_liked)) := by
  intro l2 v_houses v_worth v_liked hI hM
  exact ok_l (I := fun (a : Int32 × Int32 × (Nat → Int32) × (Nat → Int32)) => (RB 0 6 a.2.1 ∧ 0 ≤ a.1 ∧ (a.2.1 = (w1_size - 12) / 3) ∧ (2 ≤ a.2.1) ∧ (a.2.2.1 = fl a.1 (fun k => w1_letters k - 48) g_v_worth) ∧ (a.2.2.2 = g_v_liked) ∧ (a.1 ≤ 12))) (M := fun (a : Int32 × Int32 × (Nat → Int32) × (Nat → Int32)) => ((12 : Int32) - a.1)) (fun K a hI hK => sX0_readFrom_10 (g_v_worth := g_v_worth) (g_v_liked := g_v_liked) hN h_w1_size h_w1_letters  (fun l2 v_houses v_worth v_liked hI2  hlt hp => hK (l2, v_houses, v_worth, v_liked) hI2 hlt hp) hI  rfl) N _ hI hN hM
theorem tX0_readFrom {N : Nat} {w1_size : Int32} {w1_letters : (Nat → Int32)} {v_houses : Int32} {v_worth : (Nat → Int32)} {v_liked : (Nat → Int32)}  (hN : 49999 < N) (h_w1_size : RB 0 32 w1_size) (h_w1_letters : RA 0 126 w1_letters) (h_v_houses : RB 0 6 v_houses) (e_0 : 18 ≤ w1_size)  : Ok (fun r => RB 0 6 r.1 ∧ (r.1 = (w1_size - 12) / 3) ∧ (2 ≤ r.1) ∧ (r.2.1 = fl 12 (fun k => w1_letters k - 48) v_worth) ∧ (r.2.2 = fl r.1 (fun k => w1_letters (14 + 3 * k) - 97) v_liked)) (fX0_readFrom N w1_size w1_letters v_houses v_worth v_liked) := by
  unfold fX0_readFrom
  refine ok_b (tX3_houses hN h_w1_size) (fun x_2 hx => ?_)
  have h_x_2_0 := hx
  exact lX0_readFrom_10 (g_v_worth := v_worth) (g_v_liked := v_liked) hN h_w1_size h_w1_letters  _ _ _ _ ⟨(by grind), (by grind), (by grind), (by grind), (fl_0 _ _), (by grind), (by grind)⟩  (by grind)
theorem sX0_likersOf_4 {N : Nat} {v_houses : Int32} {v_liked : (Nat → Int32)} {a1 : Int32} {K_4 : Int32 → Int32 → Option (Int32)} {l2 : Int32} {l3 : Int32}  {m_4 : Int32} (hN : 49999 < N) (h_v_houses : RB 0 6 v_houses) (hK_4 : ∀ (l2 : Int32) (l3 : Int32), 0 ≤ l3 ∧ (l2 = sm (fun k => if v_liked k = a1 then 1 else 0) l3.toNatClampNeg) ∧ (l3 ≤ v_houses) → (v_houses - l3) < m_4 → 0 < m_4 → Ok (fun r => (r = sm (fun k => if v_liked k = a1 then 1 else 0) v_houses.toNatClampNeg)) (K_4 l2 l3)) (hI : 0 ≤ l3 ∧ (l2 = sm (fun k => if v_liked k = a1 then 1 else 0) l3.toNatClampNeg) ∧ (l3 ≤ v_houses)) (hm_4 : (v_houses - l3) = m_4) : Ok (fun r => (r = sm (fun k => if v_liked k = a1 then 1 else 0) v_houses.toNatClampNeg)) (fX0_likersOf_4 N v_houses v_liked a1 K_4 l2 l3) := by
  obtain ⟨h_l3, e_0, e_1⟩ := hI
  unfold fX0_likersOf_4
  refine ok_if (fun c_1 => ?_) (fun c_1 => ?_)
  · exact ok_s (sm_end e_0 (by clear hm_4 hK_4 e_0; grind))
  · refine ok_g (ng6 (by clear hm_4 hK_4; grind)) ?_
    refine ok_if (fun c_2 => ?_) (fun c_2 => ?_)
    · exact hK_4 _ _ ⟨(by clear hm_4 hK_4; grind), (by clear hm_4 hK_4; first | exact sm_step e_0 (if_pos (by clear e_0; grind)).symm (by clear e_0; grind) | exact sm_step0 e_0 (if_neg (by clear e_0; grind)) (by clear e_0; grind)), (by clear hm_4 hK_4; grind)⟩ (by clear hK_4; grind) (by clear hK_4; grind)
    · exact hK_4 _ _ ⟨(by clear hm_4 hK_4; grind), (by clear hm_4 hK_4; first | exact sm_step e_0 (if_pos (by clear e_0; grind)).symm (by clear e_0; grind) | exact sm_step0 e_0 (if_neg (by clear e_0; grind)) (by clear e_0; grind)), (by clear hm_4 hK_4; grind)⟩ (by clear hK_4; grind) (by clear hK_4; grind)
theorem lX0_likersOf_4 {N : Nat} {v_houses : Int32} {v_liked : (Nat → Int32)} {a1 : Int32}  (hN : 49999 < N) (h_v_houses : RB 0 6 v_houses)  : ∀ (l2 : Int32) (l3 : Int32), 0 ≤ l3 ∧ (l2 = sm (fun k => if v_liked k = a1 then 1 else 0) l3.toNatClampNeg) ∧ (l3 ≤ v_houses) → (v_houses - l3) ≤ 49999 → Ok (fun r => (r = sm (fun k => if v_liked k = a1 then 1 else 0) v_houses.toNatClampNeg)) (lfix (fun (K : Int32 × Int32 → Option (Int32)) (a : Int32 × Int32) => fX0_likersOf_4 N v_houses v_liked a1 (fun (l2 : Int32) (l3 : Int32) => K (l2, l3)) a.1 a.2) N (l2, l3)) := by
  intro l2 l3 hI hM
  exact ok_l (I := fun (a : Int32 × Int32) => (0 ≤ a.2 ∧ (a.1 = sm (fun k => if v_liked k = a1 then 1 else 0) a.2.toNatClampNeg) ∧ (a.2 ≤ v_houses))) (M := fun (a : Int32 × Int32) => (v_houses - a.2)) (fun K a hI hK => sX0_likersOf_4  hN h_v_houses  (fun l2 l3 hI2  hlt hp => hK (l2, l3) hI2 hlt hp) hI  rfl) N _ hI hN hM
theorem tX0_likersOf {N : Nat} {v_houses : Int32} {v_liked : (Nat → Int32)} {a1 : Int32}  (hN : 49999 < N) (h_v_houses : RB 0 6 v_houses)  : Ok (fun r => (r = sm (fun k => if v_liked k = a1 then 1 else 0) v_houses.toNatClampNeg)) (fX0_likersOf N v_houses v_liked a1) := by
  unfold fX0_likersOf
  exact lX0_likersOf_4  hN h_v_houses  _ _ ⟨(by grind), rfl, (by grind)⟩  (by grind)
theorem tX6_isDown {N : Nat} {v_plotOf : (Nat → Int32)} {a1 : Int32}  (hN : 49999 < N) (h_v_plotOf : RA (-1) 11 v_plotOf) (h_a1 : RB 0 5 a1)  : Ok (fun r => (r = 0 ∧ ¬(v_plotOf a1.toNatClampNeg = -1) ∨ r = 1 ∧ v_plotOf a1.toNatClampNeg = -1)) (fX6_isDown N v_plotOf a1) := by
  unfold fX6_isDown
  refine ok_g (ng6 (by grind)) ?_
  refine ok_if (fun c_1 => ?_) (fun c_1 => ?_)
  · exact ok_s (by grind)
  · exact ok_s (by grind)
theorem tX0_worthUnder {N : Nat} {w1_plotOf : (Nat → Int32)} {v_worth : (Nat → Int32)} {a2 : Int32}  (hN : 49999 < N) (h_w1_plotOf : RA (-1) 11 w1_plotOf) (h_a2 : RB 0 5 a2)  : Ok (fun r => (r = wu v_worth (w1_plotOf a2.toNatClampNeg))) (fX0_worthUnder N w1_plotOf v_worth a2) := by
  unfold fX0_worthUnder
  refine ok_b (tX6_isDown hN h_w1_plotOf h_a2) (fun x_2 hx => ?_)
  have h_x_2_0 := hx
  refine ok_if (fun c_1 => ?_) (fun c_1 => ?_)
  · refine ok_g (ng6 (by grind)) ?_
    refine ok_g (ng12 (by have := h_w1_plotOf ((a2).toNatClampNeg); grind)) ?_
    exact ok_s (by unfold wu; grind)
  · exact ok_s (by unfold wu; grind)
theorem sX0_worthUnderAll_4 {N : Nat} {v_houses : Int32} {w1_plotOf : (Nat → Int32)} {v_worth : (Nat → Int32)} {K_4 : Int32 → Int32 → Option (Int32)} {l2 : Int32} {l3 : Int32}  {m_4 : Int32} (hN : 49999 < N) (h_v_houses : RB 0 6 v_houses) (h_w1_plotOf : RA (-1) 11 w1_plotOf) (hK_4 : ∀ (l2 : Int32) (l3 : Int32), 0 ≤ l3 ∧ (l2 = sm (fun k => wu v_worth (w1_plotOf k)) l3.toNatClampNeg) ∧ (l3 ≤ v_houses) → (v_houses - l3) < m_4 → 0 < m_4 → Ok (fun r => (r = sm (fun k => wu v_worth (w1_plotOf k)) v_houses.toNatClampNeg)) (K_4 l2 l3)) (hI : 0 ≤ l3 ∧ (l2 = sm (fun k => wu v_worth (w1_plotOf k)) l3.toNatClampNeg) ∧ (l3 ≤ v_houses)) (hm_4 : (v_houses - l3) = m_4) : Ok (fun r => (r = sm (fun k => wu v_worth (w1_plotOf k)) v_houses.toNatClampNeg)) (fX0_worthUnderAll_4 N v_houses w1_plotOf v_worth K_4 l2 l3) := by
  obtain ⟨h_l3, e_0, e_1⟩ := hI
  unfold fX0_worthUnderAll_4
  refine ok_if (fun c_1 => ?_) (fun c_1 => ?_)
  · exact ok_s (sm_end e_0 (by clear hm_4 hK_4 e_0; grind))
  · refine ok_b (tX0_worthUnder hN h_w1_plotOf (by clear hm_4 hK_4; grind)) (fun x_16 hx => ?_)
    have h_x_16_0 := hx
    exact hK_4 _ _ ⟨(by clear hm_4 hK_4; grind), (by clear hm_4 hK_4; first | exact sm_step e_0 h_x_16_0 (by clear e_0; grind)), (by clear hm_4 hK_4; grind)⟩ (by clear hK_4; grind) (by clear hK_4; grind)
theorem lX0_worthUnderAll_4 {N : Nat} {v_houses : Int32} {w1_plotOf : (Nat → Int32)} {v_worth : (Nat → Int32)}  (hN : 49999 < N) (h_v_houses : RB 0 6 v_houses) (h_w1_plotOf : RA (-1) 11 w1_plotOf)  : ∀ (l2 : Int32) (l3 : Int32), 0 ≤ l3 ∧ (l2 = sm (fun k => wu v_worth (w1_plotOf k)) l3.toNatClampNeg) ∧ (l3 ≤ v_houses) → (v_houses - l3) ≤ 49999 → Ok (fun r => (r = sm (fun k => wu v_worth (w1_plotOf k)) v_houses.toNatClampNeg)) (lfix (fun (K : Int32 × Int32 → Option (Int32)) (a : Int32 × Int32) => fX0_worthUnderAll_4 N v_houses w1_plotOf v_worth (fun (l2 : Int32) (l3 : Int32) => K (l2, l3)) a.1 a.2) N (l2, l3)) := by
  intro l2 l3 hI hM
  exact ok_l (I := fun (a : Int32 × Int32) => (0 ≤ a.2 ∧ (a.1 = sm (fun k => wu v_worth (w1_plotOf k)) a.2.toNatClampNeg) ∧ (a.2 ≤ v_houses))) (M := fun (a : Int32 × Int32) => (v_houses - a.2)) (fun K a hI hK => sX0_worthUnderAll_4  hN h_v_houses h_w1_plotOf  (fun l2 l3 hI2  hlt hp => hK (l2, l3) hI2 hlt hp) hI  rfl) N _ hI hN hM
theorem tX0_worthUnderAll {N : Nat} {v_houses : Int32} {w1_plotOf : (Nat → Int32)} {v_worth : (Nat → Int32)}  (hN : 49999 < N) (h_v_houses : RB 0 6 v_houses) (h_w1_plotOf : RA (-1) 11 w1_plotOf)  : Ok (fun r => (r = sm (fun k => wu v_worth (w1_plotOf k)) v_houses.toNatClampNeg)) (fX0_worthUnderAll N v_houses w1_plotOf v_worth) := by
  unfold fX0_worthUnderAll
  exact lX0_worthUnderAll_4  hN h_v_houses h_w1_plotOf  _ _ ⟨(by grind), rfl, (by grind)⟩  (by grind)
theorem sX2_lastNight_4 {N : Nat} {n_o : Nat} {v_size : Int32} {v_night : (Nat → Int32)} {K_4 : Int32 → Int32 → Option (Int32)} {l1 : Int32} {l2 : Int32}  {m_4 : Int32} (hN : 49999 < N) (f_0 : NZ n_o v_size) (h_v_night : RA 0 40 v_night) (hK_4 : ∀ (l1 : Int32) (l2 : Int32), RB 0 40 l1 ∧ 0 ≤ l2 → (v_size - l2) < m_4 → 0 < m_4 → Ok (fun r => RB 0 40 r) (K_4 l1 l2)) (hI : RB 0 40 l1 ∧ 0 ≤ l2) (hm_4 : (v_size - l2) = m_4) : Ok (fun r => RB 0 40 r) (fX2_lastNight_4 N n_o v_size v_night K_4 l1 l2) := by
  obtain ⟨h_l1, h_l2⟩ := hI
  have fz_0 := f_0.le
  have fy_0 := f_0.2.1
  unfold fX2_lastNight_4
  refine ok_if (fun c_1 => ?_) (fun c_1 => ?_)
  · exact ok_s h_l1
  · refine ok_g (ngz f_0 (by clear hm_4 hK_4; grind)) ?_
    exact hK_4 _ _ ⟨(by clear hm_4 hK_4; have := h_v_night ((l2).toNatClampNeg); grind), (by clear hm_4 hK_4; grind)⟩ (by clear hK_4; grind) (by clear hK_4; grind)
theorem lX2_lastNight_4 {N : Nat} {n_o : Nat} {v_size : Int32} {v_night : (Nat → Int32)}  (hN : 49999 < N) (f_0 : NZ n_o v_size) (h_v_night : RA 0 40 v_night)  : ∀ (l1 : Int32) (l2 : Int32), RB 0 40 l1 ∧ 0 ≤ l2 → (v_size - l2) ≤ 49999 → Ok (fun r => RB 0 40 r) (lfix (fun (K : Int32 × Int32 → Option (Int32)) (a : Int32 × Int32) => fX2_lastNight_4 N n_o v_size v_night (fun (l1 : Int32) (l2 : Int32) => K (l1, l2)) a.1 a.2) N (l1, l2)) := by
  intro l1 l2 hI hM
  exact ok_l (I := fun (a : Int32 × Int32) => (RB 0 40 a.1 ∧ 0 ≤ a.2)) (M := fun (a : Int32 × Int32) => (v_size - a.2)) (fun K a hI hK => sX2_lastNight_4  hN f_0 h_v_night  (fun l1 l2 hI2  hlt hp => hK (l1, l2) hI2 hlt hp) hI  rfl) N _ hI hN hM
theorem tX2_lastNight {N : Nat} {n_o : Nat} {v_size : Int32} {v_night : (Nat → Int32)}  (hN : 49999 < N) (f_0 : NZ n_o v_size) (h_v_night : RA 0 40 v_night)  : Ok (fun r => RB 0 40 r) (fX2_lastNight N n_o v_size v_night) := by
  have fz_0 := f_0.le
  have fy_0 := f_0.2.1
  unfold fX2_lastNight
  exact lX2_lastNight_4  hN f_0 h_v_night  _ _ ⟨(by grind), (by grind)⟩  (by grind)
theorem tX6_copyFrom {N : Nat} {w1_houses : Int32} {w1_front : Int32} {w1_downFor : Int32} {w1_kindOf : (Nat → Int32)} {w1_plotOf : (Nat → Int32)} {w1_row : (Nat → Int32)} {w1_standsOn : (Nat → Int32)} {v_houses : Int32} {v_front : Int32} {v_downFor : Int32} {v_kindOf : (Nat → Int32)} {v_plotOf : (Nat → Int32)} {v_row : (Nat → Int32)} {v_standsOn : (Nat → Int32)}  (hN : 49999 < N) (h_w1_houses : RB 0 6 w1_houses) (h_w1_front : RB 0 11 w1_front) (h_w1_plotOf : RA (-1) 11 w1_plotOf) (h_w1_row : RA 0 5 w1_row) (h_w1_standsOn : RA (-1) 5 w1_standsOn) (h_v_houses : RB 0 6 v_houses) (h_v_front : RB 0 11 v_front) (h_v_plotOf : RA (-1) 11 v_plotOf) (h_v_row : RA 0 5 v_row) (h_v_standsOn : RA (-1) 5 v_standsOn)  : Ok (fun r => RB 0 6 r.1 ∧ RB 0 11 r.2.1 ∧ RA (-1) 11 r.2.2.2.2.1 ∧ RA 0 5 r.2.2.2.2.2.1 ∧ RA (-1) 5 r.2.2.2.2.2.2 ∧ (r.1 = w1_houses) ∧ (r.2.1 = w1_front ∧ r.2.2.1 = w1_downFor) ∧ (N6 r.2.2.2.1 = N6 w1_kindOf ∧ N6 r.2.2.2.2.1 = N6 w1_plotOf ∧ N6 r.2.2.2.2.2.1 = N6 w1_row) ∧ (∀ k : Nat, k < 12 → r.2.2.2.2.2.2 k = w1_standsOn k)) (fX6_copyFrom N w1_houses w1_front w1_downFor w1_kindOf w1_plotOf w1_row w1_standsOn v_houses v_front v_downFor v_kindOf v_plotOf v_row v_standsOn) := by
  unfold fX6_copyFrom
  exact ok_s ⟨h_w1_houses, h_w1_front, (RA.cpy h_w1_plotOf h_v_plotOf), (RA.cpy h_w1_row h_v_row), (RA.cpy h_w1_standsOn h_v_standsOn), (by grind), (by grind), ⟨N6_cpy, N6_cpy, N6_cpy⟩, (fun k hk => cpy_at hk)⟩
theorem tX6_nightsFor {N : Nat} {a0 : Int32}  (hN : 49999 < N)   : Ok (fun r => (a0 = 4 ∧ r = 3 ∨ a0 = 1 ∧ r = 2 ∨ (¬ a0 = 4 ∧ ¬ a0 = 1) ∧ r = 1)) (fX6_nightsFor N a0) := by
  unfold fX6_nightsFor
  refine ok_if (fun c_1 => ?_) (fun c_1 => ?_)
  · exact ok_s (by grind)
  · refine ok_if (fun c_2 => ?_) (fun c_2 => ?_)
    · exact ok_s (by grind)
    · exact ok_s (by grind)
theorem tX6_leavePlot {N : Nat} {a1 : Int32} {v_plotOf : (Nat → Int32)} {v_standsOn : (Nat → Int32)}  (hN : 49999 < N) (h_a1 : RB 0 5 a1) (h_v_plotOf : RA (-1) 11 v_plotOf) (h_v_standsOn : RA (-1) 5 v_standsOn)  : Ok (fun r => RA (-1) 11 r.1 ∧ RA (-1) 5 r.2 ∧ (v_plotOf a1.toNatClampNeg = -1 ∧ r.1 = v_plotOf ∧ r.2 = v_standsOn ∨ ¬ v_plotOf a1.toNatClampNeg = -1 ∧ r.1 = upd v_plotOf a1.toNatClampNeg (-1) ∧ r.2 = upd v_standsOn (v_plotOf a1.toNatClampNeg).toNatClampNeg (-1))) (fX6_leavePlot N a1 v_plotOf v_standsOn) := by
  unfold fX6_leavePlot
  refine ok_g (ng6 (by grind)) ?_
  refine ok_if (fun c_1 => ?_) (fun c_1 => ?_)
  · exact ok_s ⟨h_v_plotOf, h_v_standsOn, (by grind)⟩
  · refine ok_g (ng12 (by have := h_v_plotOf ((a1).toNatClampNeg); grind)) ?_
    refine ok_g (ng6 (by grind)) ?_
    exact ok_s ⟨(RA.upd h_v_plotOf (by grind)), (RA.upd h_v_standsOn (by grind)), (by have := h_v_plotOf ((a1).toNatClampNeg); grind)⟩
theorem tX6_takeDown {N : Nat} {v_kindOf : (Nat → Int32)} {a1 : Int32} {v_downFor : Int32} {v_plotOf : (Nat → Int32)} {v_standsOn : (Nat → Int32)}  (hN : 49999 < N) (h_a1 : RB 0 5 a1) (h_v_plotOf : RA (-1) 11 v_plotOf) (h_v_standsOn : RA (-1) 5 v_standsOn)  : Ok (fun r => RA (-1) 11 r.2.1 ∧ RA (-1) 5 r.2.2 ∧ (v_plotOf a1.toNatClampNeg = -1 ∧ r.2.1 = v_plotOf ∧ r.2.2 = v_standsOn ∨ ¬ v_plotOf a1.toNatClampNeg = -1 ∧ r.2.1 = upd v_plotOf a1.toNatClampNeg (-1) ∧ r.2.2 = upd v_standsOn (v_plotOf a1.toNatClampNeg).toNatClampNeg (-1)) ∧ (v_kindOf a1.toNatClampNeg = 4 ∧ r.1 = 2 ∨ v_kindOf a1.toNatClampNeg = 1 ∧ r.1 = 1 ∨ (¬ v_kindOf a1.toNatClampNeg = 4 ∧ ¬ v_kindOf a1.toNatClampNeg = 1) ∧ r.1 = 0)) (fX6_takeDown N v_kindOf a1 v_downFor v_plotOf v_standsOn) := by
  unfold fX6_takeDown
  refine ok_b (tX6_leavePlot hN h_a1 h_v_plotOf h_v_standsOn) (fun x_2 hx => ?_)
  obtain ⟨h_x_2_0, h_x_2_1, h_x_2_2⟩ := hx
  refine ok_g (ng6 (by grind)) ?_
  refine ok_b (tX6_nightsFor hN ) (fun x_12 hx => ?_)
  have h_x_12_0 := hx
  exact ok_s ⟨h_x_2_0, h_x_2_1, h_x_2_2, (by grind)⟩
theorem sX6_freeBeyond_2 {N : Nat} {v_standsOn : (Nat → Int32)} {a1 : Int32} {K_2 : Int32 → Option (Int32)} {l2 : Int32}  {m_2 : Int32} (hN : 49999 < N) (h_v_standsOn : RA (-1) 5 v_standsOn) (h_a1 : RB 0 11 a1) (hK_2 : ∀ (l2 : Int32), 0 ≤ l2 ∧ (1 ≤ l2) ∧ (∀ t : Nat, 1 ≤ t → (t : Int) < l2.toInt → ¬ v_standsOn (pos a1 t).toNatClampNeg = -1) → ((12 : Int32) - l2) < m_2 → 0 < m_2 → Ok (fun r => RB 0 11 r ∧ ((∃ s : Nat, 1 ≤ s ∧ s ≤ 7 ∧ v_standsOn (pos a1 s).toNatClampNeg = -1) → r = sr (fun q => v_standsOn q.toNatClampNeg = -1) 11 a1)) (K_2 l2)) (hI : 0 ≤ l2 ∧ (1 ≤ l2) ∧ (∀ t : Nat, 1 ≤ t → (t : Int) < l2.toInt → ¬ v_standsOn (pos a1 t).toNatClampNeg = -1)) (hm_2 : ((12 : Int32) - l2) = m_2) : Ok (fun r => RB 0 11 r ∧ ((∃ s : Nat, 1 ≤ s ∧ s ≤ 7 ∧ v_standsOn (pos a1 s).toNatClampNeg = -1) → r = sr (fun q => v_standsOn q.toNatClampNeg = -1) 11 a1)) (fX6_freeBeyond_2 N v_standsOn a1 K_2 l2) := by
  obtain ⟨h_l2, e_0, e_1⟩ := hI
  unfold fX6_freeBeyond_2
  refine ok_if (fun c_1 => ?_) (fun c_1 => ?_)
  · exact ok_s ⟨h_a1, (by clear hm_2 hK_2; first | exact fb_end e_1 c_1 | exact fun _ => fb_hit h_a1 (by clear e_1; grind) e_1 c_2)⟩
  · refine ok_g (ng12 (by clear hm_2 hK_2; have := md12 (x := (a1 + l2)) (by grind); grind)) ?_
    refine ok_if (fun c_2 => ?_) (fun c_2 => ?_)
    · exact ok_s ⟨(by clear hm_2 hK_2; have := md12 (x := (a1 + l2)) (by grind); grind), (by clear hm_2 hK_2; first | exact fb_end e_1 c_1 | exact fun _ => fb_hit h_a1 (by clear e_1; grind) e_1 c_2)⟩
    · exact hK_2 _ ⟨(by clear hm_2 hK_2; grind), (by clear hm_2 hK_2; grind), (fb_step h_a1 (by clear hm_2 hK_2 e_1; grind) e_1 c_2)⟩ (by clear hK_2; grind) (by clear hK_2; grind)
theorem lX6_freeBeyond_2 {N : Nat} {v_standsOn : (Nat → Int32)} {a1 : Int32}  (hN : 49999 < N) (h_v_standsOn : RA (-1) 5 v_standsOn) (h_a1 : RB 0 11 a1)  : ∀ (l2 : Int32), 0 ≤ l2 ∧ (1 ≤ l2) ∧ (∀ t : Nat, 1 ≤ t → (t : Int) < l2.toInt → ¬ v_standsOn (pos a1 t).toNatClampNeg = -1) → ((12 : Int32) - l2) ≤ 49999 → Ok (fun r => RB 0 11 r ∧ ((∃ s : Nat, 1 ≤ s ∧ s ≤ 7 ∧ v_standsOn (pos a1 s).toNatClampNeg = -1) → r = sr (fun q => v_standsOn q.toNatClampNeg = -1) 11 a1)) (lfix (fun (K : Int32 → Option (Int32)) (a : Int32) => fX6_freeBeyond_2 N v_standsOn a1 (fun (l2 : Int32) => K l2) a) N (l2)) := by
  intro l2 hI hM
  exact ok_l (I := fun (a : Int32) => (0 ≤ a ∧ (1 ≤ a) ∧ (∀ t : Nat, 1 ≤ t → (t : Int) < a.toInt → ¬ v_standsOn (pos a1 t).toNatClampNeg = -1))) (M := fun (a : Int32) => ((12 : Int32) - a)) (fun K a hI hK => sX6_freeBeyond_2  hN h_v_standsOn h_a1  (fun l2 hI2  hlt hp => hK (l2) hI2 hlt hp) hI  rfl) N _ hI hN hM
theorem tX6_freeBeyond {N : Nat} {v_standsOn : (Nat → Int32)} {a1 : Int32}  (hN : 49999 < N) (h_v_standsOn : RA (-1) 5 v_standsOn) (h_a1 : RB 0 11 a1)  : Ok (fun r => RB 0 11 r ∧ ((∃ s : Nat, 1 ≤ s ∧ s ≤ 7 ∧ v_standsOn (pos a1 s).toNatClampNeg = -1) → r = sr (fun q => v_standsOn q.toNatClampNeg = -1) 11 a1)) (fX6_freeBeyond N v_standsOn a1) := by
  unfold fX6_freeBeyond
  exact lX6_freeBeyond_2  hN h_v_standsOn h_a1  _ ⟨(by grind), (by grind), (fun t t1 t2 => absurd t2 (by have : (1 : Int32).toInt = 1 := rfl; omega))⟩  (by grind)
theorem sX6_moveFirst_58 {N : Nat} {v_houses : Int32} {v_kindOf : (Nat → Int32)} {K_58 : Int32 → Int32 → Int32 → (Nat → Int32) → (Nat → Int32) → (Nat → Int32) → Option (Int32 × (Nat → Int32) × (Nat → Int32) × (Nat → Int32))} {l1 : Int32} {l3 : Int32} {v_front : Int32} {v_row : (Nat → Int32)} {v_standsOn : (Nat → Int32)} {v_plotOf : (Nat → Int32)} {g_v_row : (Nat → Int32)} {g_v_plotOf : (Nat → Int32)} {g_v_standsOn : (Nat → Int32)} {g_v_front : Int32} {m_58 : Int32} (hN : 49999 < N) (h_v_houses : RB 1 6 v_houses) (hK_58 : ∀ (l1 : Int32) (l3 : Int32) (v_front : Int32) (v_row : (Nat → Int32)) (v_standsOn : (Nat → Int32)) (v_plotOf : (Nat → Int32)), RB 0 5 l1 ∧ RB 1 6 l3 ∧ RB 0 11 v_front ∧ RA 0 5 v_row ∧ RA (-1) 5 v_standsOn ∧ RA (-1) 11 v_plotOf ∧ (v_row = rotp l3 g_v_row) ∧ (l1 = g_v_row 0) ∧ (l3 ≤ v_houses) ∧ (SOC v_houses g_v_plotOf g_v_standsOn → RH v_houses g_v_row → v_front = mvq v_houses v_kindOf g_v_front g_v_row g_v_plotOf ∧ v_plotOf = upd g_v_plotOf (g_v_row 0).toNatClampNeg v_front ∧ SOC v_houses v_plotOf v_standsOn) → (v_houses - l3) < m_58 → 0 < m_58 → Ok (fun r => RB 0 11 r.1 ∧ RA 0 5 r.2.1 ∧ RA (-1) 5 r.2.2.1 ∧ RA (-1) 11 r.2.2.2 ∧ (r.2.1 = rot v_houses g_v_row) ∧ (SOC v_houses g_v_plotOf g_v_standsOn → RH v_houses g_v_row → r.1 = mvq v_houses v_kindOf g_v_front g_v_row g_v_plotOf ∧ r.2.2.2 = upd g_v_plotOf (g_v_row 0).toNatClampNeg r.1 ∧ SOC v_houses r.2.2.2 r.2.2.1)) (K_58 l1 l3 v_front v_row v_standsOn v_plotOf)) (hI : RB 0 5 l1 ∧ RB 1 6 l3 ∧ RB 0 11 v_front ∧ RA 0 5 v_row ∧ RA (-1) 5 v_standsOn ∧ RA (-1) 11 v_plotOf ∧ (v_row = rotp l3 g_v_row) ∧ (l1 = g_v_row 0) ∧ (l3 ≤ v_houses) ∧ (SOC v_houses g_v_plotOf g_v_standsOn → RH v_houses g_v_row → v_front = mvq v_houses v_kindOf g_v_front g_v_row g_v_plotOf ∧ v_plotOf = upd g_v_plotOf (g_v_row 0).toNatClampNeg v_front ∧ SOC v_houses v_plotOf v_standsOn)) (hm_58 : (v_houses - l3) = m_58) : Ok (fun r => RB 0 11 r.1 ∧ RA 0 5 r.2.1 ∧ RA (-1) 5 r.2.2.1 ∧ RA (-1) 11 r.2.2.2 ∧ (r.2.1 = rot v_houses g_v_row) ∧ (SOC v_houses g_v_plotOf g_v_standsOn → RH v_houses g_v_row → r.1 = mvq v_houses v_kindOf g_v_front g_v_row g_v_plotOf ∧ r.2.2.2 = upd g_v_plotOf (g_v_row 0).toNatClampNeg r.1 ∧ SOC v_houses r.2.2.2 r.2.2.1)) (fX6_moveFirst_58 N v_houses v_kindOf K_58 l1 l3 v_front v_row v_standsOn v_plotOf) := by
  obtain ⟨h_l1, h_l3, h_v_front, h_v_row, h_v_standsOn, h_v_plotOf, e_0, e_1, e_2, e_3⟩ := hI
  unfold fX6_moveFirst_58
  refine ok_if (fun c_1 => ?_) (fun c_1 => ?_)
  · refine ok_g (ng6 (by clear hm_58 hK_58; grind)) ?_
    exact ok_s ⟨h_v_front, (RA.upd h_v_row (by clear hm_58 hK_58; grind)), h_v_standsOn, h_v_plotOf, (by clear hm_58 hK_58 e_3; rw [e_1]; exact rotp_end (by grind) (by grind) e_0), e_3⟩
  · refine ok_g (ng6 (by clear hm_58 hK_58; grind)) ?_
    refine ok_g (ng6 (by clear hm_58 hK_58; grind)) ?_
    exact hK_58 _ _ _ _ _ _ ⟨h_l1, (by clear hm_58 hK_58; grind), h_v_front, (RA.upd h_v_row (by clear hm_58 hK_58; have := h_v_row ((l3).toNatClampNeg); grind)), h_v_standsOn, h_v_plotOf, (rotp_step (by clear hm_58 hK_58 e_3; grind) e_0), (by clear hm_58 hK_58; grind), (by clear hm_58 hK_58; grind), e_3⟩ (by clear hK_58; grind) (by clear hK_58; grind)
theorem lX6_moveFirst_58 {N : Nat} {v_houses : Int32} {v_kindOf : (Nat → Int32)} {g_v_row : (Nat → Int32)} {g_v_plotOf : (Nat → Int32)} {g_v_standsOn : (Nat → Int32)} {g_v_front : Int32} (hN : 49999 < N) (h_v_houses : RB 1 6 v_houses)  : ∀ (l1 : Int32) (l3 : Int32) (v_front : Int32) (v_row : (Nat → Int32)) (v_standsOn : (Nat → Int32)) (v_plotOf : (Nat → Int32)), RB 0 5 l1 ∧ RB 1 6 l3 ∧ RB 0 11 v_front ∧ RA 0 5 v_row ∧ RA (-1) 5 v_standsOn ∧ RA (-1) 11 v_plotOf ∧ (v_row = rotp l3 g_v_row) ∧ (l1 = g_v_row 0) ∧ (l3 ≤ v_houses) ∧ (SOC v_houses g_v_plotOf g_v_standsOn → RH v_houses g_v_row → v_front = mvq v_houses v_kindOf g_v_front g_v_row g_v_plotOf ∧ v_plotOf = upd g_v_plotOf (g_v_row 0).toNatClampNeg v_front ∧ SOC v_houses v_plotOf v_standsOn) → (v_houses - l3) ≤ 49999 → Ok (fun r => RB 0 11 r.1 ∧ RA 0 5 r.2.1 ∧ RA (-1) 5 r.2.2.1 ∧ RA (-1) 11 r.2.2.2 ∧ (r.2.1 = rot v_houses g_v_row) ∧ (SOC v_houses g_v_plotOf g_v_standsOn → RH v_houses g_v_row → r.1 = mvq v_houses v_kindOf g_v_front g_v_row g_v_plotOf ∧ r.2.2.2 = upd g_v_plotOf (g_v_row 0).toNatClampNeg r.1 ∧ SOC v_houses r.2.2.2 r.2.2.1)) (lfix (fun (K : Int32 × Int32 × Int32 × (Nat → Int32) × (Nat → Int32) × (Nat → Int32) → Option (Int32 × (Nat → Int32) × (Nat → Int32) × (Nat → Int32))) (a : Int32 × Int32 × Int32 × (Nat → Int32) × (Nat → Int32) × (Nat → Int32)) => fX6_moveFirst_58 N v_houses v_kindOf (fun (l1 : Int32) (l3 : Int32) (v_front : Int32) (v_row : (Nat → Int32)) (v_standsOn : (Nat → Int32)) (v_plotOf : (Nat → Int32)) => K (l1, l3, v_front, v_row, v_standsOn, v_plotOf)) a.1 a.2.1 a.2.2.1 a.2.2.2.1 a.2.2.2.2.1 a.2.2.2.2.2) N (l1, l3, v_front, v_row, v_standsOn, v_plotOf)) := by
  intro l1 l3 v_front v_row v_standsOn v_plotOf hI hM
  exact ok_l (I := fun (a : Int32 × Int32 × Int32 × (Nat → Int32) × (Nat → Int32) × (Nat → Int32)) => (RB 0 5 a.1 ∧ RB 1 6 a.2.1 ∧ RB 0 11 a.2.2.1 ∧ RA 0 5 a.2.2.2.1 ∧ RA (-1) 5 a.2.2.2.2.1 ∧ RA (-1) 11 a.2.2.2.2.2 ∧ (a.2.2.2.1 = rotp a.2.1 g_v_row) ∧ (a.1 = g_v_row 0) ∧ (a.2.1 ≤ v_houses) ∧ (SOC v_houses g_v_plotOf g_v_standsOn → RH v_houses g_v_row → a.2.2.1 = mvq v_houses v_kindOf g_v_front g_v_row g_v_plotOf ∧ a.2.2.2.2.2 = upd g_v_plotOf (g_v_row 0).toNatClampNeg a.2.2.1 ∧ SOC v_houses a.2.2.2.2.2 a.2.2.2.2.1))) (M := fun (a : Int32 × Int32 × Int32 × (Nat → Int32) × (Nat → Int32) × (Nat → Int32)) => (v_houses - a.2.1)) (fun K a hI hK => sX6_moveFirst_58 (g_v_row := g_v_row) (g_v_plotOf := g_v_plotOf) (g_v_standsOn := g_v_standsOn) (g_v_front := g_v_front) hN h_v_houses  (fun l1 l3 v_front v_row v_standsOn v_plotOf hI2  hlt hp => hK (l1, l3, v_front, v_row, v_standsOn, v_plotOf) hI2 hlt hp) hI  rfl) N _ hI hN hM
theorem tX6_moveFirst_32 {N : Nat} {v_houses : Int32} {v_kindOf : (Nat → Int32)} {l1 : Int32} {l2 : Int32} {v_front : Int32} {v_row : (Nat → Int32)} {v_standsOn : (Nat → Int32)} {v_plotOf : (Nat → Int32)} {g_v_row : (Nat → Int32)} {g_v_plotOf : (Nat → Int32)} {g_v_standsOn : (Nat → Int32)} {g_v_front : Int32} (hN : 49999 < N) (h_v_houses : RB 1 6 v_houses) (h_l1 : RB 0 5 l1) (h_l2 : RB 0 11 l2) (h_v_front : RB 0 11 v_front) (h_v_row : RA 0 5 v_row) (h_v_standsOn : RA (-1) 5 v_standsOn) (h_v_plotOf : RA (-1) 11 v_plotOf) (e_0 : l1 = g_v_row 0) (e_1 : v_row = g_v_row) (e_2 : v_plotOf = g_v_plotOf) (e_3 : v_standsOn = g_v_standsOn) (e_4 : v_front = g_v_front) (e_5 : SOC v_houses g_v_plotOf g_v_standsOn → l2 = mvq v_houses v_kindOf g_v_front g_v_row g_v_plotOf)  : Ok (fun r => RB 0 11 r.1 ∧ RA 0 5 r.2.1 ∧ RA (-1) 5 r.2.2.1 ∧ RA (-1) 11 r.2.2.2 ∧ (r.2.1 = rot v_houses g_v_row) ∧ (SOC v_houses g_v_plotOf g_v_standsOn → RH v_houses g_v_row → r.1 = mvq v_houses v_kindOf g_v_front g_v_row g_v_plotOf ∧ r.2.2.2 = upd g_v_plotOf (g_v_row 0).toNatClampNeg r.1 ∧ SOC v_houses r.2.2.2 r.2.2.1)) (fX6_moveFirst_32 N v_houses v_kindOf l1 l2 v_front v_row v_standsOn v_plotOf) := by
  unfold fX6_moveFirst_32
  refine ok_b (tX6_leavePlot hN h_l1 h_v_plotOf h_v_standsOn) (fun x_34 hx => ?_)
  obtain ⟨h_x_34_0, h_x_34_1, h_x_34_2⟩ := hx
  refine ok_g (ng6 (by grind)) ?_
  refine ok_g (ng12 (by grind)) ?_
  exact lX6_moveFirst_58 (g_v_row := g_v_row) (g_v_plotOf := g_v_plotOf) (g_v_standsOn := g_v_standsOn) (g_v_front := g_v_front) hN h_v_houses  _ _ _ _ _ _ ⟨h_l1, (by grind), h_l2, h_v_row, (RA.upd h_x_34_1 (by grind)), (RA.upd h_x_34_0 (by grind)), (by rw [e_1]; exact (rotp_1 _).symm), e_0, (by grind), (by subst e_2; subst e_3; subst e_4; exact fun S R => mv_fin S R h_v_plotOf h_v_houses h_v_front e_0 e_5 h_x_34_2)⟩  (by grind)
theorem tX6_moveFirst {N : Nat} {v_houses : Int32} {v_kindOf : (Nat → Int32)} {v_front : Int32} {v_row : (Nat → Int32)} {v_standsOn : (Nat → Int32)} {v_plotOf : (Nat → Int32)}  (hN : 49999 < N) (h_v_houses : RB 1 6 v_houses) (h_v_front : RB 0 11 v_front) (h_v_row : RA 0 5 v_row) (h_v_standsOn : RA (-1) 5 v_standsOn) (h_v_plotOf : RA (-1) 11 v_plotOf)  : Ok (fun r => RB 0 11 r.1 ∧ RA 0 5 r.2.1 ∧ RA (-1) 5 r.2.2.1 ∧ RA (-1) 11 r.2.2.2 ∧ (r.2.1 = rot v_houses v_row) ∧ (SOC v_houses v_plotOf v_standsOn → RH v_houses v_row → r.1 = mvq v_houses v_kindOf v_front v_row v_plotOf ∧ r.2.2.2 = upd v_plotOf (v_row 0).toNatClampNeg r.1 ∧ SOC v_houses r.2.2.2 r.2.2.1)) (fX6_moveFirst N v_houses v_kindOf v_front v_row v_standsOn v_plotOf) := by
  unfold fX6_moveFirst
  refine ok_b (tX6_freeBeyond hN h_v_standsOn h_v_front) (fun x_12 hx => ?_)
  obtain ⟨h_x_12_0, h_x_12_1⟩ := hx
  refine ok_g (ng6 (by have := h_v_row (((0 : Int32)).toNatClampNeg); grind)) ?_
  refine ok_if (fun c_1 => ?_) (fun c_1 => ?_)
  · refine ok_b (tX6_freeBeyond hN h_v_standsOn h_x_12_0) (fun x_28 hx => ?_)
    obtain ⟨h_x_28_0, h_x_28_1⟩ := hx
    exact tX6_moveFirst_32 (g_v_row := v_row) (g_v_plotOf := v_plotOf) (g_v_standsOn := v_standsOn) (g_v_front := v_front) hN h_v_houses (by have := h_v_row (((0 : Int32)).toNatClampNeg); grind) h_x_28_0 h_v_front h_v_row h_v_standsOn h_v_plotOf rfl (by grind) (by grind) (by grind) (by grind) (fun S => by first | exact mv_shop S h_v_front h_x_12_0 h_v_houses.2 c_1 h_x_12_1 h_x_28_1 | exact mv_one S h_v_front h_v_houses.2 c_1 h_x_12_1) 
  · exact tX6_moveFirst_32 (g_v_row := v_row) (g_v_plotOf := v_plotOf) (g_v_standsOn := v_standsOn) (g_v_front := v_front) hN h_v_houses (by have := h_v_row (((0 : Int32)).toNatClampNeg); grind) h_x_12_0 h_v_front h_v_row h_v_standsOn h_v_plotOf rfl (by grind) (by grind) (by grind) (by grind) (fun S => by first | exact mv_shop S h_v_front h_x_12_0 h_v_houses.2 c_1 h_x_12_1 h_x_28_1 | exact mv_one S h_v_front h_v_houses.2 c_1 h_x_12_1)
theorem tX6_turn_54 {N : Nat} {v_houses : Int32} {v_kindOf : (Nat → Int32)} {l1 : Int32} {v_front : Int32} {v_downFor : Int32} {v_row : (Nat → Int32)} {v_plotOf : (Nat → Int32)} {v_standsOn : (Nat → Int32)} {g_v_downFor : Int32} {g_v_row : (Nat → Int32)} {g_v_plotOf : (Nat → Int32)} {g_v_standsOn : (Nat → Int32)} {g_v_front : Int32} (hN : 49999 < N) (h_v_houses : RB 1 6 v_houses) (h_l1 : RB 0 5 l1) (h_v_front : RB 0 11 v_front) (h_v_row : RA 0 5 v_row) (h_v_plotOf : RA (-1) 11 v_plotOf) (h_v_standsOn : RA (-1) 5 v_standsOn) (e_0 : l1 = g_v_row 0) (e_1 : v_row = g_v_row) (e_2 : v_plotOf = g_v_plotOf) (e_3 : v_standsOn = g_v_standsOn) (e_4 : v_front = g_v_front) (e_5 : v_downFor = g_v_downFor) (e_6 : v_downFor ≤ 1 ∧ (v_downFor = 0 → ¬ v_kindOf l1.toNatClampNeg = 1 ∧ ¬ v_kindOf l1.toNatClampNeg = 4))  : Ok (fun r => RB 0 11 r.2.1 ∧ RA 0 5 r.2.2.2.1 ∧ RA (-1) 11 r.2.2.2.2.1 ∧ RA (-1) 5 r.2.2.2.2.2 ∧ (TWN v_houses v_kindOf g_v_downFor g_v_row g_v_plotOf g_v_standsOn → r.1 = tnM v_kindOf g_v_downFor g_v_row ∧ (r.2.1, r.2.2.1, r.2.2.2.1, r.2.2.2.2.1) = tnS v_houses v_kindOf (g_v_front, g_v_downFor, g_v_row, g_v_plotOf) ∧ TWN v_houses v_kindOf r.2.2.1 r.2.2.2.1 r.2.2.2.2.1 r.2.2.2.2.2)) (fX6_turn_54 N v_houses v_kindOf l1 v_front v_downFor v_row v_plotOf v_standsOn) := by
  unfold fX6_turn_54
  refine ok_b (tX6_moveFirst hN h_v_houses h_v_front h_v_row h_v_standsOn h_v_plotOf) (fun x_60 hx => ?_)
  obtain ⟨h_x_60_0, h_x_60_1, h_x_60_2, h_x_60_3, h_x_60_4, h_x_60_5⟩ := hx
  refine ok_g (ng6 (by grind)) ?_
  refine ok_if (fun c_1 => ?_) (fun c_1 => ?_)
  · refine ok_b (tX6_moveFirst hN h_v_houses h_x_60_0 h_x_60_1 h_x_60_2 h_x_60_3) (fun x_76 hx => ?_)
    obtain ⟨h_x_76_0, h_x_76_1, h_x_76_2, h_x_76_3, h_x_76_4, h_x_76_5⟩ := hx
    exact ok_s ⟨h_x_76_0, h_x_76_1, h_x_76_3, h_x_76_2, (by subst e_0; subst e_1; subst e_2; subst e_3; subst e_4; subst e_5; intro T; first | exact tn_mv2 T h_v_houses e_6 c_1 h_x_60_4 h_x_60_5 h_x_76_4 h_x_76_5 | exact tn_mv1 T h_v_houses e_6 c_1 h_x_60_4 h_x_60_5)⟩
  · exact ok_s ⟨h_x_60_0, h_x_60_1, h_x_60_3, h_x_60_2, (by subst e_0; subst e_1; subst e_2; subst e_3; subst e_4; subst e_5; intro T; first | exact tn_mv2 T h_v_houses e_6 c_1 h_x_60_4 h_x_60_5 h_x_76_4 h_x_76_5 | exact tn_mv1 T h_v_houses e_6 c_1 h_x_60_4 h_x_60_5)⟩
theorem tX6_turn {N : Nat} {v_houses : Int32} {v_kindOf : (Nat → Int32)} {v_front : Int32} {v_downFor : Int32} {v_row : (Nat → Int32)} {v_plotOf : (Nat → Int32)} {v_standsOn : (Nat → Int32)}  (hN : 49999 < N) (h_v_houses : RB 1 6 v_houses) (h_v_front : RB 0 11 v_front) (h_v_row : RA 0 5 v_row) (h_v_plotOf : RA (-1) 11 v_plotOf) (h_v_standsOn : RA (-1) 5 v_standsOn)  : Ok (fun r => RB 0 11 r.2.1 ∧ RA 0 5 r.2.2.2.1 ∧ RA (-1) 11 r.2.2.2.2.1 ∧ RA (-1) 5 r.2.2.2.2.2 ∧ (TWN v_houses v_kindOf v_downFor v_row v_plotOf v_standsOn → r.1 = tnM v_kindOf v_downFor v_row ∧ (r.2.1, r.2.2.1, r.2.2.2.1, r.2.2.2.2.1) = tnS v_houses v_kindOf (v_front, v_downFor, v_row, v_plotOf) ∧ TWN v_houses v_kindOf r.2.2.1 r.2.2.2.1 r.2.2.2.2.1 r.2.2.2.2.2)) (fX6_turn N v_houses v_kindOf v_front v_downFor v_row v_plotOf v_standsOn) := by
  unfold fX6_turn
  refine ok_if (fun c_1 => ?_) (fun c_1 => ?_)
  · refine ok_if (fun c_2 => ?_) (fun c_2 => ?_)
    · refine ok_g (ng6 (by have := h_v_row (((0 : Int32)).toNatClampNeg); grind)) ?_
      refine ok_b (tX6_nightsFor hN ) (fun x_40 hx => ?_)
      have h_x_40_0 := hx
      refine ok_if (fun c_3 => ?_) (fun c_3 => ?_)
      · exact tX6_turn_54 (g_v_downFor := v_downFor) (g_v_row := v_row) (g_v_plotOf := v_plotOf) (g_v_standsOn := v_standsOn) (g_v_front := v_front) hN h_v_houses (by have := h_v_row (((0 : Int32)).toNatClampNeg); grind) h_v_front h_v_row h_v_plotOf h_v_standsOn rfl (by grind) (by grind) (by grind) (by grind) (by grind) (by have := h_v_row (((0 : Int32)).toNatClampNeg); grind)
      · refine ok_b (tX6_takeDown hN (by have := h_v_row (((0 : Int32)).toNatClampNeg); grind) h_v_plotOf h_v_standsOn) (fun x_49 hx => ?_)
        obtain ⟨h_x_49_0, h_x_49_1, h_x_49_2, h_x_49_3⟩ := hx
        exact ok_s ⟨h_v_front, h_v_row, h_x_49_0, h_x_49_1, (by intro T; first | exact tn_wait T c_1 | exact tn_down T h_v_plotOf h_v_houses c_2 (by grind) h_x_49_2)⟩
    · exact tX6_turn_54 (g_v_downFor := v_downFor) (g_v_row := v_row) (g_v_plotOf := v_plotOf) (g_v_standsOn := v_standsOn) (g_v_front := v_front) hN h_v_houses (by have := h_v_row (((0 : Int32)).toNatClampNeg); grind) h_v_front h_v_row h_v_plotOf h_v_standsOn rfl (by grind) (by grind) (by grind) (by grind) (by grind) (by have := h_v_row (((0 : Int32)).toNatClampNeg); grind)
  · exact ok_s ⟨h_v_front, h_v_row, h_v_plotOf, h_v_standsOn, (by intro T; first | exact tn_wait T c_1 | exact tn_down T h_v_plotOf h_v_houses c_2 (by grind) h_x_49_2)⟩
