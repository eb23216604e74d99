theorem sX1_seenAlike_6 {N : Nat} {v_track_0 : (Nat → Int32)} {v_track_1 : (Nat → Int32)} {v_track_2 : (Nat → Int32)} {v_track_3 : (Nat → Int32)} {v_track_4 : (Nat → Int32)} {a1 : Int32} {a2 : Int32} {a3 : Int32} {K_6 : Int32 → Int32 → Option (Int32)} {l4 : Int32} {l5 : Int32}  {m_6 : Int32} (hN : 49999 < N) (h_a2 : RB 0 4 a2) (h_a3 : RB 0 40 a3) (hK_6 : ∀ (l4 : Int32) (l5 : Int32), 0 ≤ l5 → ((5 : Int32) - l5) < m_6 → 0 < m_6 → Ok (fun r => True) (K_6 l4 l5)) (hI : 0 ≤ l5) (hm_6 : ((5 : Int32) - l5) = m_6) : Ok (fun r => True) (fX1_seenAlike_6 N v_track_0 v_track_1 v_track_2 v_track_3 v_track_4 a1 a2 a3 K_6 l4 l5) := by
  have h_l5 := hI
  unfold fX1_seenAlike_6
  refine ok_if (fun c_1 => ?_) (fun c_1 => ?_)
  · exact ok_s trivial
  · refine ok_b (tX1_has hN ) (fun x_15 hx => ?_)
    refine ok_if (fun c_2 => ?_) (fun c_2 => ?_)
    · exact hK_6 _ _ (by clear hm_6 hK_6; grind) (by clear hK_6; grind) (by clear hK_6; grind)
    · refine ok_g (ng5 (by clear hm_6 hK_6; grind)) ?_
      refine ok_if (fun c_3 => ?_) (fun c_3 => ?_)
      · refine ok_g (ng41 (by clear hm_6 hK_6; grind)) ?_
        refine ok_g (ng5 (by clear hm_6 hK_6; grind)) ?_
        refine ok_if (fun c_4 => ?_) (fun c_4 => ?_)
        · refine ok_g (ng41 (by clear hm_6 hK_6; grind)) ?_
          refine ok_if (fun c_5 => ?_) (fun c_5 => ?_)
          · exact hK_6 _ _ (by clear hm_6 hK_6; grind) (by clear hK_6; grind) (by clear hK_6; grind)
          · exact hK_6 _ _ (by clear hm_6 hK_6; grind) (by clear hK_6; grind) (by clear hK_6; grind)
        · refine ok_if (fun c_6 => ?_) (fun c_6 => ?_)
          · refine ok_g (ng41 (by clear hm_6 hK_6; grind)) ?_
            refine ok_if (fun c_7 => ?_) (fun c_7 => ?_)
            · exact hK_6 _ _ (by clear hm_6 hK_6; grind) (by clear hK_6; grind) (by clear hK_6; grind)
            · exact hK_6 _ _ (by clear hm_6 hK_6; grind) (by clear hK_6; grind) (by clear hK_6; grind)
          · refine ok_if (fun c_8 => ?_) (fun c_8 => ?_)
            · refine ok_g (ng41 (by clear hm_6 hK_6; grind)) ?_
              refine ok_if (fun c_9 => ?_) (fun c_9 => ?_)
              · exact hK_6 _ _ (by clear hm_6 hK_6; grind) (by clear hK_6; grind) (by clear hK_6; grind)
              · exact hK_6 _ _ (by clear hm_6 hK_6; grind) (by clear hK_6; grind) (by clear hK_6; grind)
            · refine ok_if (fun c_10 => ?_) (fun c_10 => ?_)
              · refine ok_g (ng41 (by clear hm_6 hK_6; grind)) ?_
                refine ok_if (fun c_11 => ?_) (fun c_11 => ?_)
                · exact hK_6 _ _ (by clear hm_6 hK_6; grind) (by clear hK_6; grind) (by clear hK_6; grind)
                · exact hK_6 _ _ (by clear hm_6 hK_6; grind) (by clear hK_6; grind) (by clear hK_6; grind)
              · refine ok_n (by clear hm_6 hK_6; grind) ?_
                refine ok_g (ng41 (by clear hm_6 hK_6; grind)) ?_
                refine ok_if (fun c_12 => ?_) (fun c_12 => ?_)
                · exact hK_6 _ _ (by clear hm_6 hK_6; grind) (by clear hK_6; grind) (by clear hK_6; grind)
                · exact hK_6 _ _ (by clear hm_6 hK_6; grind) (by clear hK_6; grind) (by clear hK_6; grind)
      · refine ok_if (fun c_13 => ?_) (fun c_13 => ?_)
        · refine ok_g (ng41 (by clear hm_6 hK_6; grind)) ?_
          refine ok_g (ng5 (by clear hm_6 hK_6; grind)) ?_
          refine ok_if (fun c_14 => ?_) (fun c_14 => ?_)
          · refine ok_g (ng41 (by clear hm_6 hK_6; grind)) ?_
            refine ok_if (fun c_15 => ?_) (fun c_15 => ?_)
            · exact hK_6 _ _ (by clear hm_6 hK_6; grind) (by clear hK_6; grind) (by clear hK_6; grind)
            · exact hK_6 _ _ (by clear hm_6 hK_6; grind) (by clear hK_6; grind) (by clear hK_6; grind)
          · refine ok_if (fun c_16 => ?_) (fun c_16 => ?_)
            · refine ok_g (ng41 (by clear hm_6 hK_6; grind)) ?_
              refine ok_if (fun c_17 => ?_) (fun c_17 => ?_)
              · exact hK_6 _ _ (by clear hm_6 hK_6; grind) (by clear hK_6; grind) (by clear hK_6; grind)
              · exact hK_6 _ _ (by clear hm_6 hK_6; grind) (by clear hK_6; grind) (by clear hK_6; grind)
            · refine ok_if (fun c_18 => ?_) (fun c_18 => ?_)
              · refine ok_g (ng41 (by clear hm_6 hK_6; grind)) ?_
                refine ok_if (fun c_19 => ?_) (fun c_19 => ?_)
                · exact hK_6 _ _ (by clear hm_6 hK_6; grind) (by clear hK_6; grind) (by clear hK_6; grind)
                · exact hK_6 _ _ (by clear hm_6 hK_6; grind) (by clear hK_6; grind) (by clear hK_6; grind)
              · refine ok_if (fun c_20 => ?_) (fun c_20 => ?_)
                · refine ok_g (ng41 (by clear hm_6 hK_6; grind)) ?_
                  refine ok_if (fun c_21 => ?_) (fun c_21 => ?_)
                  · exact hK_6 _ _ (by clear hm_6 hK_6; grind) (by clear hK_6; grind) (by clear hK_6; grind)
                  · exact hK_6 _ _ (by clear hm_6 hK_6; grind) (by clear hK_6; grind) (by clear hK_6; grind)
                · refine ok_n (by clear hm_6 hK_6; grind) ?_
                  refine ok_g (ng41 (by clear hm_6 hK_6; grind)) ?_
                  refine ok_if (fun c_22 => ?_) (fun c_22 => ?_)
                  · exact hK_6 _ _ (by clear hm_6 hK_6; grind) (by clear hK_6; grind) (by clear hK_6; grind)
                  · exact hK_6 _ _ (by clear hm_6 hK_6; grind) (by clear hK_6; grind) (by clear hK_6; grind)
        · refine ok_if (fun c_23 => ?_) (fun c_23 => ?_)
          · refine ok_g (ng41 (by clear hm_6 hK_6; grind)) ?_
            refine ok_g (ng5 (by clear hm_6 hK_6; grind)) ?_
            refine ok_if (fun c_24 => ?_) (fun c_24 => ?_)
            · refine ok_g (ng41 (by clear hm_6 hK_6; grind)) ?_
              refine ok_if (fun c_25 => ?_) (fun c_25 => ?_)
              · exact hK_6 _ _ (by clear hm_6 hK_6; grind) (by clear hK_6; grind) (by clear hK_6; grind)
              · exact hK_6 _ _ (by clear hm_6 hK_6; grind) (by clear hK_6; grind) (by clear hK_6; grind)
            · refine ok_if (fun c_26 => ?_) (fun c_26 => ?_)
              · refine ok_g (ng41 (by clear hm_6 hK_6; grind)) ?_
                refine ok_if (fun c_27 => ?_) (fun c_27 => ?_)
                · exact hK_6 _ _ (by clear hm_6 hK_6; grind) (by clear hK_6; grind) (by clear hK_6; grind)
                · exact hK_6 _ _ (by clear hm_6 hK_6; grind) (by clear hK_6; grind) (by clear hK_6; grind)
              · refine ok_if (fun c_28 => ?_) (fun c_28 => ?_)
                · refine ok_g (ng41 (by clear hm_6 hK_6; grind)) ?_
                  refine ok_if (fun c_29 => ?_) (fun c_29 => ?_)
                  · exact hK_6 _ _ (by clear hm_6 hK_6; grind) (by clear hK_6; grind) (by clear hK_6; grind)
                  · exact hK_6 _ _ (by clear hm_6 hK_6; grind) (by clear hK_6; grind) (by clear hK_6; grind)
                · refine ok_if (fun c_30 => ?_) (fun c_30 => ?_)
                  · refine ok_g (ng41 (by clear hm_6 hK_6; grind)) ?_
                    refine ok_if (fun c_31 => ?_) (fun c_31 => ?_)
                    · exact hK_6 _ _ (by clear hm_6 hK_6; grind) (by clear hK_6; grind) (by clear hK_6; grind)
                    · exact hK_6 _ _ (by clear hm_6 hK_6; grind) (by clear hK_6; grind) (by clear hK_6; grind)
                  · refine ok_n (by clear hm_6 hK_6; grind) ?_
                    refine ok_g (ng41 (by clear hm_6 hK_6; grind)) ?_
                    refine ok_if (fun c_32 => ?_) (fun c_32 => ?_)
                    · exact hK_6 _ _ (by clear hm_6 hK_6; grind) (by clear hK_6; grind) (by clear hK_6; grind)
                    · exact hK_6 _ _ (by clear hm_6 hK_6; grind) (by clear hK_6; grind) (by clear hK_6; grind)
          · refine ok_if (fun c_33 => ?_) (fun c_33 => ?_)
            · refine ok_g (ng41 (by clear hm_6 hK_6; grind)) ?_
              refine ok_g (ng5 (by clear hm_6 hK_6; grind)) ?_
              refine ok_if (fun c_34 => ?_) (fun c_34 => ?_)
              · refine ok_g (ng41 (by clear hm_6 hK_6; grind)) ?_
                refine ok_if (fun c_35 => ?_) (fun c_35 => ?_)
                · exact hK_6 _ _ (by clear hm_6 hK_6; grind) (by clear hK_6; grind) (by clear hK_6; grind)
                · exact hK_6 _ _ (by clear hm_6 hK_6; grind) (by clear hK_6; grind) (by clear hK_6; grind)
              · refine ok_if (fun c_36 => ?_) (fun c_36 => ?_)
                · refine ok_g (ng41 (by clear hm_6 hK_6; grind)) ?_
                  refine ok_if (fun c_37 => ?_) (fun c_37 => ?_)
                  · exact hK_6 _ _ (by clear hm_6 hK_6; grind) (by clear hK_6; grind) (by clear hK_6; grind)
                  · exact hK_6 _ _ (by clear hm_6 hK_6; grind) (by clear hK_6; grind) (by clear hK_6; grind)
                · refine ok_if (fun c_38 => ?_) (fun c_38 => ?_)
                  · refine ok_g (ng41 (by clear hm_6 hK_6; grind)) ?_
                    refine ok_if (fun c_39 => ?_) (fun c_39 => ?_)
                    · exact hK_6 _ _ (by clear hm_6 hK_6; grind) (by clear hK_6; grind) (by clear hK_6; grind)
                    · exact hK_6 _ _ (by clear hm_6 hK_6; grind) (by clear hK_6; grind) (by clear hK_6; grind)
                  · refine ok_if (fun c_40 => ?_) (fun c_40 => ?_)
                    · refine ok_g (ng41 (by clear hm_6 hK_6; grind)) ?_
                      refine ok_if (fun c_41 => ?_) (fun c_41 => ?_)
                      · exact hK_6 _ _ (by clear hm_6 hK_6; grind) (by clear hK_6; grind) (by clear hK_6; grind)
                      · exact hK_6 _ _ (by clear hm_6 hK_6; grind) (by clear hK_6; grind) (by clear hK_6; grind)
                    · refine ok_n (by clear hm_6 hK_6; grind) ?_
                      refine ok_g (ng41 (by clear hm_6 hK_6; grind)) ?_
                      refine ok_if (fun c_42 => ?_) (fun c_42 => ?_)
                      · exact hK_6 _ _ (by clear hm_6 hK_6; grind) (by clear hK_6; grind) (by clear hK_6; grind)
                      · exact hK_6 _ _ (by clear hm_6 hK_6; grind) (by clear hK_6; grind) (by clear hK_6; grind)
            · refine ok_n (by clear hm_6 hK_6; grind) ?_
              refine ok_g (ng41 (by clear hm_6 hK_6; grind)) ?_
              refine ok_g (ng5 (by clear hm_6 hK_6; grind)) ?_
              refine ok_if (fun c_43 => ?_) (fun c_43 => ?_)
              · refine ok_g (ng41 (by clear hm_6 hK_6; grind)) ?_
                refine ok_if (fun c_44 => ?_) (fun c_44 => ?_)
                · exact hK_6 _ _ (by clear hm_6 hK_6; grind) (by clear hK_6; grind) (by clear hK_6; grind)
                · exact hK_6 _ _ (by clear hm_6 hK_6; grind) (by clear hK_6; grind) (by clear hK_6; grind)
              · refine ok_if (fun c_45 => ?_) (fun c_45 => ?_)
                · refine ok_g (ng41 (by clear hm_6 hK_6; grind)) ?_
                  refine ok_if (fun c_46 => ?_) (fun c_46 => ?_)
                  · exact hK_6 _ _ (by clear hm_6 hK_6; grind) (by clear hK_6; grind) (by clear hK_6; grind)
                  · exact hK_6 _ _ (by clear hm_6 hK_6; grind) (by clear hK_6; grind) (by clear hK_6; grind)
                · refine ok_if (fun c_47 => ?_) (fun c_47 => ?_)
                  · refine ok_g (ng41 (by clear hm_6 hK_6; grind)) ?_
                    refine ok_if (fun c_48 => ?_) (fun c_48 => ?_)
                    · exact hK_6 _ _ (by clear hm_6 hK_6; grind) (by clear hK_6; grind) (by clear hK_6; grind)
                    · exact hK_6 _ _ (by clear hm_6 hK_6; grind) (by clear hK_6; grind) (by clear hK_6; grind)
                  · refine ok_if (fun c_49 => ?_) (fun c_49 => ?_)
                    · refine ok_g (ng41 (by clear hm_6 hK_6; grind)) ?_
                      refine ok_if (fun c_50 => ?_) (fun c_50 => ?_)
                      · exact hK_6 _ _ (by clear hm_6 hK_6; grind) (by clear hK_6; grind) (by clear hK_6; grind)
                      · exact hK_6 _ _ (by clear hm_6 hK_6; grind) (by clear hK_6; grind) (by clear hK_6; grind)
                    · refine ok_n (by clear hm_6 hK_6; grind) ?_
                      refine ok_g (ng41 (by clear hm_6 hK_6; grind)) ?_
                      refine ok_if (fun c_51 => ?_) (fun c_51 => ?_)
                      · exact hK_6 _ _ (by clear hm_6 hK_6; grind) (by clear hK_6; grind) (by clear hK_6; grind)
                      · exact hK_6 _ _ (by clear hm_6 hK_6; grind) (by clear hK_6; grind) (by clear hK_6; grind)
theorem lX1_seenAlike_6 {N : Nat} {v_track_0 : (Nat → Int32)} {v_track_1 : (Nat → Int32)} {v_track_2 : (Nat → Int32)} {v_track_3 : (Nat → Int32)} {v_track_4 : (Nat → Int32)} {a1 : Int32} {a2 : Int32} {a3 : Int32}  (hN : 49999 < N) (h_a2 : RB 0 4 a2) (h_a3 : RB 0 40 a3)  : ∀ (l4 : Int32) (l5 : Int32), 0 ≤ l5 → ((5 : Int32) - l5) ≤ 49999 → Ok (fun r => True) (lfix (fun (K : Int32 × Int32 → Option (Int32)) (a : Int32 × Int32) => fX1_seenAlike_6 N v_track_0 v_track_1 v_track_2 v_track_3 v_track_4 a1 a2 a3 (fun (l4 : Int32) (l5 : Int32) => K (l4, l5)) a.1 a.2) N (l4, l5)) := by
  intro l4 l5 hI hM
  exact ok_l (I := fun (a : Int32 × Int32) => (0 ≤ a.2)) (M := fun (a : Int32 × Int32) => ((5 : Int32) - a.2)) (fun K a hI hK => sX1_seenAlike_6  hN h_a2 h_a3  (fun l4 l5 hI2  hlt hp => hK (l4, l5) hI2 hlt hp) hI  rfl) N _ hI hN hM
theorem tX1_seenAlike {N : Nat} {v_track_0 : (Nat → Int32)} {v_track_1 : (Nat → Int32)} {v_track_2 : (Nat → Int32)} {v_track_3 : (Nat → Int32)} {v_track_4 : (Nat → Int32)} {a1 : Int32} {a2 : Int32} {a3 : Int32}  (hN : 49999 < N) (h_a2 : RB 0 4 a2) (h_a3 : RB 0 40 a3)  : Ok (fun r => True) (fX1_seenAlike N v_track_0 v_track_1 v_track_2 v_track_3 v_track_4 a1 a2 a3) := by
  unfold fX1_seenAlike
  exact lX1_seenAlike_6  hN h_a2 h_a3  _ _ (by grind)  (by grind)
theorem sX1_leftAtWorst_5 {N : Nat} {v_track_0 : (Nat → Int32)} {v_track_1 : (Nat → Int32)} {v_track_2 : (Nat → Int32)} {v_track_3 : (Nat → Int32)} {v_track_4 : (Nat → Int32)} {a1 : Int32} {a2 : Int32} {K_5 : Int32 → Int32 → Option (Int32)} {l3 : Int32} {l4 : Int32}  {m_5 : Int32} (hN : 49999 < N) (h_a2 : RB 0 40 a2) (hK_5 : ∀ (l3 : Int32) (l4 : Int32), 0 ≤ l4 → ((5 : Int32) - l4) < m_5 → 0 < m_5 → Ok (fun r => True) (K_5 l3 l4)) (hI : 0 ≤ l4) (hm_5 : ((5 : Int32) - l4) = m_5) : Ok (fun r => True) (fX1_leftAtWorst_5 N v_track_0 v_track_1 v_track_2 v_track_3 v_track_4 a1 a2 K_5 l3 l4) := by
  have h_l4 := hI
  unfold fX1_leftAtWorst_5
  refine ok_if (fun c_1 => ?_) (fun c_1 => ?_)
  · exact ok_s trivial
  · refine ok_b (tX1_has hN ) (fun x_14 hx => ?_)
    refine ok_if (fun c_2 => ?_) (fun c_2 => ?_)
    · exact hK_5 _ _ (by clear hm_5 hK_5; grind) (by clear hK_5; grind) (by clear hK_5; grind)
    · refine ok_b (tX1_seenAlike hN (by clear hm_5 hK_5; grind) h_a2) (fun x_26 hx => ?_)
      exact hK_5 _ _ (by clear hm_5 hK_5; grind) (by clear hK_5; grind) (by clear hK_5; grind)
theorem lX1_leftAtWorst_5 {N : Nat} {v_track_0 : (Nat → Int32)} {v_track_1 : (Nat → Int32)} {v_track_2 : (Nat → Int32)} {v_track_3 : (Nat → Int32)} {v_track_4 : (Nat → Int32)} {a1 : Int32} {a2 : Int32}  (hN : 49999 < N) (h_a2 : RB 0 40 a2)  : ∀ (l3 : Int32) (l4 : Int32), 0 ≤ l4 → ((5 : Int32) - l4) ≤ 49999 → Ok (fun r => True) (lfix (fun (K : Int32 × Int32 → Option (Int32)) (a : Int32 × Int32) => fX1_leftAtWorst_5 N v_track_0 v_track_1 v_track_2 v_track_3 v_track_4 a1 a2 (fun (l3 : Int32) (l4 : Int32) => K (l3, l4)) a.1 a.2) N (l3, l4)) := by
  intro l3 l4 hI hM
  exact ok_l (I := fun (a : Int32 × Int32) => (0 ≤ a.2)) (M := fun (a : Int32 × Int32) => ((5 : Int32) - a.2)) (fun K a hI hK => sX1_leftAtWorst_5  hN h_a2  (fun l3 l4 hI2  hlt hp => hK (l3, l4) hI2 hlt hp) hI  rfl) N _ hI hN hM
theorem tX1_leftAtWorst {N : Nat} {v_track_0 : (Nat → Int32)} {v_track_1 : (Nat → Int32)} {v_track_2 : (Nat → Int32)} {v_track_3 : (Nat → Int32)} {v_track_4 : (Nat → Int32)} {a1 : Int32} {a2 : Int32}  (hN : 49999 < N) (h_a2 : RB 0 40 a2)  : Ok (fun r => True) (fX1_leftAtWorst N v_track_0 v_track_1 v_track_2 v_track_3 v_track_4 a1 a2) := by
  unfold fX1_leftAtWorst
  exact lX1_leftAtWorst_5  hN h_a2  _ _ (by grind)  (by grind)
theorem sX1_nightToLook_37 {N : Nat} {w2_town_houses : Int32} {w2_town_front : Int32} {w2_town_downFor : Int32} {w2_town_kindOf : (Nat → Int32)} {w2_town_plotOf : (Nat → Int32)} {w2_town_row : (Nat → Int32)} {w2_town_standsOn : (Nat → Int32)} {w2_seen_size : Int32} {w2_seen_house : (Nat → Int32)} {w2_seen_night : (Nat → Int32)} {w2_seen_plot : (Nat → Int32)} {a1 : Int32} {K_37 : Int32 → Int32 → Int32 → Int32 → Int32 → Int32 → Int32 → (Nat → Int32) → (Nat → Int32) → (Nat → Int32) → (Nat → Int32) → (Nat → Int32) → (Nat → Int32) → (Nat → Int32) → (Nat → Int32) → (Nat → Int32) → Option (Int32 × Int32 × Int32 × Int32 × (Nat → Int32) × (Nat → Int32) × (Nat → Int32) × (Nat → Int32) × (Nat → Int32) × (Nat → Int32) × (Nat → Int32) × (Nat → Int32) × (Nat → Int32))} {l3 : Int32} {l4 : Int32} {l5 : Int32} {l6 : Int32} {v_town_houses : Int32} {v_town_front : Int32} {v_town_downFor : Int32} {v_town_kindOf : (Nat → Int32)} {v_town_plotOf : (Nat → Int32)} {v_town_row : (Nat → Int32)} {v_town_standsOn : (Nat → Int32)} {v_track_0 : (Nat → Int32)} {v_track_1 : (Nat → Int32)} {v_track_2 : (Nat → Int32)} {v_track_3 : (Nat → Int32)} {v_track_4 : (Nat → Int32)}  {m_37 : Int32} (hN : 49999 < N) (h_w2_town_houses : RB 1 6 w2_town_houses) (h_w2_town_front : RB 0 11 w2_town_front) (h_w2_town_plotOf : RA (-1) 11 w2_town_plotOf) (h_w2_town_row : RA 0 5 w2_town_row) (h_w2_town_standsOn : RA (-1) 5 w2_town_standsOn) (h_w2_seen_size : RB 0 6 w2_seen_size) (h_w2_seen_house : RA 0 5 w2_seen_house) (h_w2_seen_night : RA 0 40 w2_seen_night) (h_a1 : RB 0 5 a1) (hK_37 : ∀ (l3 : Int32) (l4 : Int32) (l5 : Int32) (l6 : Int32) (v_town_houses : Int32) (v_town_front : Int32) (v_town_downFor : Int32) (v_town_kindOf : (Nat → Int32)) (v_town_plotOf : (Nat → Int32)) (v_town_row : (Nat → Int32)) (v_town_standsOn : (Nat → Int32)) (v_track_0 : (Nat → Int32)) (v_track_1 : (Nat → Int32)) (v_track_2 : (Nat → Int32)) (v_track_3 : (Nat → Int32)) (v_track_4 : (Nat → Int32)), RB 0 6 v_town_houses ∧ RB 0 11 v_town_front ∧ RA (-1) 11 v_town_plotOf ∧ RA 0 5 v_town_row ∧ RA (-1) 5 v_town_standsOn ∧ 0 ≤ l6 → ((40 : Int32) + 1 - l6) < m_37 → 0 < m_37 → Ok (fun r => RB 0 6 r.2.1 ∧ RB 0 11 r.2.2.1 ∧ RA (-1) 11 r.2.2.2.2.2.1 ∧ RA 0 5 r.2.2.2.2.2.2.1 ∧ RA (-1) 5 r.2.2.2.2.2.2.2.1) (K_37 l3 l4 l5 l6 v_town_houses v_town_front v_town_downFor v_town_kindOf v_town_plotOf v_town_row v_town_standsOn v_track_0 v_track_1 v_track_2 v_track_3 v_track_4)) (hI : RB 0 6 v_town_houses ∧ RB 0 11 v_town_front ∧ RA (-1) 11 v_town_plotOf ∧ RA 0 5 v_town_row ∧ RA (-1) 5 v_town_standsOn ∧ 0 ≤ l6) (hm_37 : ((40 : Int32) + 1 - l6) = m_37) : Ok (fun r => RB 0 6 r.2.1 ∧ RB 0 11 r.2.2.1 ∧ RA (-1) 11 r.2.2.2.2.2.1 ∧ RA 0 5 r.2.2.2.2.2.2.1 ∧ RA (-1) 5 r.2.2.2.2.2.2.2.1) (fX1_nightToLook_37 N w2_town_houses w2_town_front w2_town_downFor w2_town_kindOf w2_town_plotOf w2_town_row w2_town_standsOn w2_seen_size w2_seen_house w2_seen_night w2_seen_plot a1 K_37 l3 l4 l5 l6 v_town_houses v_town_front v_town_downFor v_town_kindOf v_town_plotOf v_town_row v_town_standsOn v_track_0 v_track_1 v_track_2 v_track_3 v_track_4) := by
  obtain ⟨h_v_town_houses, h_v_town_front, h_v_town_plotOf, h_v_town_row, h_v_town_standsOn, h_l6⟩ := hI
  unfold fX1_nightToLook_37
  refine ok_if (fun c_1 => ?_) (fun c_1 => ?_)
  · exact ok_s ⟨h_v_town_houses, h_v_town_front, h_v_town_plotOf, h_v_town_row, h_v_town_standsOn⟩
  · refine ok_b (tX1_leftAtWorst hN (by clear hm_37 hK_37; grind)) (fun x_48 hx => ?_)
    refine ok_if (fun c_2 => ?_) (fun c_2 => ?_)
    · exact hK_37 _ _ _ _ _ _ _ _ _ _ _ _ _ _ _ _ ⟨h_v_town_houses, h_v_town_front, h_v_town_plotOf, h_v_town_row, h_v_town_standsOn, (by clear hm_37 hK_37; grind)⟩ (by clear hK_37; grind) (by clear hK_37; grind)
    · exact hK_37 _ _ _ _ _ _ _ _ _ _ _ _ _ _ _ _ ⟨h_v_town_houses, h_v_town_front, h_v_town_plotOf, h_v_town_row, h_v_town_standsOn, (by clear hm_37 hK_37; grind)⟩ (by clear hK_37; grind) (by clear hK_37; grind)
theorem lX1_nightToLook_37 {N : Nat} {w2_town_houses : Int32} {w2_town_front : Int32} {w2_town_downFor : Int32} {w2_town_kindOf : (Nat → Int32)} {w2_town_plotOf : (Nat → Int32)} {w2_town_row : (Nat → Int32)} {w2_town_standsOn : (Nat → Int32)} {w2_seen_size : Int32} {w2_seen_house : (Nat → Int32)} {w2_seen_night : (Nat → Int32)} {w2_seen_plot : (Nat → Int32)} {a1 : Int32}  (hN : 49999 < N) (h_w2_town_houses : RB 1 6 w2_town_houses) (h_w2_town_front : RB 0 11 w2_town_front) (h_w2_town_plotOf : RA (-1) 11 w2_town_plotOf) (h_w2_town_row : RA 0 5 w2_town_row) (h_w2_town_standsOn : RA (-1) 5 w2_town_standsOn) (h_w2_seen_size : RB 0 6 w2_seen_size) (h_w2_seen_house : RA 0 5 w2_seen_house) (h_w2_seen_night : RA 0 40 w2_seen_night) (h_a1 : RB 0 5 a1)  : ∀ (l3 : Int32) (l4 : Int32) (l5 : Int32) (l6 : Int32) (v_town_houses : Int32) (v_town_front : Int32) (v_town_downFor : Int32) (v_town_kindOf : (Nat → Int32)) (v_town_plotOf : (Nat → Int32)) (v_town_row : (Nat → Int32)) (v_town_standsOn : (Nat → Int32)) (v_track_0 : (Nat → Int32)) (v_track_1 : (Nat → Int32)) (v_track_2 : (Nat → Int32)) (v_track_3 : (Nat → Int32)) (v_track_4 : (Nat → Int32)), RB 0 6 v_town_houses ∧ RB 0 11 v_town_front ∧ RA (-1) 11 v_town_plotOf ∧ RA 0 5 v_town_row ∧ RA (-1) 5 v_town_standsOn ∧ 0 ≤ l6 → ((40 : Int32) + 1 - l6) ≤ 49999 → Ok (fun r => RB 0 6 r.2.1 ∧ RB 0 11 r.2.2.1 ∧ RA (-1) 11 r.2.2.2.2.2.1 ∧ RA 0 5 r.2.2.2.2.2.2.1 ∧ RA (-1) 5 r.2.2.2.2.2.2.2.1) (lfix (fun (K : Int32 × Int32 × Int32 × Int32 × Int32 × Int32 × Int32 × (Nat → Int32) × (Nat → Int32) × (Nat → Int32) × (Nat → Int32) × (Nat → Int32) × (Nat → Int32) × (Nat → Int32) × (Nat → Int32) × (Nat → Int32) → Option (Int32 × Int32 × Int32 × Int32 × (Nat → Int32) × (Nat → Int32) × (Nat → Int32) × (Nat → Int32) × (Nat → Int32) × (Nat → Int32) × (Nat → Int32) × (Nat → Int32) × (Nat → Int32))) (a : Int32 × Int32 × Int32 × Int32 × Int32 × Int32 × Int32 × (Nat → Int32) × (Nat → Int32) × (Nat → Int32) × (Nat → Int32) × (Nat → Int32) × (Nat → Int32) × (Nat → Int32) × (Nat → Int32) × (Nat → Int32)) => fX1_nightToLook_37 N w2_town_houses w2_town_front w2_town_downFor w2_town_kindOf w2_town_plotOf w2_town_row w2_town_standsOn w2_seen_size w2_seen_house w2_seen_night w2_seen_plot a1 (fun (l3 : Int32) (l4 : Int32) (l5 : Int32) (l6 : Int32) (v_town_houses : Int32) (v_town_front : Int32) (v_town_downFor : Int32) (v_town_kindOf : (Nat → Int32)) (v_town_plotOf : (Nat → Int32)) (v_town_row : (Nat → Int32)) (v_town_standsOn : (Nat → Int32)) (v_track_0 : (Nat → Int32)) (v_track_1 : (Nat → Int32)) (v_track_2 : (Nat → Int32)) (v_track_3 : (Nat → Int32)) (v_track_4 : (Nat → Int32)) => K (l3, l4, l5, l6, v_town_houses, v_town_front, v_town_downFor, v_town_kindOf, v_town_plotOf, v_town_row, v_town_standsOn, v_track_0, v_track_1, v_track_2, v_track_3, v_track_4)) a.1 a.2.1 a.2.2.1 a.2.2.2.1 a.2.2.2.2.1 a.2.2.2.2.2.1 a.2.2.2.2.2.2.1 a.2.2.2.2.2.2.2.1 a.2.2.2.2.2.2.2.2.1 a.2.2.2.2.2.2.2.2.2.1 a.2.2.2.2.2.2.2.2.2.2.1 a.2.2.2.2.2.2.2.2.2.2.2.1 a.2.2.2.2.2.2.2.2.2.2.2.2.1 a.2.2.2.2.2.2.2.2.2.2.2.2.2.1 a.2.2.2.2.2.2.2.2.2.2.2.2.2.2.1 a.2.2.2.2.2.2.2.2.2.2.2.2.2.2.2) N (l3, l4, l5, l6, v_town_houses, v_town_front, v_town_downFor, v_town_kindOf, v_town_plotOf, v_town_row, v_town_standsOn, v_track_0, v_track_1, v_track_2, v_track_3, v_track_4)) := by
  intro l3 l4 l5 l6 v_town_houses v_town_front v_town_downFor v_town_kindOf v_town_plotOf v_town_row v_town_standsOn v_track_0 v_track_1 v_track_2 v_track_3 v_track_4 hI hM
  exact ok_l (I := fun (a : Int32 × Int32 × Int32 × Int32 × Int32 × Int32 × Int32 × (Nat → Int32) × (Nat → Int32) × (Nat → Int32) × (Nat → Int32) × (Nat → Int32) × (Nat → Int32) × (Nat → Int32) × (Nat → Int32) × (Nat → Int32)) => (RB 0 6 a.2.2.2.2.1 ∧ RB 0 11 a.2.2.2.2.2.1 ∧ RA (-1) 11 a.2.2.2.2.2.2.2.2.1 ∧ RA 0 5 a.2.2.2.2.2.2.2.2.2.1 ∧ RA (-1) 5 a.2.2.2.2.2.2.2.2.2.2.1 ∧ 0 ≤ a.2.2.2.1)) (M := fun (a : Int32 × Int32 × Int32 × Int32 × Int32 × Int32 × Int32 × (Nat → Int32) × (Nat → Int32) × (Nat → Int32) × (Nat → Int32) × (Nat → Int32) × (Nat → Int32) × (Nat → Int32) × (Nat → Int32) × (Nat → Int32)) => ((40 : Int32) + 1 - a.2.2.2.1)) (fun K a hI hK => sX1_nightToLook_37  hN h_w2_town_houses h_w2_town_front h_w2_town_plotOf h_w2_town_row h_w2_town_standsOn h_w2_seen_size h_w2_seen_house h_w2_seen_night h_a1  (fun l3 l4 l5 l6 v_town_houses v_town_front v_town_downFor v_town_kindOf v_town_plotOf v_town_row v_town_standsOn v_track_0 v_track_1 v_track_2 v_track_3 v_track_4 hI2  hlt hp => hK (l3, l4, l5, l6, v_town_houses, v_town_front, v_town_downFor, v_town_kindOf, v_town_plotOf, v_town_row, v_town_standsOn, v_track_0, v_track_1, v_track_2, v_track_3, v_track_4) hI2 hlt hp) hI  rfl) N _ hI hN hM
theorem tX1_nightToLook {N : Nat} {w2_town_houses : Int32} {w2_town_front : Int32} {w2_town_downFor : Int32} {w2_town_kindOf : (Nat → Int32)} {w2_town_plotOf : (Nat → Int32)} {w2_town_row : (Nat → Int32)} {w2_town_standsOn : (Nat → Int32)} {w2_seen_size : Int32} {w2_seen_house : (Nat → Int32)} {w2_seen_night : (Nat → Int32)} {w2_seen_plot : (Nat → Int32)} {a1 : Int32} {v_town_houses : Int32} {v_town_front : Int32} {v_town_downFor : Int32} {v_town_kindOf : (Nat → Int32)} {v_town_plotOf : (Nat → Int32)} {v_town_row : (Nat → Int32)} {v_town_standsOn : (Nat → Int32)} {v_track_0 : (Nat → Int32)} {v_track_1 : (Nat → Int32)} {v_track_2 : (Nat → Int32)} {v_track_3 : (Nat → Int32)} {v_track_4 : (Nat → Int32)}  (hN : 49999 < N) (h_w2_town_houses : RB 1 6 w2_town_houses) (h_w2_town_front : RB 0 11 w2_town_front) (h_w2_town_plotOf : RA (-1) 11 w2_town_plotOf) (h_w2_town_row : RA 0 5 w2_town_row) (h_w2_town_standsOn : RA (-1) 5 w2_town_standsOn) (h_w2_seen_size : RB 0 6 w2_seen_size) (h_w2_seen_house : RA 0 5 w2_seen_house) (h_w2_seen_night : RA 0 40 w2_seen_night) (h_a1 : RB 0 5 a1) (h_v_town_houses : RB 0 6 v_town_houses) (h_v_town_front : RB 0 11 v_town_front) (h_v_town_plotOf : RA (-1) 11 v_town_plotOf) (h_v_town_row : RA 0 5 v_town_row) (h_v_town_standsOn : RA (-1) 5 v_town_standsOn)  : Ok (fun r => RB 0 6 r.2.1 ∧ RB 0 11 r.2.2.1 ∧ RA (-1) 11 r.2.2.2.2.2.1 ∧ RA 0 5 r.2.2.2.2.2.2.1 ∧ RA (-1) 5 r.2.2.2.2.2.2.2.1) (fX1_nightToLook N w2_town_houses w2_town_front w2_town_downFor w2_town_kindOf w2_town_plotOf w2_town_row w2_town_standsOn w2_seen_size w2_seen_house w2_seen_night w2_seen_plot a1 v_town_houses v_town_front v_town_downFor v_town_kindOf v_town_plotOf v_town_row v_town_standsOn v_track_0 v_track_1 v_track_2 v_track_3 v_track_4) := by
  unfold fX1_nightToLook
  refine ok_b (tX1_follow hN h_w2_town_houses h_w2_town_front h_w2_town_plotOf h_w2_town_row h_w2_town_standsOn h_a1 (by grind) h_v_town_houses h_v_town_front h_v_town_plotOf h_v_town_row h_v_town_standsOn) (fun x_8 hx => ?_)
  obtain ⟨h_x_8_0, h_x_8_1, h_x_8_2, h_x_8_3, h_x_8_4⟩ := hx
  refine ok_b (tX1_kindsByTracks hN (nz6 (by grind)) h_w2_seen_size h_w2_seen_house h_w2_seen_night) (fun x_17 hx => ?_)
  refine ok_if (fun c_1 => ?_) (fun c_1 => ?_)
  · exact ok_s ⟨h_x_8_0, h_x_8_1, h_x_8_2, h_x_8_3, h_x_8_4⟩
  · exact lX1_nightToLook_37  hN h_w2_town_houses h_w2_town_front h_w2_town_plotOf h_w2_town_row h_w2_town_standsOn h_w2_seen_size h_w2_seen_house h_w2_seen_night h_a1  _ _ _ _ _ _ _ _ _ _ _ _ _ _ _ _ ⟨h_x_8_0, h_x_8_1, h_x_8_2, h_x_8_3, h_x_8_4, (by grind)⟩  (by grind)
theorem tX2_add {N : Nat} {n_o : Nat} {a1 : Int32} {a2 : Int32} {a3 : Int32} {v_size : Int32} {v_house : (Nat → Int32)} {v_plot : (Nat → Int32)} {v_night : (Nat → Int32)} (hN : 49999 < N) (f_0 : NZ n_o v_size) (h_a1 : RB 0 5 a1) (h_a3 : RB 0 40 a3) (h_v_house : RA 0 5 v_house) (h_v_night : RA 0 40 v_night) : Ok (fun r => RA 0 5 r.2.2.1 ∧ RA 0 40 r.2.2.2.2 ∧ (0 ≤ r.2.1 ∧ r.2.1 ≤ Int32.ofNat n_o) ∧ (v_size < Int32.ofNat n_o ∧ r.1 = v_size + 1 ∧ r.2.1 = v_size + 1 ∨ ¬ v_size < Int32.ofNat n_o ∧ r.1 = -104 ∧ r.2.1 = v_size)) (fX2_add N n_o a1 a2 a3 v_size v_house v_plot v_night) := by
  unfold fX2_add
  refine ok_if (fun c => ?_) (fun c => ?_)
  · have hg := ngy f_0 c
    have h0 := f_0.1
    have hl := f_0.le
    refine ok_g hg (ok_g hg (ok_g hg (ok_s ⟨RA.upd h_v_house h_a1, RA.upd h_v_night h_a3, ?_, Or.inl ⟨c, rfl, rfl⟩⟩)))
    refine ⟨by show 0 ≤ v_size + 1; grind, ?_⟩
    show v_size + 1 ≤ Int32.ofNat n_o
    grind
  · exact ok_s ⟨h_v_house, h_v_night, ⟨f_0.1, f_0.2.1⟩, Or.inr ⟨c, rfl, rfl⟩⟩
theorem tX2_clear {N : Nat} {v_size : Int32}  (hN : 49999 < N)   : Ok (fun r => (r.1 = v_size ∧ r.2 = 0)) (fX2_clear N v_size) := by
  unfold fX2_clear
  exact ok_s (by grind)
theorem tX2_copyFrom {N : Nat} {n_o : Nat} {n_a1 : Nat} {w1_size : Int32} {w1_house : (Nat → Int32)} {w1_plot : (Nat → Int32)} {w1_night : (Nat → Int32)} {v_size : Int32} {v_house : (Nat → Int32)} {v_plot : (Nat → Int32)} {v_night : (Nat → Int32)} (hN : 49999 < N) (f_0 : NZ n_o w1_size) (f_1 : NZ n_a1 w1_size) (h_w1_house : RA 0 5 w1_house) (h_w1_night : RA 0 40 w1_night) (h_v_house : RA 0 5 v_house) (h_v_night : RA 0 40 v_night) : Ok (fun r => RA 0 5 r.2.1 ∧ RA 0 40 r.2.2.2 ∧ (r.1 = w1_size)) (fX2_copyFrom N n_o n_a1 w1_size w1_house w1_plot w1_night v_size v_house v_plot v_night) := by
  unfold fX2_copyFrom
  have e : (if (Int32.ofNat n_o) < w1_size then (Int32.ofNat n_o) else w1_size) = w1_size := if_neg (by have := f_0.2.1; grind)
  rw [e]
  have hg : ¬ (w1_size < 0 ∨ n_a1 < (w1_size).toNatClampNeg ∨ n_o < (w1_size).toNatClampNeg) := ngc f_0 f_1
  exact ok_g hg (ok_g hg (ok_g hg (ok_s ⟨RA.cpy h_w1_house h_v_house, RA.cpy h_w1_night h_v_night, rfl⟩)))
theorem sX2_trueBehind_5 {N : Nat} {n_o : Nat} {v_size : Int32} {v_night : (Nat → Int32)} {v_house : (Nat → Int32)} {w2_plotOf : (Nat → Int32)} {v_plot : (Nat → Int32)} {a1 : Int32} {K_5 : Int32 → Int32 → Option (Int32)} {l3 : Int32} {l4 : Int32}  {m_5 : Int32} (hN : 49999 < N) (f_0 : NZ n_o v_size) (h_v_night : RA 0 40 v_night) (h_v_house : RA 0 5 v_house) (h_w2_plotOf : RA (-1) 11 w2_plotOf) (hK_5 : ∀ (l3 : Int32) (l4 : Int32), 0 ≤ l4 → (v_size - l4) < m_5 → 0 < m_5 → Ok (fun r => True) (K_5 l3 l4)) (hI : 0 ≤ l4) (hm_5 : (v_size - l4) = m_5) : Ok (fun r => True) (fX2_trueBehind_5 N n_o v_size v_night v_house w2_plotOf v_plot a1 K_5 l3 l4) := by
  have h_l4 := hI
  have fz_0 := f_0.le
  have fy_0 := f_0.2.1
  unfold fX2_trueBehind_5
  refine ok_if (fun c_1 => ?_) (fun c_1 => ?_)
  · exact ok_s trivial
  · refine ok_g (ngz f_0 (by clear hm_5 hK_5; grind)) ?_
    refine ok_if (fun c_2 => ?_) (fun c_2 => ?_)
    · refine ok_g (ngz f_0 (by clear hm_5 hK_5; grind)) ?_
      refine ok_g (ng6 (by clear hm_5 hK_5; have := h_v_house ((l4).toNatClampNeg); grind)) ?_
      refine ok_g (ngz f_0 (by clear hm_5 hK_5; grind)) ?_
      refine ok_if (fun c_3 => ?_) (fun c_3 => ?_)
      · exact hK_5 _ _ (by clear hm_5 hK_5; grind) (by clear hK_5; grind) (by clear hK_5; grind)
      · exact hK_5 _ _ (by clear hm_5 hK_5; grind) (by clear hK_5; grind) (by clear hK_5; grind)
    · exact hK_5 _ _ (by clear hm_5 hK_5; grind) (by clear hK_5; grind) (by clear hK_5; grind)
theorem lX2_trueBehind_5 {N : Nat} {n_o : Nat} {v_size : Int32} {v_night : (Nat → Int32)} {v_house : (Nat → Int32)} {w2_plotOf : (Nat → Int32)} {v_plot : (Nat → Int32)} {a1 : Int32}  (hN : 49999 < N) (f_0 : NZ n_o v_size) (h_v_night : RA 0 40 v_night) (h_v_house : RA 0 5 v_house) (h_w2_plotOf : RA (-1) 11 w2_plotOf)  : ∀ (l3 : Int32) (l4 : Int32), 0 ≤ l4 → (v_size - l4) ≤ 49999 → Ok (fun r => True) (lfix (fun (K : Int32 × Int32 → Option (Int32)) (a : Int32 × Int32) => fX2_trueBehind_5 N n_o v_size v_night v_house w2_plotOf v_plot a1 (fun (l3 : Int32) (l4 : Int32) => K (l3, l4)) a.1 a.2) N (l3, l4)) := by
  intro l3 l4 hI hM
  exact ok_l (I := fun (a : Int32 × Int32) => (0 ≤ a.2)) (M := fun (a : Int32 × Int32) => (v_size - a.2)) (fun K a hI hK => sX2_trueBehind_5  hN f_0 h_v_night h_v_house h_w2_plotOf  (fun l3 l4 hI2  hlt hp => hK (l3, l4) hI2 hlt hp) hI  rfl) N _ hI hN hM
theorem tX2_trueBehind {N : Nat} {n_o : Nat} {v_size : Int32} {v_night : (Nat → Int32)} {v_house : (Nat → Int32)} {w2_plotOf : (Nat → Int32)} {v_plot : (Nat → Int32)} {a1 : Int32}  (hN : 49999 < N) (f_0 : NZ n_o v_size) (h_v_night : RA 0 40 v_night) (h_v_house : RA 0 5 v_house) (h_w2_plotOf : RA (-1) 11 w2_plotOf)  : Ok (fun r => True) (fX2_trueBehind N n_o v_size v_night v_house w2_plotOf v_plot a1) := by
  have fz_0 := f_0.le
  have fy_0 := f_0.2.1
  unfold fX2_trueBehind
  exact lX2_trueBehind_5  hN f_0 h_v_night h_v_house h_w2_plotOf  _ _ (by grind)  (by grind)
theorem tX3_write {N : Nat} {a1 : Int32} {v_size : Int32} {v_letters : (Nat → Int32)}  (hN : 49999 < N) (h_a1 : RB 0 126 a1) (h_v_size : RB 0 32 v_size) (h_v_letters : RA 0 126 v_letters)  : Ok (fun r => RB 0 32 r.1 ∧ RA 0 126 r.2 ∧ (v_size < 32 ∧ r.1 = v_size + 1 ∧ r.2 = upd v_letters (v_size).toNatClampNeg a1 ∨ 32 ≤ v_size ∧ r.1 = v_size ∧ r.2 = v_letters)) (fX3_write N a1 v_size v_letters) := by
  unfold fX3_write
  refine ok_if (fun c_1 => ?_) (fun c_1 => ?_)
  · exact ok_s ⟨h_v_size, h_v_letters, (by grind)⟩
  · refine ok_g (ng32 (by grind)) ?_
    exact ok_s ⟨(by grind), (RA.upd h_v_letters (by grind)), (by grind)⟩
theorem kb_i8 : ∀ j : Fin 127, (nI j.val).toInt8.toInt32 = nI j.val ∧ ((nI j.val).toUInt32 % 65536).toInt32 = nI j.val := by decide +kernel
theorem ic_ok {N : Nat} {c : Int32} (hN : 49999 < N) (hc : c.toInt8.toInt32 = c) : fJ1_indexOfChar_4cfef_a0V N c 0 5 = some (kc c) := by
  obtain ⟨M, rfl⟩ : ∃ M, N = M + 6 := ⟨N - 6, by omega⟩
  unfold fJ1_indexOfChar_4cfef_a0V
  rw [hc]
  have st : ∀ (n : Nat) (l : Int32), ¬ (5 : Int32) ≤ l → ¬ (l < 0 ∨ 5 ≤ l.toNatClampNeg) → lfix (fun (K : Int32 × Int32 → Option (Int32)) (a : Int32 × Int32) => fJ1_indexOfChar_4cfef_a0V_7 (M + 6) c 0 5 (fun (l4 : Int32) (l5 : Int32) => K (l4, l5)) a.1 a.2) (n + 1) (c, l) = if kb l.toNatClampNeg = c then some l else lfix (fun (K : Int32 × Int32 → Option (Int32)) (a : Int32 × Int32) => fJ1_indexOfChar_4cfef_a0V_7 (M + 6) c 0 5 (fun (l4 : Int32) (l5 : Int32) => K (l4, l5)) a.1 a.2) n (c, l + 1) := by
    intro n l h1 h2
    rw [lfix_s]
    show fJ1_indexOfChar_4cfef_a0V_7 (M + 6) c 0 5 _ c l = _
    unfold fJ1_indexOfChar_4cfef_a0V_7
    rw [if_neg h1, if_neg h2]
  have en : ∀ (n : Nat), lfix (fun (K : Int32 × Int32 → Option (Int32)) (a : Int32 × Int32) => fJ1_indexOfChar_4cfef_a0V_7 (M + 6) c 0 5 (fun (l4 : Int32) (l5 : Int32) => K (l4, l5)) a.1 a.2) (n + 1) (c, 5) = some (-1) := by
    intro n
    rw [lfix_s]
    show fJ1_indexOfChar_4cfef_a0V_7 (M + 6) c 0 5 _ c 5 = _
    unfold fJ1_indexOfChar_4cfef_a0V_7
    rw [if_pos (by decide)]
  rw [st (M + 5) 0 (by decide) (by decide), show (0 : Int32) + 1 = 1 from rfl, st (M + 4) 1 (by decide) (by decide), show (1 : Int32) + 1 = 2 from rfl, st (M + 3) 2 (by decide) (by decide), show (2 : Int32) + 1 = 3 from rfl, st (M + 2) 3 (by decide) (by decide), show (3 : Int32) + 1 = 4 from rfl, st (M + 1) 4 (by decide) (by decide), show (4 : Int32) + 1 = 5 from rfl, en M]
  rw [show kb ((0 : Int32)).toNatClampNeg = 104 from rfl, show kb ((1 : Int32)).toNatClampNeg = 101 from rfl, show kb ((2 : Int32)).toNatClampNeg = 116 from rfl, show kb ((3 : Int32)).toNatClampNeg = 115 from rfl, show kb ((4 : Int32)).toNatClampNeg = 99 from rfl]
  unfold kc
  grind
theorem tX3_kindBy {N : Nat} {a0 : Int32} (hN : 49999 < N) (h_a0 : RB 0 126 a0) : Ok (fun r => (r = kc a0)) (fX3_kindBy N a0) := by
  obtain ⟨j, hj, rfl⟩ := nI_of2 (x := a0) (M := 126) (n := 126) rfl (by grind) h_a0.2
  have hk := kb_i8 ⟨j, by omega⟩
  have h1 : (nI j).toInt8.toInt32 = nI j := hk.1
  have h2 : ((nI j).toUInt32 % 65536).toInt32 = nI j := hk.2
  have q0 : ¬ nI j < 0 := by grind
  have q1 : ¬ (255 : Int32) < nI j := by grind
  unfold fX3_kindBy fJ0_indexOf_0f7a4_oK fJ0_indexOf_7cf53_oK fJ0_isLatin1_aae02_oK fJ0_length_8abf5_oK fJ0_coder_7d493_oK
  rw [h2]
  have e : fJ1_indexOf_4cfef_a0V N (nI j) 0 5 = some (kc (nI j)) := by
    unfold fJ1_indexOf_4cfef_a0V fJ1_canEncode_9a6ad
    rw [if_neg q0, if_neg q1]
    simp only [Option.bind_some]
    rw [if_neg (by decide), if_pos (by decide)]
    show (fJ1_indexOfChar_4cfef_a0V N (nI j) 0 5).bind _ = _
    rw [ic_ok hN h1]
    rfl
  have s5 : (5 : Int32) >>> ((0 : Int32) &&& 31) = 5 := by decide
  simp only [Option.bind_some]
  rw [if_neg (by decide), s5, e]
  exact ok_s rfl
theorem tX3_fits {N : Nat} {a0 : Int32} {a1 : Int32}  (hN : 49999 < N) (h_a0 : RB 0 40 a0) (h_a1 : RB 0 126 a1)  : Ok (fun r => (r = 0 ∧ ¬(gd_ a0 a1) ∨ r = 1 ∧ gd_ a0 a1)) (fX3_fits N a0 a1) := by
  unfold fX3_fits
  refine ok_if (fun c_1 => ?_) (fun c_1 => ?_)
  · refine ok_if (fun c_2 => ?_) (fun c_2 => ?_)
    · refine ok_if (fun c_3 => ?_) (fun c_3 => ?_)
      · exact ok_s (by have kcu := kc_ne a1; unfold gd_; grind)
      · exact ok_s (by have kcu := kc_ne a1; unfold gd_; grind)
    · refine ok_if (fun c_4 => ?_) (fun c_4 => ?_)
      · refine ok_if (fun c_5 => ?_) (fun c_5 => ?_)
        · refine ok_b (tX3_kindBy hN h_a1) (fun x_85 hx => ?_)
          have h_x_85_0 := hx
          refine ok_if (fun c_6 => ?_) (fun c_6 => ?_)
          · exact ok_s (by have kcu := kc_ne a1; unfold gd_; grind)
          · exact ok_s (by have kcu := kc_ne a1; unfold gd_; grind)
        · refine ok_if (fun c_7 => ?_) (fun c_7 => ?_)
          · refine ok_if (fun c_8 => ?_) (fun c_8 => ?_)
            · exact ok_s (by have kcu := kc_ne a1; unfold gd_; grind)
            · refine ok_if (fun c_9 => ?_) (fun c_9 => ?_)
              · exact ok_s (by have kcu := kc_ne a1; unfold gd_; grind)
              · exact ok_s (by have kcu := kc_ne a1; unfold gd_; grind)
          · refine ok_if (fun c_10 => ?_) (fun c_10 => ?_)
            · exact ok_s (by have kcu := kc_ne a1; unfold gd_; grind)
            · exact ok_s (by have kcu := kc_ne a1; unfold gd_; grind)
      · exact ok_s (by have kcu := kc_ne a1; unfold gd_; grind)
  · refine ok_if (fun c_11 => ?_) (fun c_11 => ?_)
    · exact ok_s (by have kcu := kc_ne a1; unfold gd_; grind)
    · refine ok_if (fun c_12 => ?_) (fun c_12 => ?_)
      · exact ok_s (by have kcu := kc_ne a1; unfold gd_; grind)
      · exact ok_s (by have kcu := kc_ne a1; unfold gd_; grind)
theorem sX3_firstWrong_2 {N : Nat} {v_size : Int32} {v_letters : (Nat → Int32)} {K_2 : Int32 → Option (Int32)} {l1 : Int32}  {m_2 : Int32} (hN : 49999 < N) (h_v_size : RB 0 32 v_size) (h_v_letters : RA 0 126 v_letters) (hK_2 : ∀ (l1 : Int32), 0 ≤ l1 ∧ (0 ≤ l1 ∧ l1 ≤ v_size) ∧ (∀ i : Int32, 0 ≤ i → i < l1 → gd_ i (v_letters i.toNatClampNeg)) → (v_size - l1) < m_2 → 0 < m_2 → Ok (fun r => RB 0 32 r ∧ (FW v_size v_letters r)) (K_2 l1)) (hI : 0 ≤ l1 ∧ (0 ≤ l1 ∧ l1 ≤ v_size) ∧ (∀ i : Int32, 0 ≤ i → i < l1 → gd_ i (v_letters i.toNatClampNeg))) (hm_2 : (v_size - l1) = m_2) : Ok (fun r => RB 0 32 r ∧ (FW v_size v_letters r)) (fX3_firstWrong_2 N v_size v_letters K_2 l1) := by
  obtain ⟨h_l1, e_0, e_1⟩ := hI
  unfold fX3_firstWrong_2
  refine ok_if (fun c_1 => ?_) (fun c_1 => ?_)
  · exact ok_s ⟨h_v_size, (by clear hK_2; first | exact fw_end e_0 e_1 (by clear e_1; grind) | exact fw_mid e_0 e_1 (by clear e_1; grind))⟩
  · refine ok_g (ng32 (by clear hm_2 hK_2; grind)) ?_
    refine ok_b (tX3_fits hN (by clear hm_2 hK_2; grind) (by clear hm_2 hK_2; have := h_v_letters ((l1).toNatClampNeg); grind)) (fun x_17 hx => ?_)
    have h_x_17_0 := hx
    refine ok_if (fun c_2 => ?_) (fun c_2 => ?_)
    · exact ok_s ⟨(by clear hm_2 hK_2; grind), (by clear hK_2; first | exact fw_end e_0 e_1 (by clear e_1; grind) | exact fw_mid e_0 e_1 (by clear e_1; grind))⟩
    · exact hK_2 _ ⟨(by clear hm_2 hK_2; grind), (by clear hm_2 hK_2; grind), (fw_step e_1 (by clear hK_2 e_1; grind) (by clear hK_2 e_1; grind))⟩ (by clear hK_2; grind) (by clear hK_2; grind)
theorem lX3_firstWrong_2 {N : Nat} {v_size : Int32} {v_letters : (Nat → Int32)}  (hN : 49999 < N) (h_v_size : RB 0 32 v_size) (h_v_letters : RA 0 126 v_letters)  : ∀ (l1 : Int32), 0 ≤ l1 ∧ (0 ≤ l1 ∧ l1 ≤ v_size) ∧ (∀ i : Int32, 0 ≤ i → i < l1 → gd_ i (v_letters i.toNatClampNeg)) → (v_size - l1) ≤ 49999 → Ok (fun r => RB 0 32 r ∧ (FW v_size v_letters r)) (lfix (fun (K : Int32 → Option (Int32)) (a : Int32) => fX3_firstWrong_2 N v_size v_letters (fun (l1 : Int32) => K l1) a) N (l1)) := by
  intro l1 hI hM
  exact ok_l (I := fun (a : Int32) => (0 ≤ a ∧ (0 ≤ a ∧ a ≤ v_size) ∧ (∀ i : Int32, 0 ≤ i → i < a → gd_ i (v_letters i.toNatClampNeg)))) (M := fun (a : Int32) => (v_size - a)) (fun K a hI hK => sX3_firstWrong_2  hN h_v_size h_v_letters  (fun l1 hI2  hlt hp => hK (l1) hI2 hlt hp) hI  rfl) N _ hI hN hM
theorem tX3_firstWrong {N : Nat} {v_size : Int32} {v_letters : (Nat → Int32)}  (hN : 49999 < N) (h_v_size : RB 0 32 v_size) (h_v_letters : RA 0 126 v_letters)  : Ok (fun r => RB 0 32 r ∧ (FW v_size v_letters r)) (fX3_firstWrong N v_size v_letters) := by
  unfold fX3_firstWrong
  exact lX3_firstWrong_2  hN h_v_size h_v_letters  _ ⟨(by grind), (by grind), (fun i h0 h1 => absurd h0 (by grind))⟩  (by grind)
theorem tX3_isSquare {N : Nat} {v_size : Int32} {v_letters : (Nat → Int32)}  (hN : 49999 < N) (h_v_size : RB 0 32 v_size) (h_v_letters : RA 0 126 v_letters)  : Ok (fun r => (r = 0 ∧ ¬(SQ v_size v_letters) ∨ r = 1 ∧ SQ v_size v_letters) ∧ (r = 0 ∨ 18 ≤ v_size)) (fX3_isSquare N v_size v_letters) := by
  unfold fX3_isSquare
  refine ok_if (fun c_1 => ?_) (fun c_1 => ?_)
  · exact ok_s ⟨(by first | exact Or.inl ⟨rfl, sq_no1 h_v_size c_1⟩ | exact Or.inl ⟨rfl, sq_no2 c_2⟩ | exact Or.inl ⟨rfl, sq_no3 h_x_21_1 c_3⟩ | exact Or.inr ⟨rfl, sq_yes h_v_size c_1 c_2 h_x_21_1 c_3⟩), (by grind)⟩
  · refine ok_if (fun c_2 => ?_) (fun c_2 => ?_)
    · refine ok_b (tX3_firstWrong hN h_v_size h_v_letters) (fun x_21 hx => ?_)
      obtain ⟨h_x_21_0, h_x_21_1⟩ := hx
      refine ok_if (fun c_3 => ?_) (fun c_3 => ?_)
      · exact ok_s ⟨(by first | exact Or.inl ⟨rfl, sq_no1 h_v_size c_1⟩ | exact Or.inl ⟨rfl, sq_no2 c_2⟩ | exact Or.inl ⟨rfl, sq_no3 h_x_21_1 c_3⟩ | exact Or.inr ⟨rfl, sq_yes h_v_size c_1 c_2 h_x_21_1 c_3⟩), (by grind)⟩
      · exact ok_s ⟨(by first | exact Or.inl ⟨rfl, sq_no1 h_v_size c_1⟩ | exact Or.inl ⟨rfl, sq_no2 c_2⟩ | exact Or.inl ⟨rfl, sq_no3 h_x_21_1 c_3⟩ | exact Or.inr ⟨rfl, sq_yes h_v_size c_1 c_2 h_x_21_1 c_3⟩), (by grind)⟩
    · exact ok_s ⟨(by first | exact Or.inl ⟨rfl, sq_no1 h_v_size c_1⟩ | exact Or.inl ⟨rfl, sq_no2 c_2⟩ | exact Or.inl ⟨rfl, sq_no3 h_x_21_1 c_3⟩ | exact Or.inr ⟨rfl, sq_yes h_v_size c_1 c_2 h_x_21_1 c_3⟩), (by grind)⟩
theorem tX3_kindWritten {N : Nat} {v_letters : (Nat → Int32)} {a1 : Int32}  (hN : 49999 < N) (h_v_letters : RA 0 126 v_letters) (h_a1 : RB 0 5 a1)  : Ok (fun r => (r = kc (v_letters (13 + 3 * a1.toNatClampNeg)))) (fX3_kindWritten N v_letters a1) := by
  unfold fX3_kindWritten
  refine ok_g (ng32 (by have := ix3 h_a1; grind)) ?_
  refine ok_b (tX3_kindBy hN (by have := ix3 h_a1; have := h_v_letters (((((12 : Int32) + ((3 : Int32) * a1)) + (1 : Int32))).toNatClampNeg); grind)) (fun x_13 hx => ?_)
  have h_x_13_0 := hx
  exact ok_s (by have := ix3 h_a1; grind)
