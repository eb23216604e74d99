/-! PURE: what a call does to both towns -/
theorem N6_fl {n : Int32} {g a b : Nat → Int32} (h : N6 a = N6 b) : N6 (fl n g a) = N6 (fl n g b) := N6_ext fun k hk => by
  unfold fl
  by_cases c : (k : Int) < n.toInt
  · rw [if_pos c, if_pos c]
  · rw [if_neg c, if_neg c]; exact N6_eq h hk
theorem wu_eq {w W : Nat → Int32} {p : Int32} (h : ∀ k, k < 12 → w k = W k) (hp : -1 ≤ p ∧ p ≤ 11) : wu w p = wu W p := by
  unfold wu
  by_cases c : p = -1
  · rw [if_pos c, if_pos c]
  · rw [if_neg c, if_neg c]
    exact h _ (tn12 (by grind))
theorem N6_hdp {n : Int32} {w W pl PL had HAD : Nat → Int32} (hw : ∀ k, k < 12 → w k = W k) (hp : RA (-1) 11 pl) (h5 : N6 pl = N6 PL) (h7 : N6 had = N6 HAD) : N6 (hdp n w pl had) = N6 (hdp n W PL HAD) := N6_ext fun k hk => by
  unfold hdp
  rw [← N6_eq h5 hk, ← N6_eq h7 hk, wu_eq hw (hp k)]
def TC (f d F D : Int32) (row pl ROW PL : Nat → Int32) : Prop := f = F ∧ (d = D ∧ 0 ≤ D ∧ D ≤ 2) ∧ N6 row = N6 ROW ∧ N6 pl = N6 PL
theorem lw_night {th hs HS nts NTS f d r f' d' F' D' R F D : Int32} {kd row pl so row' pl' so' had had' w KD ROW PL ROW' PL' HAD HAD' W : Nat → Int32} (g1 : th = hs) (g2 : hs = HS) (g3 : nts = NTS) (hn : RB 0 6 hs) (hf : RB 0 11 f) (hr : RA 0 5 row) (hp : RA (-1) 11 pl') (T1 : hs = 0 ∨ TWN th kd d row pl so) (T2 : TC f d F D row pl ROW PL) (T6 : N6 kd = N6 KD) (T7 : N6 had = N6 HAD) (T8 : ∀ k : Nat, k < 12 → w k = W k)
    (a1 : hs ≠ 0 → nts < 999 → TWN th kd d row pl so → r = tnM kd d row ∧ (f', d', row', pl') = tnS th kd (f, d, row, pl) ∧ TWN th kd d' row' pl' so') (a2 : hs ≠ 0 → nts < 999 → had' = hdp th w pl' had) (a3 : (hs = 0 ∨ ¬ nts < 999) → f' = f ∧ d' = d ∧ row' = row ∧ pl' = pl ∧ so' = so ∧ had' = had)
    (b1 : HS ≠ 0 → NTS < 999 → 0 ≤ D ∧ D ≤ 2 → R = tnM (N6 KD) D (N6 ROW) ∧ (F', D', N6 ROW', N6 PL') = tnS HS (N6 KD) (F, D, N6 ROW, N6 PL) ∧ (0 ≤ D' ∧ D' ≤ 2)) (b2 : HS ≠ 0 → NTS < 999 → HAD' = hdp HS W PL' HAD) (b3 : (HS = 0 ∨ ¬ NTS < 999) → F' = F ∧ D' = D ∧ ROW' = ROW ∧ PL' = PL ∧ HAD' = HAD) :
    (hs = 0 ∨ TWN th kd d' row' pl' so') ∧ TC f' d' F' D' row' pl' ROW' PL' ∧ N6 had' = N6 HAD' ∧ (hs ≠ 0 → nts < 999 → r = R) ∧ (hs = 0 → f' = f ∧ row' = row) := by
  subst g1
  subst g2
  subst g3
  obtain ⟨t1, ⟨t2, t3⟩, t4, t5⟩ := T2
  by_cases c : th = 0 ∨ ¬ nts < 999
  · obtain ⟨x1, x2, x3, x4, x5, x6⟩ := a3 c
    obtain ⟨y1, y2, y3, y4, y5⟩ := b3 c
    rw [x1, x2, x3, x4, x5, x6, y1, y2, y3, y4, y5]
    refine ⟨T1, ⟨t1, ⟨t2, t3⟩, t4, t5⟩, T7, fun p q => ?_, fun _ => ⟨rfl, rfl⟩⟩
    rcases c with c | c
    · exact absurd c p
    · exact absurd q c
  · have c1 : th ≠ 0 := fun q => c (Or.inl q)
    have c2 : nts < 999 := Classical.byContradiction fun q => c (Or.inr q)
    have T := T1.resolve_left c1
    obtain ⟨x1, x2, x3⟩ := a1 c1 c2 T
    obtain ⟨y1, y2, y3⟩ := b1 c1 c2 t3
    have e := tnS_N6 (d := d) (kd := kd) (pl := pl) hn.2 hf hr
    rw [← x2, T6, t4, t5, t1, t2, ← y2] at e
    injection e with e1 e
    injection e with e2 e
    injection e with e3 e4
    have hh : N6 had' = N6 HAD' := by
      rw [a2 c1 c2, b2 c1 c2]
      exact N6_hdp T8 hp e4.symm T7
    refine ⟨Or.inr x3, ⟨e1.symm, ⟨e2.symm, y3⟩, e3.symm, e4.symm⟩, hh, fun _ _ => ?_, fun q => absurd q c1⟩
    rw [x1, y1, ← tnM_N6 (hr 0), T6, t4, t2]
theorem lw_snow {th hs HS nts NTS : Int32} {pl had had' w PL HAD HAD' W : Nat → Int32} (g1 : th = hs) (g2 : hs = HS) (g3 : nts = NTS) (hp : RA (-1) 11 pl) (T5 : N6 pl = N6 PL) (T7 : N6 had = N6 HAD) (T8 : ∀ k : Nat, k < 12 → w k = W k) (a2 : hs ≠ 0 → nts < 999 → had' = hdp th w pl had) (a3 : (hs = 0 ∨ ¬ nts < 999) → had' = had) (b2 : HS ≠ 0 → NTS < 999 → HAD' = hdp HS W PL HAD) (b3 : (HS = 0 ∨ ¬ NTS < 999) → HAD' = HAD) : N6 had' = N6 HAD' := by
  subst g1
  subst g2
  subst g3
  by_cases c : th = 0 ∨ ¬ nts < 999
  · rw [a3 c, b3 c]; exact T7
  · have c1 : th ≠ 0 := fun q => c (Or.inl q)
    have c2 : nts < 999 := Classical.byContradiction fun q => c (Or.inr q)
    rw [a2 c1 c2, b2 c1 c2]
    exact N6_hdp T8 hp T5 T7
theorem lw_build {hs HS a k r R d : Int32} {kd kd' pl row so KD KD' PL : Nat → Int32} (g2 : hs = HS) (hn : RB 0 6 hs) (T1 : hs = 0 ∨ TWN hs kd d row pl so) (T5 : N6 pl = N6 PL) (T6 : N6 kd = N6 KD)
    (x : ¬ (0 ≤ a ∧ a < hs) ∧ r = -101 ∧ kd' = kd ∨ (0 ≤ a ∧ a < hs) ∧ ¬ (0 ≤ k ∧ k < 5) ∧ r = -102 ∧ kd' = kd ∨ (0 ≤ a ∧ a < hs) ∧ (0 ≤ k ∧ k < 5) ∧ pl a.toNatClampNeg = -1 ∧ r = -103 ∧ kd' = kd ∨ (0 ≤ a ∧ a < hs) ∧ (0 ≤ k ∧ k < 5) ∧ ¬ pl a.toNatClampNeg = -1 ∧ r = kd a.toNatClampNeg ∧ kd' = upd kd a.toNatClampNeg k)
    (y : ¬ (0 ≤ a ∧ a < HS) ∧ R = -101 ∧ KD' = KD ∨ (0 ≤ a ∧ a < HS) ∧ ¬ (0 ≤ k ∧ k < 5) ∧ R = -102 ∧ KD' = KD ∨ (0 ≤ a ∧ a < HS) ∧ (0 ≤ k ∧ k < 5) ∧ PL a.toNatClampNeg = -1 ∧ R = -103 ∧ KD' = KD ∨ (0 ≤ a ∧ a < HS) ∧ (0 ≤ k ∧ k < 5) ∧ ¬ PL a.toNatClampNeg = -1 ∧ R = KD a.toNatClampNeg ∧ KD' = upd KD a.toNatClampNeg k) :
    (hs = 0 ∨ TWN hs kd' d row pl so) ∧ N6 kd' = N6 KD' ∧ r = R := by
  subst g2
  by_cases c1 : 0 ≤ a ∧ a < hs
  · have e5 : pl a.toNatClampNeg = PL a.toNatClampNeg := N6_eq T5 (tn_lt6 c1 hn.2)
    have e6 : kd a.toNatClampNeg = KD a.toNatClampNeg := N6_eq T6 (tn_lt6 c1 hn.2)
    have hn1 : RB 1 6 hs := by clear x y; grind
    have T := T1.resolve_left (by clear x y; grind)
    by_cases c2 : 0 ≤ k ∧ k < 5
    · by_cases c3 : pl a.toNatClampNeg = -1
      · have x2 : r = -103 ∧ kd' = kd := by clear y T T1; grind
        have y2 : R = -103 ∧ KD' = KD := by clear x T T1; grind
        rw [x2.1, x2.2, y2.1, y2.2]
        exact ⟨T1, T6, rfl⟩
      · have x2 : r = kd a.toNatClampNeg ∧ kd' = upd kd a.toNatClampNeg k := by clear y T T1; grind
        have y2 : R = KD a.toNatClampNeg ∧ KD' = upd KD a.toNatClampNeg k := by clear x T T1; grind
        rw [x2.1, x2.2, y2.1, y2.2]
        refine ⟨Or.inr (twn_kd hn1 T c1 c3), ?_, e6⟩
        rw [N6_upd (tn_lt6 c1 hn.2), N6_upd (tn_lt6 c1 hn.2), T6]
    · have x2 : r = -102 ∧ kd' = kd := by clear y T T1; grind
      have y2 : R = -102 ∧ KD' = KD := by clear x T T1; grind
      rw [x2.1, x2.2, y2.1, y2.2]
      exact ⟨T1, T6, rfl⟩
  · have x2 : r = -101 ∧ kd' = kd := by clear y T1; grind
    have y2 : R = -101 ∧ KD' = KD := by clear x T1; grind
    rw [x2.1, x2.2, y2.1, y2.2]
    exact ⟨T1, T6, rfl⟩
theorem lw_swap {hs HS a b r R d : Int32} {kd pl pl' row so so' PL PL' : Nat → Int32} (g2 : hs = HS) (hn : RB 0 6 hs) (hp : RA (-1) 11 pl) (T1 : hs = 0 ∨ TWN hs kd d row pl so) (T5 : N6 pl = N6 PL)
    (x : ¬ (0 ≤ a ∧ a < hs ∧ 0 ≤ b ∧ b < hs ∧ a ≠ b) ∧ r = -101 ∧ pl' = pl ∧ so' = so ∨ (0 ≤ a ∧ a < hs ∧ 0 ≤ b ∧ b < hs ∧ a ≠ b) ∧ (pl a.toNatClampNeg = -1 ∨ pl b.toNatClampNeg = -1) ∧ r = -103 ∧ pl' = pl ∧ so' = so ∨ (0 ≤ a ∧ a < hs ∧ 0 ≤ b ∧ b < hs ∧ a ≠ b) ∧ ¬ (pl a.toNatClampNeg = -1 ∨ pl b.toNatClampNeg = -1) ∧ r = pl b.toNatClampNeg ∧ pl' = upd (upd pl a.toNatClampNeg (pl b.toNatClampNeg)) b.toNatClampNeg (pl a.toNatClampNeg) ∧ so' = upd (upd so (pl b.toNatClampNeg).toNatClampNeg a) (pl a.toNatClampNeg).toNatClampNeg b)
    (y : ¬ (0 ≤ a ∧ a < HS ∧ 0 ≤ b ∧ b < HS ∧ a ≠ b) ∧ R = -101 ∧ PL' = PL ∨ (0 ≤ a ∧ a < HS ∧ 0 ≤ b ∧ b < HS ∧ a ≠ b) ∧ (PL a.toNatClampNeg = -1 ∨ PL b.toNatClampNeg = -1) ∧ R = -103 ∧ PL' = PL ∨ (0 ≤ a ∧ a < HS ∧ 0 ≤ b ∧ b < HS ∧ a ≠ b) ∧ ¬ (PL a.toNatClampNeg = -1 ∨ PL b.toNatClampNeg = -1) ∧ R = PL b.toNatClampNeg ∧ PL' = upd (upd PL a.toNatClampNeg (PL b.toNatClampNeg)) b.toNatClampNeg (PL a.toNatClampNeg)) :
    (hs = 0 ∨ TWN hs kd d row pl' so') ∧ N6 pl' = N6 PL' ∧ r = R := by
  subst g2
  by_cases c1 : 0 ≤ a ∧ a < hs ∧ 0 ≤ b ∧ b < hs ∧ a ≠ b
  · obtain ⟨a0, a1, b0, b1, ne⟩ := id c1
    have ka := tn_lt6 ⟨a0, a1⟩ hn.2
    have kb := tn_lt6 ⟨b0, b1⟩ hn.2
    have ea : pl a.toNatClampNeg = PL a.toNatClampNeg := N6_eq T5 ka
    have eb : pl b.toNatClampNeg = PL b.toNatClampNeg := N6_eq T5 kb
    have hn1 : RB 1 6 hs := by clear x y; grind
    have T := T1.resolve_left (by clear x y; grind)
    by_cases c3 : pl a.toNatClampNeg = -1 ∨ pl b.toNatClampNeg = -1
    · have x2 : r = -103 ∧ pl' = pl ∧ so' = so := by clear y T T1; grind
      have y2 : R = -103 ∧ PL' = PL := by rw [ea, eb] at c3; clear x T T1; grind
      rw [x2.1, x2.2.1, x2.2.2, y2.1, y2.2]
      exact ⟨T1, T5, rfl⟩
    · have x2 : r = pl b.toNatClampNeg ∧ pl' = upd (upd pl a.toNatClampNeg (pl b.toNatClampNeg)) b.toNatClampNeg (pl a.toNatClampNeg) ∧ so' = upd (upd so (pl b.toNatClampNeg).toNatClampNeg a) (pl a.toNatClampNeg).toNatClampNeg b := by clear y T T1; grind
      have y2 : R = PL b.toNatClampNeg ∧ PL' = upd (upd PL a.toNatClampNeg (PL b.toNatClampNeg)) b.toNatClampNeg (PL a.toNatClampNeg) := by rw [ea, eb] at c3; clear x T T1; grind
      rw [x2.1, x2.2.1, x2.2.2, y2.1, y2.2]
      refine ⟨Or.inr (twn_swap hn1 hp T ⟨a0, a1⟩ ⟨b0, b1⟩ ne (fun q => c3 (Or.inl q)) (fun q => c3 (Or.inr q))), ?_, eb⟩
      rw [N6_upd kb, N6_upd ka, N6_upd kb, N6_upd ka, T5, ea, eb]
  · have x2 : r = -101 ∧ pl' = pl ∧ so' = so := by clear y T1; grind
    have y2 : R = -101 ∧ PL' = PL := by clear x T1; grind
    rw [x2.1, x2.2.1, x2.2.2, y2.1, y2.2]
    exact ⟨T1, T5, rfl⟩
/-- a new square -/
theorem lw_square {s S th' hs' HS' f d f' d' F D F' D' : Int32} {lt LET kd row pl so had w lk kd' row' pl' so' had' w' lk' KD ROW PL HAD W LK KD' ROW' PL' HAD' W' LK' : Nat → Int32} {th hs : Int32} (g1 : th = hs) (k3 : s = S) (k4 : lt = LET) (hg : SQ s lt → th' = hs' ∧ hs' = HS' ∧ RB 1 6 hs') (hgn : ¬ SQ s lt → th' = th ∧ hs' = hs) (T1 : hs = 0 ∨ TWN th kd d row pl so) (T2 : TC f d F D row pl ROW PL) (T6 : N6 kd = N6 KD) (T7 : N6 had = N6 HAD) (T8 : ∀ k : Nat, k < 12 → w k = W k) (T9 : N6 lk = N6 LK)
    (a1 : SQ s lt → f' = th' - 1 ∧ d' = 0) (a2 : SQ s lt → had' = fl th' (fun _ => 0) had) (a3 : SQ s lt → kd' = fl th' (fun k => kc (lt (13 + 3 * k))) kd) (a4 : SQ s lt → row' = fl th' (fun k => nI k) row) (a5 : SQ s lt → pl' = fl th' (fun k => nI k) pl) (a6 : SQ s lt → so' = fl th' (fun k => nI k) (fl 12 (fun _ => -1) so)) (a7 : SQ s lt → w' = fl 12 (fun k => lt k - 48) w) (a8 : SQ s lt → lk' = fl hs' (fun k => lt (14 + 3 * k) - 97) lk) (an : ¬ SQ s lt → f' = f ∧ d' = d ∧ had' = had ∧ kd' = kd ∧ row' = row ∧ pl' = pl ∧ so' = so ∧ w' = w ∧ lk' = lk)
    (b1 : SQ S LET → F' = HS' - 1 ∧ D' = 0) (b7 : SQ S LET → W' = fl 12 (fun k => LET k - 48) W) (b3 : SQ S LET → KD' = fl HS' (fun k => kc (LET (13 + 3 * k))) KD) (b8 : SQ S LET → LK' = fl HS' (fun k => LET (14 + 3 * k) - 97) LK) (b2 : SQ S LET → HAD' = fl HS' (fun _ => 0) HAD) (b5 : SQ S LET → PL' = fl HS' (fun k => nI k) PL) (b4 : SQ S LET → ROW' = fl HS' (fun k => nI k) ROW) (bnn : ¬ SQ S LET → F' = F ∧ D' = D ∧ W' = W ∧ KD' = KD ∧ LK' = LK ∧ HAD' = HAD ∧ PL' = PL ∧ ROW' = ROW) :
    (hs' = 0 ∨ TWN th' kd' d' row' pl' so') ∧ TC f' d' F' D' row' pl' ROW' PL' ∧ N6 kd' = N6 KD' ∧ N6 had' = N6 HAD' ∧ (∀ k : Nat, k < 12 → w' k = W' k) ∧ N6 lk' = N6 LK' ∧ (hs' = 0 → hs = 0 ∧ f' = f ∧ row' = row) := by
  subst k3
  subst k4
  subst g1
  obtain ⟨t1, t2, t4, t5⟩ := T2
  by_cases c : SQ s lt
  · obtain ⟨q1, q2, q3⟩ := hg c
    subst q1
    subst q2
    have x1 := a1 c
    have y1 := b1 c
    refine ⟨Or.inr ?_, ⟨by rw [x1.1, y1.1], ⟨by rw [x1.2, y1.2], by rw [y1.2]; decide, by rw [y1.2]; decide⟩, ?_, ?_⟩, ?_, ?_, ?_, ?_, fun q => ?_⟩
    · rw [x1.2, a4 c, a5 c, a6 c]; exact twn_new q3
    · rw [a4 c, b4 c]; exact N6_fl t4
    · rw [a5 c, b5 c]; exact N6_fl t5
    · rw [a3 c, b3 c]; exact N6_fl T6
    · rw [a2 c, b2 c]; exact N6_fl T7
    · intro k hk
      rw [a7 c, b7 c]
      have z : (12 : Int32).toInt = 12 := rfl
      unfold fl
      rw [if_pos (by omega), if_pos (by omega)]
    · rw [a8 c, b8 c]; exact N6_fl T9
    · rw [q] at q3; exact absurd q3.1 (by decide)
  · obtain ⟨x1, x2, x3, x4, x5, x6, x7, x8, x9⟩ := an c
    obtain ⟨y1, y2, y3, y4, y5, y6, y7, y8⟩ := bnn c
    obtain ⟨z1, z2⟩ := hgn c
    rw [x1, x2, x3, x4, x5, x6, x7, x8, x9, y1, y2, y3, y4, y5, y6, y7, y8, z1, z2]
    exact ⟨T1, ⟨t1, t2, t4, t5⟩, T6, T7, T8, T9, fun q => ⟨q, rfl, rfl⟩⟩
theorem or_k {i i' : Int32} {P : Prop} (h : i' = i ∨ i' = 0) (g : i = 0 ∨ P) : i' = 0 ∨ P := by
  rcases h with h | h
  · rw [h]; exact g
  · exact Or.inl h
theorem lw_image {th hs HS ik ik' kth kth' f d F D kf kf' kn kn' KF KF' KN KN' : Int32} {kd row pl so had KD ROW PL HAD kkd kkd' krow krow' kpl kpl' kso kso' khad khad' KKD KKD' KROW KROW' KPL KPL' KHAD KHAD' : Nat → Int32} (g1 : th = hs) (g2 : hs = HS) (hn : RB 0 6 hs) (T1 : hs = 0 ∨ TWN th kd d row pl so) (T2 : TC f d F D row pl ROW PL) (T6 : N6 kd = N6 KD) (T7 : N6 had = N6 HAD) (S1 : ik = 0 ∨ TWN kth kkd kn krow kpl kso) (S2 : ik = 0 ∨ TC kf kn KF KN krow kpl KROW KPL ∧ N6 kkd = N6 KKD ∧ N6 khad = N6 KHAD)
    (p : hs = 0 ∧ ik' = ik ∧ kth' = kth ∨ hs ≠ 0 ∧ ik' = 1 ∧ kth' = th) (i1 : hs ≠ 0 → kf' = f ∧ kn' = d) (i2 : hs ≠ 0 → N6 kkd' = N6 kd ∧ N6 kpl' = N6 pl ∧ N6 krow' = N6 row) (i3 : hs ≠ 0 → ∀ k : Nat, k < 12 → kso' k = so k) (i4 : hs ≠ 0 → N6 khad' = N6 had) (i5 : hs = 0 → kf' = kf ∧ kn' = kn ∧ kkd' = kkd ∧ krow' = krow ∧ kpl' = kpl ∧ kso' = kso ∧ khad' = khad)
    (j1 : HS ≠ 0 → N6 KKD' = N6 KD ∧ N6 KPL' = N6 PL ∧ N6 KROW' = N6 ROW ∧ N6 KHAD' = N6 HAD ∧ KF' = F ∧ KN' = D) (j2 : HS = 0 → KKD' = KKD ∧ KPL' = KPL ∧ KROW' = KROW ∧ KHAD' = KHAD ∧ KF' = KF ∧ KN' = KN) :
    (ik' = 0 ∨ TWN kth' kkd' kn' krow' kpl' kso') ∧ (ik' = 0 ∨ TC kf' kn' KF' KN' krow' kpl' KROW' KPL' ∧ N6 kkd' = N6 KKD' ∧ N6 khad' = N6 KHAD') := by
  subst g1
  subst g2
  by_cases c : th = 0
  · obtain ⟨x1, x2, x3, x4, x5, x6, x7⟩ := i5 c
    obtain ⟨y1, y2, y3, y4, y5, y6⟩ := j2 c
    obtain ⟨q1, q2⟩ : ik' = ik ∧ kth' = kth := by
      rcases p with p | p
      · exact p.2
      · exact absurd c p.1
    rw [x1, x2, x3, x4, x5, x6, x7, y1, y2, y3, y4, y5, y6, q1, q2]
    exact ⟨S1, S2⟩
  · obtain ⟨x1, x2⟩ := i1 c
    obtain ⟨x3, x4, x5⟩ := i2 c
    obtain ⟨y1, y2, y3, y4, y5, y6⟩ := j1 c
    have q2 : kth' = th := by
      rcases p with p | p
      · exact absurd p.1 c
      · exact p.2.2
    have hn1 : RB 1 6 th := by clear p T1 S1 S2 i3; grind
    obtain ⟨t1, t3, t4, t5⟩ := T2
    refine ⟨Or.inr ?_, Or.inr ⟨⟨by rw [x1, y5]; exact t1, by rw [x2, y6]; exact t3, by rw [x5, y3]; exact t4, by rw [x4, y2]; exact t5⟩, by rw [x3, y1]; exact T6, by rw [i4 c, y4]; exact T7⟩⟩
    rw [q2, x2]
    exact twn_cong hn1 x3 x5 x4 (i3 c) (T1.resolve_left c)
theorem lw_restore {th th' hs ik ks sq kth f f' d d' F F' D D' kf kn KF KN : Int32} {kd row pl so had kd' row' pl' so' had' KD ROW PL HAD KD' ROW' PL' HAD' kkd krow kpl kso khad KKD KROW KPL KHAD : Nat → Int32} (hn : RB 0 6 hs) (k9 : ik ≠ 0 ↔ ks = sq) (k1 : th = hs) (k2 : ik = 0 ∨ kth = hs) (S3 : ik = 0 ∨ hs ≠ 0) (T1 : hs = 0 ∨ TWN th kd d row pl so) (T2 : TC f d F D row pl ROW PL) (T6 : N6 kd = N6 KD) (T7 : N6 had = N6 HAD) (S1 : ik = 0 ∨ TWN kth kkd kn krow kpl kso) (S2 : ik = 0 ∨ TC kf kn KF KN krow kpl KROW KPL ∧ N6 kkd = N6 KKD ∧ N6 khad = N6 KHAD)
    (p : ik = 0 ∧ th' = th ∨ ik ≠ 0 ∧ th' = kth) (i1 : ik ≠ 0 → f' = kf ∧ d' = kn) (i2 : ik ≠ 0 → N6 kd' = N6 kkd ∧ N6 pl' = N6 kpl ∧ N6 row' = N6 krow) (i3 : ik ≠ 0 → ∀ k : Nat, k < 12 → so' k = kso k) (i4 : ik ≠ 0 → N6 had' = N6 khad) (i5 : ik = 0 → f' = f ∧ d' = d ∧ kd' = kd ∧ row' = row ∧ pl' = pl ∧ so' = so ∧ had' = had)
    (j1 : ks = sq → N6 KD' = N6 KKD ∧ N6 PL' = N6 KPL ∧ N6 ROW' = N6 KROW ∧ N6 HAD' = N6 KHAD ∧ F' = KF ∧ D' = KN) (j2 : ks ≠ sq → KD' = KD ∧ PL' = PL ∧ ROW' = ROW ∧ HAD' = HAD ∧ F' = F ∧ D' = D) :
    (hs = 0 ∨ TWN th' kd' d' row' pl' so') ∧ TC f' d' F' D' row' pl' ROW' PL' ∧ N6 kd' = N6 KD' ∧ N6 had' = N6 HAD' ∧ (hs = 0 → f' = f ∧ row' = row) := by
  by_cases c : ik = 0
  · have c2 : ks ≠ sq := fun q => (k9.mpr q) c
    obtain ⟨x1, x2, x3, x4, x5, x6, x7⟩ := i5 c
    obtain ⟨y1, y2, y3, y4, y5, y6⟩ := j2 c2
    have q2 : th' = th := by
      rcases p with p | p
      · exact p.2
      · exact absurd c p.1
    rw [x1, x2, x3, x4, x5, x6, x7, y1, y2, y3, y4, y5, y6, q2]
    exact ⟨T1, T2, T6, T7, fun _ => ⟨rfl, rfl⟩⟩
  · have c2 := k9.mp c
    obtain ⟨x1, x2⟩ := i1 c
    obtain ⟨x3, x4, x5⟩ := i2 c
    obtain ⟨y1, y2, y3, y4, y5, y6⟩ := j1 c2
    have q2 : th' = kth := by
      rcases p with p | p
      · exact absurd p.1 c
      · exact p.2
    have e := k2.resolve_left c
    have h0 := S3.resolve_left c
    subst e
    have hn1 : RB 1 6 kth := by clear p T1 S1 S2 i3 k9; grind
    obtain ⟨⟨t1, t3, t4, t5⟩, t6, t7⟩ := S2.resolve_left c
    refine ⟨Or.inr ?_, ⟨by rw [x1, y5]; exact t1, by rw [x2, y6]; exact t3, by rw [x5, y3]; exact t4, by rw [x4, y2]; exact t5⟩, by rw [x3, y1]; exact t6, by rw [i4 c, y4]; exact t7, fun q => absurd q h0⟩
    rw [q2, x2]
    exact twn_cong hn1 x3 x5 x4 (i3 c) (S1.resolve_left c)
theorem as_eq {hs HS a k : Int32} {kd KD : Nat → Int32} (g2 : hs = HS) (hn : RB 0 6 hs) (T6 : N6 kd = N6 KD) : asF a k hs (kd a.toNatClampNeg) = asF a k HS (KD a.toNatClampNeg) := by
  subst g2
  by_cases c : 0 ≤ a ∧ a < hs
  · rw [N6_eq T6 (tn_lt6 c hn.2)]
  · unfold asF
    rw [if_pos c, if_pos c]
def cntF (w x0 x1 x2 x3 x4 x5 x6 x7 x8 x9 x10 x11 x12 : Int32) : Int32 := if w = 0 then x0 else if w = 1 then x1 else if w = 2 then x2 else if w = 3 then x3 else if w = 4 then x4 else if w = 5 then x5 else if w = 6 then x6 else if w = 7 then x7 else if w = 8 then x8 else if w = 9 then x9 else if w = 10 then x10 else if w = 11 then x11 else if w = 12 then x12 else -102
theorem tn6 {n : Int32} (h : RB 0 6 n) : n.toNatClampNeg ≤ 6 := by
  have t := tnc h.1
  have h2 := h.2
  have z6 : (6 : Int32).toInt = 6 := rfl
  rw [fa_le, z6] at h2
  omega
theorem st_eq {n : Int32} {pl PL : Nat → Int32} (hn : RB 0 6 n) (T5 : N6 pl = N6 PL) : sm (fun k => if pl k = -1 then 0 else 1) n.toNatClampNeg = sm (fun k => if PL k = -1 then 0 else 1) n.toNatClampNeg := sm_congr fun k hk => by
  have := tn6 hn
  show (if pl k = -1 then (0 : Int32) else 1) = _
  rw [N6_eq T5 (by omega)]
theorem wn_eq {n : Int32} {pl PL w W : Nat → Int32} (hn : RB 0 6 n) (hp : RA (-1) 11 pl) (T8 : ∀ k : Nat, k < 12 → w k = W k) (T5 : N6 pl = N6 PL) : sm (fun k => wu w (pl k)) n.toNatClampNeg = sm (fun k => wu W (PL k)) n.toNatClampNeg := sm_congr fun k hk => by
  have := tn6 hn
  show wu w (pl k) = wu W (PL k)
  rw [wu_eq T8 (hp k), N6_eq T5 (by omega)]
theorem hd_eq {n : Int32} {had HAD : Nat → Int32} (hn : RB 0 6 n) (T7 : N6 had = N6 HAD) : sm had n.toNatClampNeg = sm HAD n.toNatClampNeg := sm_congr fun k hk => by
  have := tn6 hn
  exact N6_eq T7 (by omega)
theorem lk_eq {n p : Int32} {lk LK : Nat → Int32} (hn : RB 0 6 n) (T9 : N6 lk = N6 LK) : sm (fun k => if lk k = p then 1 else 0) n.toNatClampNeg = sm (fun k => if LK k = p then 1 else 0) n.toNatClampNeg := sm_congr fun k hk => by
  have := tn6 hn
  show (if lk k = p then (1 : Int32) else 0) = _
  rw [N6_eq T9 (by omega)]
theorem so_eq {n p r : Int32} {pl so PL : Nat → Int32} (S : SOC n pl so) (hn : RB 0 6 n) (hp : RB 0 11 p) (T5 : N6 pl = N6 PL) (h : r = -1 ∧ FR n PL p ∨ (0 ≤ r ∧ r < n) ∧ PL r.toNatClampNeg = p) : so p.toNatClampNeg = r := by
  rcases h with ⟨h1, h2⟩ | ⟨h1, h2⟩
  · rw [h1]
    refine (S.fr p hp).mpr (fun x x0 x1 => ?_)
    rw [N6_eq T5 (tn_lt6 ⟨x0, x1⟩ hn.2)]
    exact h2 x x0 x1
  · refine (S.1 p r hp h1.1 h1.2).mp ?_
    rw [N6_eq T5 (tn_lt6 h1 hn.2)]
    exact h2
theorem plot_eq {th hs HS a b r R d : Int32} {kd row pl so w lk PL W LK : Nat → Int32} (g1 : th = hs) (g2 : hs = HS) (hn : RB 0 6 hs) (T1 : hs = 0 ∨ TWN th kd d row pl so) (T5 : N6 pl = N6 PL) (T8 : ∀ k : Nat, k < 12 → w k = W k) (T9 : N6 lk = N6 LK)
    (x : (hs = 0 ∨ ¬ (0 ≤ a ∧ a < 12)) ∧ r = -101 ∨ (hs ≠ 0 ∧ 0 ≤ a ∧ a < 12) ∧ (b = 0 ∧ r = w a.toNatClampNeg ∨ b = 1 ∧ r = so a.toNatClampNeg ∨ b = 2 ∧ r = sm (fun k => if lk k = a then 1 else 0) hs.toNatClampNeg ∨ (b ≠ 0 ∧ b ≠ 1 ∧ b ≠ 2) ∧ r = -102))
    (y : (HS = 0 ∨ ¬ (0 ≤ a ∧ a < 12)) ∧ R = -101 ∨ (HS ≠ 0 ∧ 0 ≤ a ∧ a < 12) ∧ (b = 0 ∧ R = W a.toNatClampNeg ∨ b = 1 ∧ (R = -1 ∧ FR HS PL a ∨ (0 ≤ R ∧ R < HS) ∧ PL R.toNatClampNeg = a) ∨ b = 2 ∧ R = sm (fun k => if LK k = a then 1 else 0) HS.toNatClampNeg ∨ (b ≠ 0 ∧ b ≠ 1 ∧ b ≠ 2) ∧ R = -102)) : r = R := by
  subst g1
  subst g2
  rcases x with ⟨x1, x2⟩ | ⟨⟨x0, x1, x2⟩, x3⟩
  · rcases y with ⟨y1, y2⟩ | ⟨⟨y0, y1, y2⟩, y3⟩
    · rw [x2, y2]
    · rcases x1 with x1 | x1
      · exact absurd x1 y0
      · exact absurd ⟨y1, y2⟩ x1
  · rcases y with ⟨y1, y2⟩ | ⟨_, y3⟩
    · rcases y1 with y1 | y1
      · exact absurd y1 x0
      · exact absurd ⟨x1, x2⟩ y1
    · have ha : RB 0 11 a := by clear x3 y3 T1; grind
      have T := T1.resolve_left x0
      rcases x3 with ⟨b1, e1⟩ | ⟨b1, e1⟩ | ⟨b1, e1⟩ | ⟨b1, e1⟩
      · rcases y3 with ⟨c1, f1⟩ | ⟨c1, f1⟩ | ⟨c1, f1⟩ | ⟨c1, f1⟩
        · rw [e1, f1, T8 _ (tn12 ha)]
        · rw [b1] at c1; exact absurd c1 (by decide)
        · rw [b1] at c1; exact absurd c1 (by decide)
        · exact absurd b1 c1.1
      · rcases y3 with ⟨c1, f1⟩ | ⟨c1, f1⟩ | ⟨c1, f1⟩ | ⟨c1, f1⟩
        · rw [b1] at c1; exact absurd c1 (by decide)
        · rw [e1]; exact so_eq T.1 hn ha T5 f1
        · rw [b1] at c1; exact absurd c1 (by decide)
        · exact absurd b1 c1.2.1
      · rcases y3 with ⟨c1, f1⟩ | ⟨c1, f1⟩ | ⟨c1, f1⟩ | ⟨c1, f1⟩
        · rw [b1] at c1; exact absurd c1 (by decide)
        · rw [b1] at c1; exact absurd c1 (by decide)
        · rw [e1, f1]; exact lk_eq hn T9
        · exact absurd b1 c1.2.2
      · rcases y3 with ⟨c1, f1⟩ | ⟨c1, f1⟩ | ⟨c1, f1⟩ | ⟨c1, f1⟩
        · exact absurd c1 b1.1
        · exact absurd c1 b1.2.1
        · exact absurd c1 b1.2.2
        · rw [e1, f1]
theorem count_eq {th hs HS a f F d D nt NT ws WS se SE pg PG sq SQR od OD r R : Int32} {row ROW pl PL had HAD w W : Nat → Int32} (g1 : th = hs) (g2 : hs = HS) (hn : RB 0 6 hs) (hp : RA (-1) 11 pl) (T2 : TC f d F D row pl ROW PL) (T7 : N6 had = N6 HAD) (T8 : ∀ k : Nat, k < 12 → w k = W k) (T10 : hs = 0 → f = 0 ∧ row 0 = 0) (k8 : nt = NT) (k6 : ws = WS) (k7 : se = SE) (k3 : pg = PG) (k11 : sq = SQR) (o1 : od = OD ∧ 0 ≤ OD ∧ OD ≤ 8)
    (x : r = cntF a hs (sm (fun k => if pl k = -1 then 0 else 1) th.toNatClampNeg) f (row 0) d nt (sm (fun k => wu w (pl k)) hs.toNatClampNeg) (sm (had) th.toNatClampNeg) ws se pg sq od) (y : R = cntF a HS (sm (fun k => if PL k = -1 then 0 else 1) HS.toNatClampNeg) (if HS = 0 then 0 else F) (if HS = 0 then 0 else ROW 0) D NT (sm (fun k => wu W (PL k)) HS.toNatClampNeg) (sm (HAD) HS.toNatClampNeg) WS SE PG SQR OD) : r = R := by
  obtain ⟨t1, t3, t4, t5⟩ := T2
  have r0 : row 0 = ROW 0 := N6_eq t4 (by decide)
  have e2 : (if HS = 0 then 0 else F) = f := by
    by_cases c : HS = 0
    · rw [if_pos c]; exact (T10 (g2.trans c)).1.symm
    · rw [if_neg c, t1]
  have e3 : (if HS = 0 then 0 else ROW 0) = row 0 := by
    by_cases c : HS = 0
    · rw [if_pos c]; exact (T10 (g2.trans c)).2.symm
    · rw [if_neg c, r0]
  rw [x, y, e2, e3, ← g2, g1, ← k8, ← k6, ← k7, ← k3, ← k11, ← o1.1, ← t3.1, st_eq hn t5, wn_eq hn hp T8 t5, hd_eq hn T7]
