/-! PURE: orders to begin in -/
abbrev St := Int32 × Int32 × (Nat → Int32) × (Nat → Int32)
def Nn (n : Int32) (a : Nat → Int32) : Nat → Int32 := fun k => if (k : Int) < n.toInt then a k else 0
theorem Nn_at {n : Int32} {a : Nat → Int32} {k : Nat} (h : (k : Int) < n.toInt) : Nn n a k = a k := if_pos h
theorem Nn_ext {n : Int32} {a b : Nat → Int32} (h : ∀ k : Nat, (k : Int) < n.toInt → a k = b k) : Nn n a = Nn n b := funext fun k => by
  unfold Nn
  by_cases c : (k : Int) < n.toInt
  · rw [if_pos c, if_pos c]; exact h k c
  · rw [if_neg c, if_neg c]
theorem Nn_N6 {n : Int32} {a b : Nat → Int32} (hn : n ≤ 6) (h : N6 a = N6 b) : Nn n a = Nn n b := Nn_ext fun k hk => by
  have z6 : (6 : Int32).toInt = 6 := rfl
  rw [fa_le, z6] at hn
  exact N6_eq h (by omega)
theorem Nn_upd {n : Int32} {a : Nat → Int32} {i : Nat} {v : Int32} (hi : (i : Int) < n.toInt) : Nn n (upd a i v) = upd (Nn n a) i v := funext fun k => by
  by_cases c : k = i
  · subst c; rw [Nn_at hi, pk_us, pk_us]
  · rw [pk_un c]
    unfold Nn
    rw [pk_un c]
theorem Nn_rot {a : Nat → Int32} {n : Int32} : Nn n (rot n a) = rot n (Nn n a) := funext fun k => by
  unfold Nn rot
  by_cases c1 : (k : Int) + 1 < n.toInt
  · have k6 : (k : Int) < n.toInt := by omega
    have k7 : ((k + 1 : Nat) : Int) < n.toInt := by omega
    simp only [if_pos c1, if_pos k6, if_pos k7]
  · by_cases c2 : (k : Int) + 1 = n.toInt
    · have k6 : (k : Int) < n.toInt := by omega
      have k0 : ((0 : Nat) : Int) < n.toInt := by omega
      simp only [if_neg c1, if_pos c2, if_pos k6, if_pos k0]
    · simp only [if_neg c1, if_neg c2]
theorem tn_n {k n : Int32} (h : 0 ≤ k ∧ k < n) : (k.toNatClampNeg : Int) < n.toInt := by
  have t := tnc h.1
  have h2 := h.2
  rw [fa_lt] at h2
  omega
theorem n_pos {k n : Int32} (h : 0 ≤ k ∧ k < n) : ((0 : Nat) : Int) < n.toInt := by
  have t := tn_n h
  omega
theorem mvq_Nn {n f : Int32} {kd row pl : Nat → Int32} (hf : RB 0 11 f) (h : 0 ≤ row 0 ∧ row 0 < n) : mvq n (Nn n kd) f (Nn n row) (Nn n pl) = mvq n kd f row pl := by
  have e : ∀ q, RB 0 11 q → (FR n (Nn n pl) q ↔ FR n pl q) := fun q _ => by
    constructor
    · intro w x x0 x1
      have := w x x0 x1
      rw [Nn_at (tn_n ⟨x0, x1⟩)] at this
      exact this
    · intro w x x0 x1
      rw [Nn_at (tn_n ⟨x0, x1⟩)]
      exact w x x0 x1
  unfold mvq
  rw [Nn_at (a := row) (n_pos h), Nn_at (tn_n h), sr_congr e 11 hf, sr_congr e 11 (sr_rng 11 hf)]
theorem mvS_Nn {n f : Int32} {kd row pl : Nat → Int32} (hf : RB 0 11 f) (h : 0 ≤ row 0 ∧ row 0 < n) : mvS n (Nn n kd) (f, Nn n row, Nn n pl) = ((mvS n kd (f, row, pl)).1, Nn n (mvS n kd (f, row, pl)).2.1, Nn n (mvS n kd (f, row, pl)).2.2) := by
  unfold mvS
  show (mvq n (Nn n kd) f (Nn n row) (Nn n pl), rot n (Nn n row), upd (Nn n pl) ((Nn n row) 0).toNatClampNeg (mvq n (Nn n kd) f (Nn n row) (Nn n pl))) = (mvq n kd f row pl, Nn n (rot n row), Nn n (upd pl (row 0).toNatClampNeg (mvq n kd f row pl)))
  rw [mvq_Nn hf h, Nn_rot, Nn_at (a := row) (n_pos h), Nn_upd (tn_n h)]
theorem tnS_Nn {n f d : Int32} {kd row pl : Nat → Int32} (hn : RB 1 6 n) (hf : RB 0 11 f) (hr : RH n row) : tnS n (Nn n kd) (f, d, Nn n row, Nn n pl) = ((tnS n kd (f, d, row, pl)).1, (tnS n kd (f, d, row, pl)).2.1, Nn n (tnS n kd (f, d, row, pl)).2.2.1, Nn n (tnS n kd (f, d, row, pl)).2.2.2) := by
  have h := hr.h0 hn.1
  have k1 : (Nn n row) 0 = row 0 := Nn_at (n_pos h)
  have k2 : ((row 0).toNatClampNeg : Int) < n.toInt := tn_n h
  have k3 : (Nn n kd) (row 0).toNatClampNeg = kd (row 0).toNatClampNeg := Nn_at k2
  have m1 := mvS_Nn (kd := kd) (pl := pl) hf h
  have hf2 : RB 0 11 (mvS n kd (f, row, pl)).1 := mvq_r hf
  have m2 := mvS_Nn (kd := kd) (row := (mvS n kd (f, row, pl)).2.1) (pl := (mvS n kd (f, row, pl)).2.2) hf2 ((hr.rot' hn.1).h0 hn.1)
  unfold tnS
  show (if 1 < d then (f, d - 1, Nn n row, Nn n pl) else if d = 1 then ((mvS n (Nn n kd) (f, Nn n row, Nn n pl)).1, 0, (mvS n (Nn n kd) (f, Nn n row, Nn n pl)).2) else if (Nn n kd) ((Nn n row) 0).toNatClampNeg = 1 then (f, 1, Nn n row, upd (Nn n pl) ((Nn n row) 0).toNatClampNeg (-1)) else if (Nn n kd) ((Nn n row) 0).toNatClampNeg = 4 then (f, 2, Nn n row, upd (Nn n pl) ((Nn n row) 0).toNatClampNeg (-1)) else if (Nn n kd) ((Nn n row) 0).toNatClampNeg = 2 then ((mvS n (Nn n kd) (mvS n (Nn n kd) (f, Nn n row, Nn n pl))).1, 0, (mvS n (Nn n kd) (mvS n (Nn n kd) (f, Nn n row, Nn n pl))).2) else ((mvS n (Nn n kd) (f, Nn n row, Nn n pl)).1, 0, (mvS n (Nn n kd) (f, Nn n row, Nn n pl)).2)) = ((if 1 < d then (f, d - 1, row, pl) else if d = 1 then ((mvS n kd (f, row, pl)).1, 0, (mvS n kd (f, row, pl)).2) else if kd (row 0).toNatClampNeg = 1 then (f, 1, row, upd pl (row 0).toNatClampNeg (-1)) else if kd (row 0).toNatClampNeg = 4 then (f, 2, row, upd pl (row 0).toNatClampNeg (-1)) else if kd (row 0).toNatClampNeg = 2 then ((mvS n kd (mvS n kd (f, row, pl))).1, 0, (mvS n kd (mvS n kd (f, row, pl))).2) else ((mvS n kd (f, row, pl)).1, 0, (mvS n kd (f, row, pl)).2)).1, _, Nn n _, Nn n _)
  rw [k1, k3]
  rw [m1, m2, ← Nn_upd k2]
  by_cases c1 : 1 < d
  · simp only [if_pos c1]
  · simp only [if_neg c1]
    by_cases c2 : d = 1
    · simp only [if_pos c2]
    · simp only [if_neg c2]
      by_cases c3 : kd (row 0).toNatClampNeg = 1
      · simp only [if_pos c3]
      · simp only [if_neg c3]
        by_cases c4 : kd (row 0).toNatClampNeg = 4
        · simp only [if_pos c4]
        · simp only [if_neg c4]
          by_cases c5 : kd (row 0).toNatClampNeg = 2
          · simp only [if_pos c5]
          · simp only [if_neg c5]
theorem rh_tn {n f d : Int32} {kd row pl : Nat → Int32} (hn : 1 ≤ n) (hr : RH n row) : RH n (tnS n kd (f, d, row, pl)).2.2.1 := by
  have r1 := hr.rot' hn
  have r2 := r1.rot' hn
  unfold tnS
  show RH n (if 1 < d then (f, d - 1, row, pl) else if d = 1 then ((mvS n kd (f, row, pl)).1, (0 : Int32), (mvS n kd (f, row, pl)).2) else if kd (row 0).toNatClampNeg = 1 then (f, (1 : Int32), row, upd pl (row 0).toNatClampNeg (-1)) else if kd (row 0).toNatClampNeg = 4 then (f, (2 : Int32), row, upd pl (row 0).toNatClampNeg (-1)) else if kd (row 0).toNatClampNeg = 2 then ((mvS n kd (mvS n kd (f, row, pl))).1, (0 : Int32), (mvS n kd (mvS n kd (f, row, pl))).2) else ((mvS n kd (f, row, pl)).1, (0 : Int32), (mvS n kd (f, row, pl)).2)).2.2.1
  by_cases c1 : 1 < d
  · rw [if_pos c1]; exact hr
  · rw [if_neg c1]
    by_cases c2 : d = 1
    · rw [if_pos c2]; exact r1
    · rw [if_neg c2]
      by_cases c3 : kd (row 0).toNatClampNeg = 1
      · rw [if_pos c3]; exact hr
      · rw [if_neg c3]
        by_cases c4 : kd (row 0).toNatClampNeg = 4
        · rw [if_pos c4]; exact hr
        · rw [if_neg c4]
          by_cases c5 : kd (row 0).toNatClampNeg = 2
          · rw [if_pos c5]; exact r2
          · rw [if_neg c5]; exact r1
theorem cn_step {n n' f d f' d' : Int32} {kd row pl row' pl' : Nat → Int32} (en : n' = n) (hn : RB 1 6 n') (hf : RB 0 11 f) (hr : RH n' row) (h : (f', d', row', pl') = tnS n' kd (f, d, row, pl)) : (f', d', Nn n row', Nn n pl') = tnS n (Nn n kd) (f, d, Nn n row, Nn n pl) := by
  subst en
  rw [tnS_Nn hn hf hr, ← h]
theorem cn_rh {n f d f' d' : Int32} {kd row pl row' pl' : Nat → Int32} (hn : 1 ≤ n) (hr : RH n row) (h : (f', d', row', pl') = tnS n kd (f, d, row, pl)) : RH n row' := by
  have w := rh_tn (f := f) (d := d) (kd := kd) (pl := pl) hn hr
  rw [← h] at w
  exact w
/-- placing -/
noncomputable def plc (a b : Nat → Int32) : Nat → Nat → Int32
  | 0 => b
  | l + 1 => upd (plc a b l) (a l).toNatClampNeg (nI l)
theorem plc_ind {a b c : Nat → Int32} {k : Nat} : ∀ (l : Nat), (∃ j, j < l ∧ (a j).toNatClampNeg = k) → plc a b l k = plc a c l k
  | 0, ⟨_, hj, _⟩ => absurd hj (Nat.not_lt_zero _)
  | l + 1, ⟨j, hj, e⟩ => by
    show upd (plc a b l) (a l).toNatClampNeg (nI l) k = upd (plc a c l) (a l).toNatClampNeg (nI l) k
    by_cases q : k = (a l).toNatClampNeg
    · rw [q, pk_us, pk_us]
    · rw [pk_un q, pk_un q]
      refine plc_ind l ⟨j, ?_, e⟩
      by_cases w : j = l
      · rw [w] at e; exact absurd e.symm q
      · omega
theorem plc_at {a b : Nat → Int32} : ∀ (l j : Nat), j < l → (∀ i, i < l → (a i).toNatClampNeg = (a j).toNatClampNeg → i = j) → plc a b l (a j).toNatClampNeg = nI j
  | 0, _, hj, _ => absurd hj (Nat.not_lt_zero _)
  | l + 1, j, hj, h => by
    show upd (plc a b l) (a l).toNatClampNeg (nI l) (a j).toNatClampNeg = nI j
    by_cases q : j = l
    · rw [q, pk_us]
    · rw [pk_un (fun z => q (h l (by omega) z.symm).symm)]
      exact plc_at l j (by omega) (fun i hi e => h i (by omega) e)
theorem plc_step {a g b : Nat → Int32} {l : Int32} (e : b = plc a g l.toNatClampNeg) (hl : 0 ≤ l ∧ l ≤ 100) : upd b (a l.toNatClampNeg).toNatClampNeg l = plc a g (l + 1).toNatClampNeg := by
  rw [tn_s ⟨hl.1, by grind⟩, e]
  show _ = upd (plc a g l.toNatClampNeg) (a l.toNatClampNeg).toNatClampNeg (nI l.toNatClampNeg)
  rw [nI_tn hl.1]
theorem plc_end {a g b : Nat → Int32} {l n : Int32} (e : b = plc a g l.toNatClampNeg) (q : l ≤ n ∧ n ≤ l) : b = plc a g n.toNatClampNeg := by
  have q2 : l = n := by grind
  rw [e, q2]
/-- orders -/
def id6 : Nat → Int32 := N6 (fun k => nI k)
def IDZ (n : Int32) (a : Nat → Int32) : Prop := ∀ k : Nat, n.toInt ≤ k → a k = id6 k
def Z6 (a : Nat → Int32) : Prop := ∀ k : Nat, 6 ≤ k → a k = 0
def PM (n : Int32) (a : Nat → Int32) : Prop := RH n a ∧ (∀ i j : Nat, (i : Int) < n.toInt → (j : Int) < n.toInt → a i = a j → i = j) ∧ SJ n a
theorem IDZ.z {n : Int32} {a : Nat → Int32} (h : IDZ n a) (hn : n ≤ 6) : Z6 a := fun k hk => by
  have z6 : (6 : Int32).toInt = 6 := rfl
  rw [fa_le, z6] at hn
  rw [h k (by omega)]
  unfold id6 N6
  rw [if_neg (by omega)]
theorem idz_id {n : Int32} : IDZ n id6 := fun _ _ => rfl
theorem Z6.upd {a : Nat → Int32} {i : Nat} {v : Int32} (h : Z6 a) (hi : i < 6) : Z6 (upd a i v) := fun k hk => by
  rw [pk_un (by omega)]; exact h k hk
theorem id6_eq {a : Nat → Int32} (h : ∀ i : Nat, i < 6 → a i = nI i) (z : Z6 a) : a = id6 := funext fun k => by
  unfold id6 N6
  by_cases c : k < 6
  · rw [if_pos c]; exact h k c
  · rw [if_neg c]; exact z k (by omega)
theorem id6_bn {v : Nat → Int32} (z : Z6 v) : va_cpy bn v 0 0 ((6 : Int32)).toNatClampNeg = id6 := id6_eq (fun i hi => cpy_at hi) (fun k hk => by
  show va_cpy bn v 0 0 6 k = 0
  unfold va_cpy
  rw [if_neg (by omega)]
  exact z k hk)
theorem id6_ra : RA 0 5 id6 := fun k => by
  unfold id6 N6
  by_cases c : k < 6
  · rw [if_pos c]
    have : k = 0 ∨ k = 1 ∨ k = 2 ∨ k = 3 ∨ k = 4 ∨ k = 5 := by omega
    rcases this with rfl | rfl | rfl | rfl | rfl | rfl <;> exact ⟨by decide, by decide⟩
  · rw [if_neg c]; exact ⟨by decide, by decide⟩
theorem id6_ij : IJ id6 := fun i j hi hj e => by
  unfold id6 at e
  rw [N6_at hi, N6_at hj, fa_eq, (nI_i (k := i) (by omega)).1, (nI_i (k := j) (by omega)).1] at e
  omega
theorem pm_of {n : Int32} {a : Nat → Int32} (hn : RB 1 6 n) (hr : RA 0 5 a) (hj : IJ a) (hz : IDZ n a) : PM n a := by
  have n1 := hn.1
  have n2 := hn.2
  have z6 : (6 : Int32).toInt = 6 := rfl
  have o : (1 : Int32).toInt = 1 := rfl
  have z5 : (5 : Int32).toInt = 5 := rfl
  rw [fa_le, o] at n1
  rw [fa_le, z6] at n2
  have rh : RH n a := fun k hk => by
    refine ⟨(hr k).1, ?_⟩
    by_cases c : a k < n
    · exact c
    · exfalso
      rw [fa_lt] at c
      have b := (hr k).2
      rw [fa_le, z5] at b
      have t := tnc (hr k).1
      have e : a (a k).toNatClampNeg = a k := by
        rw [hz (a k).toNatClampNeg (by omega)]
        unfold id6
        rw [N6_at (by omega)]
        exact nI_tn (hr k).1
      have := hj _ k (by omega) (by omega) e
      omega
  have inj : ∀ i j : Nat, (i : Int) < n.toInt → (j : Int) < n.toInt → a i = a j → i = j := fun i j hi hj2 e => hj i j (by omega) (by omega) e
  refine ⟨rh, inj, fun h h0 h1 => Classical.byContradiction fun no => ?_⟩
  have no2 : ∀ i : Nat, (i : Int) < n.toInt → a i ≠ h := fun i hi e => by
    have w := nI_i (k := i) (by omega)
    refine no ⟨nI i, ⟨?_, ?_⟩, ?_⟩
    · rw [fa_le, z0, w.1]; omega
    · rw [fa_lt, w.1]; exact hi
    · rw [w.2]; exact e
  have th := tn_n ⟨h0, h1⟩
  obtain ⟨i, j, hij, hj2, e⟩ := php n.toInt.toNat (fun i => if (i : Int) < n.toInt then (a i).toNatClampNeg else h.toNatClampNeg) (fun i hi => by
    show (if (i : Int) < n.toInt then (a i).toNatClampNeg else h.toNatClampNeg) < n.toInt.toNat
    by_cases c : (i : Int) < n.toInt
    · rw [if_pos c]
      have := tn_n (rh i c)
      omega
    · rw [if_neg c]
      omega)
  have e : (if (i : Int) < n.toInt then (a i).toNatClampNeg else h.toNatClampNeg) = (if (j : Int) < n.toInt then (a j).toNatClampNeg else h.toNatClampNeg) := e
  have ci : (i : Int) < n.toInt := by omega
  rw [if_pos ci] at e
  by_cases cj : (j : Int) < n.toInt
  · rw [if_pos cj] at e
    have := inj i j ci cj (tn_inj (rh i ci).1 (rh j cj).1 e)
    omega
  · rw [if_neg cj] at e
    exact no2 i ci (tn_inj (rh i ci).1 h0 e)
theorem PM.sjn {n : Int32} {a : Nat → Int32} (h : PM n a) {k : Nat} (hk : (k : Int) < n.toInt) (hn : n ≤ 6) : ∃ j : Nat, j < n.toNatClampNeg ∧ (a j).toNatClampNeg = k := by
  have z6 : (6 : Int32).toInt = 6 := rfl
  rw [fa_le, z6] at hn
  have w := nI_i (k := k) (by omega)
  obtain ⟨x, hx, e⟩ := h.2.2 (nI k) (by rw [fa_le, z0, w.1]; omega) (by rw [fa_lt, w.1]; exact hk)
  have t := tn_n hx
  have tn : n.toNatClampNeg = n.toInt.toNat := rfl
  exact ⟨x.toNatClampNeg, by omega, by rw [e]; exact w.2⟩
theorem PM.at {n : Int32} {a b : Nat → Int32} (h : PM n a) {j : Nat} (hj : (j : Int) < n.toInt) : plc a b n.toNatClampNeg (a j).toNatClampNeg = nI j := by
  have tn : n.toNatClampNeg = n.toInt.toNat := rfl
  exact plc_at _ j (by omega) (fun i hi e => h.2.1 i j (by omega) hj (tn_inj (h.1 i (by omega)).1 (h.1 j hj).1 e))
theorem twn_pm {n : Int32} {kd a row pl so : Nat → Int32} (hn : RB 1 6 n) (hp : PM n a) : TWN n kd 0 (fl n a row) (plc a pl n.toNatClampNeg) (fl n a (fl 12 (fun _ => -1) so)) := by
  have n2 := hn.2
  have z6 : (6 : Int32).toInt = 6 := rfl
  have z11 : (11 : Int32).toInt = 11 := rfl
  have z12 : (12 : Int32).toInt = 12 := rfl
  rw [fa_le, z6] at n2
  have sv : ∀ p : Int32, RB 0 11 p → (fl n a (fl 12 (fun _ => -1) so)) p.toNatClampNeg = if p < n then a p.toNatClampNeg else -1 := fun p hp => by
    have t := tnc hp.1
    have p2 := hp.2
    rw [fa_le, z11] at p2
    unfold fl
    by_cases c : p < n
    · rw [if_pos c]
      rw [fa_lt] at c
      rw [if_pos (by omega)]
    · rw [if_neg c]
      rw [fa_lt] at c
      rw [if_neg (by omega), if_pos (by omega)]
  have rr : RH n (fl n a row) := fun k hk => by
    unfold fl
    rw [if_pos hk]
    exact hp.1 k hk
  refine ⟨⟨fun p h hp2 h0 h1 => ?_, fun p hp2 => ?_⟩, rr, fun q => absurd q (by decide), by decide⟩
  · obtain ⟨k, hk, e⟩ := hp.2.2 h h0 h1
    have tk := tn_n hk
    have w : plc a pl n.toNatClampNeg h.toNatClampNeg = k := by
      rw [← e, hp.at tk]
      exact nI_tn hk.1
    rw [w, sv p hp2]
    constructor
    · intro q
      subst q
      rw [if_pos hk.2]
      exact e
    · intro q
      by_cases c : p < n
      · rw [if_pos c, ← e] at q
        exact (tn_inj hp2.1 hk.1 (hp.2.1 _ _ (tn_n ⟨hp2.1, c⟩) tk q)).symm
      · rw [if_neg c] at q
        rw [← q] at h0
        exact absurd h0 (by decide)
  · rw [sv p hp2]
    by_cases c : p < n
    · rw [if_pos c]; exact Or.inr (hp.1 _ (tn_n ⟨hp2.1, c⟩))
    · rw [if_neg c]; exact Or.inl rfl
noncomputable def bgS (n : Int32) (a : Nat → Int32) : St := (n - 1, 0, Nn n a, Nn n (plc a (fun _ => 0) n.toNatClampNeg))
theorem bg_eq {n f d : Int32} {a row row0 pl pl0 : Nat → Int32} (hn : RB 1 6 n) (hp : PM n a) (e1 : f = n - 1 ∧ d = 0) (e2 : row = fl n a row0) (e3 : pl = plc a pl0 n.toNatClampNeg) : (f, d, Nn n row, Nn n pl) = bgS n a := by
  unfold bgS
  have r : Nn n row = Nn n a := Nn_ext fun k hk => by
    rw [e2]
    unfold fl
    rw [if_pos hk]
  have p : Nn n pl = Nn n (plc a (fun _ => 0) n.toNatClampNeg) := Nn_ext fun k hk => by
    rw [e3]
    exact plc_ind _ (hp.sjn hk hn.2)
  rw [r, p, e1.1, e1.2]
/-- wishes that come true -/
noncomputable def grn (n : Int32) (kd : Nat → Int32) (H : Int32 → (Nat → Int32) → Int32) : Nat → Int32 → Int32 → St → Int32
  | 0, _, x, _ => x
  | f + 1, k, x, s => grn n kd H f (k + 1) (x + H k (tnS n kd s).2.2.2) (tnS n kd s)
theorem grn_step {n a k x y X : Int32} {kd : Nat → Int32} {H : Int32 → (Nat → Int32) → Int32} {s s' : St} (V : grn n kd H (a - k).toNatClampNeg k x s = X) (c : s' = tnS n kd s) (hy : y = H k s'.2.2.2) (q : 0 ≤ k ∧ k < a) (ha : a ≤ 1000) : grn n kd H (a - (k + 1)).toNatClampNeg (k + 1) (x + y) s' = X := by
  rw [tn_sub q ha] at V
  rw [hy, c]
  exact V
theorem grn_end {n a k x X : Int32} {kd : Nat → Int32} {H : Int32 → (Nat → Int32) → Int32} {s : St} (V : grn n kd H (a - k).toNatClampNeg k x s = X) (q : a ≤ k) (hk : 0 ≤ k) (ha : 0 ≤ a) : x = X := by
  rw [tn_sub0 q hk ha] at V
  exact V
theorem grn_0 {n : Int32} {kd : Nat → Int32} {H : Int32 → (Nat → Int32) → Int32} {L : Int32} (h : ∀ (j : Int32) (pl : Nat → Int32), L < j → H j pl = 0) : ∀ (g : Nat) (k x : Int32) (s : St), L < k → 0 ≤ k → k.toInt + g ≤ 1000 → grn n kd H g k x s = x
  | 0, _, _, _, _, _, _ => rfl
  | g + 1, k, x, s, h1, h2, h3 => by
    show grn n kd H g (k + 1) (x + H k (tnS n kd s).2.2.2) (tnS n kd s) = x
    have kk : k ≤ 1000 := by
      have z : (1000 : Int32).toInt = 1000 := rfl
      rw [fa_le, z]; omega
    have ad := add1 h2 kk
    have e : x + H k (tnS n kd s).2.2.2 = x := by rw [h k _ h1]; grind
    rw [e]
    exact grn_0 h g (k + 1) x _ (by grind) (by grind) (by omega)
theorem grn_more {n : Int32} {kd : Nat → Int32} {H : Int32 → (Nat → Int32) → Int32} {L : Int32} (h : ∀ (j : Int32) (pl : Nat → Int32), L < j → H j pl = 0) : ∀ (f g : Nat) (k x : Int32) (s : St), L.toInt < k.toInt + f → 0 ≤ k → k.toInt + f + g ≤ 1000 → grn n kd H (f + g) k x s = grn n kd H f k x s
  | 0, g, k, x, s, h1, h2, h3 => by
    rw [Nat.zero_add]
    exact grn_0 h g k x s (by rw [fa_lt]; omega) h2 (by omega)
  | f + 1, g, k, x, s, h1, h2, h3 => by
    have e : f + 1 + g = (f + g) + 1 := by omega
    rw [e]
    show grn n kd H (f + g) (k + 1) (x + H k (tnS n kd s).2.2.2) (tnS n kd s) = grn n kd H f (k + 1) (x + H k (tnS n kd s).2.2.2) (tnS n kd s)
    have kk : k ≤ 1000 := by
      have z : (1000 : Int32).toInt = 1000 := rfl
      rw [fa_le, z]; omega
    have ad := add1 h2 kk
    exact grn_more h f g (k + 1) _ _ (by omega) (by grind) (by omega)
noncomputable def HW (m : Int32) (h p g : Nat → Int32) (k : Int32) (pl : Nat → Int32) : Int32 := sm (fun i => if g i = k ∧ pl (h i).toNatClampNeg = p i then 1 else 0) m.toNatClampNeg
theorem tn_ix {i : Nat} {m : Int32} (h : i < m.toNatClampNeg) : (i : Int) < m.toInt := by
  have t : m.toNatClampNeg = m.toInt.toNat := rfl
  omega
def WHS (n m : Int32) (h : Nat → Int32) : Prop := ∀ i : Nat, (i : Int) < m.toInt → 0 ≤ h i ∧ h i < n
def LNT (m : Int32) (g : Nat → Int32) (x : Int32) : Prop := ∀ i : Nat, (i : Int) < m.toInt → g i ≤ x
def CPS (m : Int32) (h' p' g' h p g : Nat → Int32) : Prop := ∀ i : Nat, (i : Int) < m.toInt → h' i = h i ∧ p' i = p i ∧ g' i = g i
def C15 (a b : Nat → Int32) : Prop := ∀ k : Nat, k < 15 → a k = b k
theorem hw_nn {m n k : Int32} {h p g pl : Nat → Int32} (w : WHS n m h) : HW m h p g k (Nn n pl) = HW m h p g k pl := sm_congr fun i hi => by
  show (if g i = k ∧ (Nn n pl) (h i).toNatClampNeg = p i then (1 : Int32) else 0) = _
  rw [Nn_at (tn_n (w i (tn_ix hi)))]
theorem sm_zero {f : Nat → Int32} : ∀ {n : Nat}, (∀ k, k < n → f k = 0) → sm f n = 0
  | 0, _ => rfl
  | n + 1, h => by
    show sm f n + f n = 0
    rw [sm_zero (n := n) (fun k hk => h k (by omega)), h n (by omega)]
    rfl
theorem hw_late {m L j : Int32} {h p g pl : Nat → Int32} (w : LNT m g L) (hj : L < j) : HW m h p g j pl = 0 := sm_zero fun i hi => by
  show (if g i = j ∧ pl (h i).toNatClampNeg = p i then (1 : Int32) else 0) = 0
  have := w i (tn_ix hi)
  rw [if_neg (by grind)]
noncomputable def GG (n : Int32) (kd : Nat → Int32) (H : Int32 → (Nat → Int32) → Int32) (a : Nat → Int32) : Int32 := grn n kd H 40 1 0 (bgS n a)
theorem g_init {n f d l m : Int32} {kd a row row0 pl pl0 h p g : Nat → Int32} (hn : RB 1 6 n) (hp : PM n a) (e1 : f = n - 1 ∧ d = 0) (e2 : row = fl n a row0) (e3 : pl = plc a pl0 n.toNatClampNeg) (hl : RB 0 40 l) (w : LNT m g l) : grn n kd (HW m h p g) (l + 1 - 1).toNatClampNeg 1 0 (f, d, Nn n row, Nn n pl) = GG n kd (HW m h p g) a := by
  rw [bg_eq hn hp e1 e2 e3]
  unfold GG
  have e : l + 1 - 1 = l := by grind
  rw [e]
  have t := tnc hl.1
  have h2 := hl.2
  have z40 : (40 : Int32).toInt = 40 := rfl
  have o : (1 : Int32).toInt = 1 := rfl
  rw [fa_le, z40] at h2
  have e2 : (40 : Nat) = l.toNatClampNeg + (40 - l.toNatClampNeg) := by omega
  rw [e2]
  exact (grn_more (fun j pl hj => hw_late w hj) _ _ _ _ _ (by omega) (by decide) (by omega)).symm
/-- bounds -/
theorem sm_i {f : Nat → Int32} : ∀ {n : Nat}, n ≤ 1000 → (∀ k, k < n → 0 ≤ f k ∧ f k ≤ 1) → 0 ≤ (sm f n).toInt ∧ (sm f n).toInt ≤ n
  | 0, _, _ => by
    have z : (sm f 0).toInt = 0 := rfl
    omega
  | n + 1, h, w => by
    have ih := sm_i (f := f) (n := n) (by omega) (fun k hk => w k (by omega))
    have b := w n (by omega)
    have o : (1 : Int32).toInt = 1 := rfl
    rw [fa_le, fa_le, z0, o] at b
    have e : (sm f (n + 1)).toInt = (sm f n).toInt + (f n).toInt := by
      show (sm f n + f n).toInt = _
      exact fb_addI (by omega) (by omega)
    omega
theorem sm_is {f : Nat → Int32} {n : Nat} (h : n + 1 ≤ 1000) (w : ∀ k, k < n + 1 → 0 ≤ f k ∧ f k ≤ 1) : (sm f (n + 1)).toInt = (sm f n).toInt + (f n).toInt := by
  have ih := sm_i (f := f) (n := n) (by omega) (fun k hk => w k (by omega))
  have b := w n (by omega)
  have o : (1 : Int32).toInt = 1 := rfl
  rw [fa_le, fa_le, z0, o] at b
  show (sm f n + f n).toInt = _
  exact fb_addI (by omega) (by omega)
theorem sm_le2 {f g h : Nat → Int32} : ∀ {n : Nat}, n ≤ 1000 → (∀ k, k < n → 0 ≤ f k ∧ f k ≤ 1) → (∀ k, k < n → 0 ≤ g k ∧ g k ≤ 1) → (∀ k, k < n → 0 ≤ h k ∧ h k ≤ 1) → (∀ k, k < n → f k + g k ≤ h k) → (sm f n).toInt + (sm g n).toInt ≤ (sm h n).toInt
  | 0, _, _, _, _, _ => by
    have z1 : (sm f 0).toInt = 0 := rfl
    have z2 : (sm g 0).toInt = 0 := rfl
    have z3 : (sm h 0).toInt = 0 := rfl
    omega
  | n + 1, hn, wf, wg, wh, w => by
    have ih := sm_le2 (f := f) (g := g) (h := h) (n := n) (by omega) (fun k hk => wf k (by omega)) (fun k hk => wg k (by omega)) (fun k hk => wh k (by omega)) (fun k hk => w k (by omega))
    have b := w n (by omega)
    have bf := wf n (by omega)
    have bg := wg n (by omega)
    have o : (1 : Int32).toInt = 1 := rfl
    rw [fa_le, fa_le, z0, o] at bf bg
    rw [fa_le, fb_addI (by omega) (by omega)] at b
    rw [sm_is hn wf, sm_is hn wg, sm_is hn wh]
    omega
noncomputable def UW (m : Int32) (g : Nat → Int32) (k : Int32) : Int32 := sm (fun i => if k ≤ g i then 1 else 0) m.toNatClampNeg
theorem if01 {c : Prop} [Decidable c] : (0 : Int32) ≤ (if c then (1 : Int32) else 0) ∧ (if c then (1 : Int32) else 0) ≤ 1 := by
  by_cases q : c
  · rw [if_pos q]; exact ⟨by decide, by decide⟩
  · rw [if_neg q]; exact ⟨by decide, by decide⟩
theorem hw_u {m k : Int32} {h p g pl : Nat → Int32} (hm : RB 0 5 m) (hk : 0 ≤ k ∧ k ≤ 1000) : (HW m h p g k pl).toInt + (UW m g (k + 1)).toInt ≤ (UW m g k).toInt ∧ 0 ≤ (HW m h p g k pl).toInt := by
  have t := tnc hm.1
  have h2 := hm.2
  have z5 : (5 : Int32).toInt = 5 := rfl
  rw [fa_le, z5] at h2
  refine ⟨sm_le2 (by omega) (fun i _ => if01) (fun i _ => if01) (fun i _ => if01) (fun i _ => ?_), (sm_i (by omega) (fun i _ => if01)).1⟩
  show (if g i = k ∧ pl (h i).toNatClampNeg = p i then (1 : Int32) else 0) + (if k + 1 ≤ g i then (1 : Int32) else 0) ≤ (if k ≤ g i then (1 : Int32) else 0)
  generalize g i = y
  by_cases c : y = k
  · have c2 : ¬ k + 1 ≤ y := by grind
    have c3 : k ≤ y := by grind
    rw [if_neg c2, if_pos c3]
    by_cases q : y = k ∧ pl (h i).toNatClampNeg = p i
    · rw [if_pos q]; decide
    · rw [if_neg q]; decide
  · rw [if_neg (fun q => c q.1)]
    by_cases c2 : k + 1 ≤ y
    · have c3 : k ≤ y := by grind
      rw [if_pos c2, if_pos c3]; decide
    · rw [if_neg c2]
      by_cases c3 : k ≤ y
      · rw [if_pos c3]; decide
      · rw [if_neg c3]; decide
theorem grn_b {n m : Int32} {kd h p g : Nat → Int32} (hm : RB 0 5 m) : ∀ (f : Nat) (k x : Int32) (s : St), 0 ≤ k → k.toInt + f ≤ 1000 → 0 ≤ x.toInt → x.toInt + (UW m g k).toInt ≤ m.toInt → 0 ≤ (grn n kd (HW m h p g) f k x s).toInt ∧ (grn n kd (HW m h p g) f k x s).toInt ≤ m.toInt
  | 0, k, x, s, _, _, h0, h1 => by
    have u : 0 ≤ (UW m g k).toInt := by
      have t := tnc hm.1
      have h2 := hm.2
      have z5 : (5 : Int32).toInt = 5 := rfl
      rw [fa_le, z5] at h2
      exact (sm_i (by omega) (fun i _ => if01)).1
    show 0 ≤ x.toInt ∧ x.toInt ≤ m.toInt
    omega
  | f + 1, k, x, s, hk, hf, h0, h1 => by
    show 0 ≤ (grn n kd (HW m h p g) f (k + 1) (x + HW m h p g k (tnS n kd s).2.2.2) (tnS n kd s)).toInt ∧ (grn n kd (HW m h p g) f (k + 1) (x + HW m h p g k (tnS n kd s).2.2.2) (tnS n kd s)).toInt ≤ m.toInt
    have kk : k ≤ 1000 := by
      have z : (1000 : Int32).toInt = 1000 := rfl
      rw [fa_le, z]; omega
    have ad := add1 hk kk
    have w := hw_u (h := h) (p := p) (g := g) (pl := (tnS n kd s).2.2.2) hm ⟨hk, kk⟩
    have m5 := hm.2
    have z5 : (5 : Int32).toInt = 5 := rfl
    rw [fa_le, z5] at m5
    have u : 0 ≤ (UW m g (k + 1)).toInt := by
      have t := tnc hm.1
      exact (sm_i (by omega) (fun i _ => if01)).1
    have e : (x + HW m h p g k (tnS n kd s).2.2.2).toInt = x.toInt + (HW m h p g k (tnS n kd s).2.2.2).toInt := fb_addI (by omega) (by omega)
    exact grn_b hm f (k + 1) _ _ (by grind) (by omega) (by omega) (by omega)
theorem GG_b {n m : Int32} {kd h p g : Nat → Int32} (hm : RB 0 5 m) (a : Nat → Int32) : 0 ≤ GG n kd (HW m h p g) a ∧ GG n kd (HW m h p g) a ≤ m := by
  have o : (1 : Int32).toInt = 1 := rfl
  have u : (UW m g 1).toInt ≤ m.toInt := by
    have t := tnc hm.1
    have h2 := hm.2
    have z5 : (5 : Int32).toInt = 5 := rfl
    rw [fa_le, z5] at h2
    have w := (sm_i (f := fun i => if (1 : Int32) ≤ g i then (1 : Int32) else 0) (n := m.toNatClampNeg) (by omega) (fun i _ => if01)).2
    have e : UW m g 1 = sm (fun i => if (1 : Int32) ≤ g i then (1 : Int32) else 0) m.toNatClampNeg := rfl
    rw [e]
    omega
  have w := grn_b (n := n) (kd := kd) (h := h) (p := p) (g := g) hm 40 1 0 (bgS n a) (by decide) (by omega) (by rw [z0]; omega) (by rw [z0]; omega)
  unfold GG
  rw [fa_le, fa_le, z0]
  exact w
/-- the search -/
noncomputable def bm (G : (Nat → Int32) → Int32) (m : Int32) (a : Nat → Int32) : Int32 := if G a ≤ m then m else G a
noncomputable def bb (G : (Nat → Int32) → Int32) (m : Int32) (b a : Nat → Int32) : Nat → Int32 := if G a ≤ m then b else N6 a
noncomputable def os (nx : (Nat → Int32) → Option (Int32 × (Nat → Int32))) (G : (Nat → Int32) → Int32) (cap : Int32) : Nat → Int32 → (Nat → Int32) → (Nat → Int32) → Int32 × (Nat → Int32)
  | 0, m, b, _ => (m, b)
  | k + 1, m, b, a => if bm G m a = cap then (bm G m a, bb G m b a) else (nx a).elim (bm G m a, bb G m b a) (fun r => if r.1 = 0 then (bm G m a, bb G m b a) else os nx G cap k (bm G m a) (bb G m b a) r.2)
noncomputable def osk (nx : (Nat → Int32) → Option (Int32 × (Nat → Int32))) (G : (Nat → Int32) → Int32) (cap : Int32) (k : Nat) (m : Int32) (b a : Nat → Int32) : Int32 × (Nat → Int32) := if m = cap then (m, b) else (nx a).elim (m, b) (fun r => if r.1 = 0 then (m, b) else os nx G cap k m b r.2)
noncomputable def osn (nx : (Nat → Int32) → Option (Int32 × (Nat → Int32))) (G : (Nat → Int32) → Int32) : Nat → Int32 → (Nat → Int32) → (Nat → Int32) → Int32 × (Nat → Int32)
  | 0, m, b, _ => (m, b)
  | k + 1, m, b, a => (nx a).elim (bm G m a, bb G m b a) (fun r => if r.1 = 0 then (bm G m a, bb G m b a) else osn nx G k (bm G m a) (bb G m b a) r.2)
theorem osn_stay {nx : (Nat → Int32) → Option (Int32 × (Nat → Int32))} {G : (Nat → Int32) → Int32} {m : Int32} {b : Nat → Int32} (h : ∀ a, G a ≤ m) : ∀ (k : Nat) (a : Nat → Int32), osn nx G k m b a = (m, b)
  | 0, _ => rfl
  | k + 1, a => by
    have e1 : bm G m a = m := if_pos (h a)
    have e2 : bb G m b a = b := if_pos (h a)
    show (nx a).elim (bm G m a, bb G m b a) (fun r => if r.1 = 0 then (bm G m a, bb G m b a) else osn nx G k (bm G m a) (bb G m b a) r.2) = _
    rw [e1, e2]
    cases nx a with
    | none => rfl
    | some r =>
      show (if r.1 = 0 then (m, b) else osn nx G k m b r.2) = (m, b)
      by_cases c : r.1 = 0
      · rw [if_pos c]
      · rw [if_neg c]; exact osn_stay h k r.2
theorem os_osn {nx : (Nat → Int32) → Option (Int32 × (Nat → Int32))} {G : (Nat → Int32) → Int32} {cap : Int32} (h : ∀ a, G a ≤ cap) : ∀ (k : Nat) (m : Int32) (b a : Nat → Int32), os nx G cap k m b a = osn nx G k m b a
  | 0, _, _, _ => rfl
  | k + 1, m, b, a => by
    show (if bm G m a = cap then (bm G m a, bb G m b a) else (nx a).elim (bm G m a, bb G m b a) (fun r => if r.1 = 0 then (bm G m a, bb G m b a) else os nx G cap k (bm G m a) (bb G m b a) r.2)) = (nx a).elim (bm G m a, bb G m b a) (fun r => if r.1 = 0 then (bm G m a, bb G m b a) else osn nx G k (bm G m a) (bb G m b a) r.2)
    generalize bm G m a = m'
    generalize bb G m b a = b'
    by_cases c : m' = cap
    · rw [if_pos c]
      cases nx a with
      | none => rfl
      | some r =>
        show _ = if r.1 = 0 then (m', b') else osn nx G k m' b' r.2
        by_cases c2 : r.1 = 0
        · rw [if_pos c2]
        · rw [if_neg c2, osn_stay (by rw [c]; exact h)]
    · rw [if_neg c]
      cases nx a with
      | none => rfl
      | some r =>
        show (if r.1 = 0 then (m', b') else os nx G cap k m' b' r.2) = if r.1 = 0 then (m', b') else osn nx G k m' b' r.2
        rw [os_osn h k m' b' r.2]
theorem osn_b0 {nx : (Nat → Int32) → Option (Int32 × (Nat → Int32))} {G : (Nat → Int32) → Int32} {m : Int32} {b c a : Nat → Int32} (k : Nat) (h : ¬ G a ≤ m) : osn nx G (k + 1) m b a = osn nx G (k + 1) m c a := by
  show (nx a).elim (bm G m a, bb G m b a) (fun r => if r.1 = 0 then (bm G m a, bb G m b a) else osn nx G k (bm G m a) (bb G m b a) r.2) = (nx a).elim (bm G m a, bb G m c a) (fun r => if r.1 = 0 then (bm G m a, bb G m c a) else osn nx G k (bm G m a) (bb G m c a) r.2)
  have e : bb G m b a = bb G m c a := by
    unfold bb
    rw [if_neg h, if_neg h]
  rw [e]
theorem os_up {nx : (Nat → Int32) → Option (Int32 × (Nat → Int32))} {G : (Nat → Int32) → Int32} {cap l m m' : Int32} {b a b' : Nat → Int32} {X : Int32 × (Nat → Int32)} (V : os nx G cap (720 - l).toNatClampNeg m b a = X) (hl : 0 ≤ l ∧ l < 720) (hm : m' = bm G m a) (hb : b' = bb G m b a) : osk nx G cap (719 - l).toNatClampNeg m' b' a = X := by
  have e : (720 - l).toNatClampNeg = (719 - l).toNatClampNeg + 1 := by
    have e2 : 720 - l = (719 - l) + 1 := by grind
    rw [e2, tn_s ⟨by grind, by grind⟩]
  rw [e] at V
  rw [hm, hb]
  exact V
theorem osk_cap {nx : (Nat → Int32) → Option (Int32 × (Nat → Int32))} {G : (Nat → Int32) → Int32} {cap m : Int32} {b a : Nat → Int32} {k : Nat} {X : Int32 × (Nat → Int32)} (V : osk nx G cap k m b a = X) (c : m = cap) : (m, b) = X := by
  unfold osk at V
  rw [if_pos c] at V
  exact V
theorem osk_end {nx : (Nat → Int32) → Option (Int32 × (Nat → Int32))} {G : (Nat → Int32) → Int32} {cap m : Int32} {b a : Nat → Int32} {k : Nat} {X r : Int32 × (Nat → Int32)} (V : osk nx G cap k m b a = X) (c : ¬ m = cap) (e : nx a = some r) (q : r.1 = 0) : (m, b) = X := by
  unfold osk at V
  rw [if_neg c, e] at V
  have V : (if r.1 = 0 then (m, b) else os nx G cap k m b r.2) = X := V
  rw [if_pos q] at V
  exact V
theorem osk_go {nx : (Nat → Int32) → Option (Int32 × (Nat → Int32))} {G : (Nat → Int32) → Int32} {cap l m : Int32} {b a : Nat → Int32} {X r : Int32 × (Nat → Int32)} (V : osk nx G cap (719 - l).toNatClampNeg m b a = X) (c : ¬ m = cap) (e : nx a = some r) (q : ¬ r.1 = 0) : os nx G cap (720 - (l + 1)).toNatClampNeg m b r.2 = X := by
  unfold osk at V
  rw [if_neg c, e] at V
  have V : (if r.1 = 0 then (m, b) else os nx G cap (719 - l).toNatClampNeg m b r.2) = X := V
  rw [if_neg q] at V
  have e2 : 720 - (l + 1) = 719 - l := by grind
  rw [e2]
  exact V
theorem os_0 {nx : (Nat → Int32) → Option (Int32 × (Nat → Int32))} {G : (Nat → Int32) → Int32} {cap l m : Int32} {b a : Nat → Int32} {X : Int32 × (Nat → Int32)} (V : os nx G cap (720 - l).toNatClampNeg m b a = X) (c : 720 ≤ l) : (m, b) = X := by
  rw [tn_sub0 c (by grind) (by decide)] at V
  exact V
/-- how many orders there are -/
def dg6 (d0 d1 d2 d3 d4 d5 : Nat) : Bool := !(Nat.beq d0 d1) && (!(Nat.beq d0 d2) && (!(Nat.beq d0 d3) && (!(Nat.beq d0 d4) && (!(Nat.beq d0 d5) && (!(Nat.beq d1 d2) && (!(Nat.beq d1 d3) && (!(Nat.beq d1 d4) && (!(Nat.beq d1 d5) && (!(Nat.beq d2 d3) && (!(Nat.beq d2 d4) && (!(Nat.beq d2 d5) && (!(Nat.beq d3 d4) && (!(Nat.beq d3 d5) && !(Nat.beq d4 d5))))))))))))))
def dgs (n : Nat) : Bool := dg6 (n / 7776) (n / 1296 % 6) (n / 216 % 6) (n / 36 % 6) (n / 6 % 6) (n % 6)
noncomputable def cnA (n : Nat) : Nat → Nat := Nat.rec (motive := fun _ => Nat → Nat) (fun acc => acc) (fun n ih acc => cond (dgs n) (ih (acc + 1)) (ih acc)) n
noncomputable def cn : Nat → Nat
  | 0 => 0
  | n + 1 => cn n + cond (dgs n) 1 0
theorem cnA_eq : ∀ (n acc : Nat), cnA n acc = cn n + acc
  | 0, acc => (Nat.zero_add acc).symm
  | n + 1, acc => by
    show cond (dgs n) (cnA n (acc + 1)) (cnA n acc) = cn n + cond (dgs n) 1 0 + acc
    cases dgs n with
    | false =>
      show cnA n acc = cn n + 0 + acc
      rw [cnA_eq n acc]
      omega
    | true =>
      show cnA n (acc + 1) = cn n + 1 + acc
      rw [cnA_eq n (acc + 1)]
      omega
theorem cn_720 : cnA 46656 0 = 720 := by decide +kernel
theorem cn_all : cn 46656 = 720 := by
  have := cnA_eq 46656 0
  rw [cn_720] at this
  omega
theorem cn_mono : ∀ {x y : Nat}, x ≤ y → cn x ≤ cn y := by
  intro x y h
  induction y with
  | zero =>
    have : x = 0 := by omega
    rw [this]
    exact Nat.le_refl _
  | succ y ih =>
    by_cases c : x = y + 1
    · rw [c]; exact Nat.le_refl _
    · have := ih (by omega)
      have e : cn (y + 1) = cn y + cond (dgs y) 1 0 := rfl
      omega
theorem cn_lt {x y : Nat} (h : x < y) (d : dgs x = true) : cn x + 1 ≤ cn y := by
  have w : cn (x + 1) ≤ cn y := cn_mono h
  have e : cn (x + 1) = cn x + cond (dgs x) 1 0 := rfl
  rw [d] at e
  have e2 : cn (x + 1) = cn x + 1 := e
  omega
def lxn (a : Nat → Int32) : Nat := (lx a).toInt.toNat
theorem nb {x y : Nat} (h : x ≠ y) : Nat.beq x y = false := by
  cases q : Nat.beq x y with
  | false => rfl
  | true => exact absurd (Nat.eq_of_beq_eq_true q) h
theorem mul_i {x c : Int32} (hx : 0 ≤ x ∧ x ≤ 5) (hc : 0 ≤ c.toInt ∧ c.toInt ≤ 10000) : (x * c).toInt = x.toInt * c.toInt ∧ 0 ≤ x.toInt * c.toInt ∧ x.toInt * c.toInt ≤ 5 * c.toInt := by
  have h1 := hx.1
  have h2 := hx.2
  have z5 : (5 : Int32).toInt = 5 := rfl
  rw [fa_le, z0] at h1
  rw [fa_le, z5] at h2
  have p1 : 0 ≤ x.toInt * c.toInt := Int.mul_nonneg h1 hc.1
  have p2 : x.toInt * c.toInt ≤ 5 * c.toInt := Int.mul_le_mul_of_nonneg_right h2 hc.1
  refine ⟨?_, p1, p2⟩
  rw [Int32.toInt_mul, fb_bmod (by omega) (by omega)]
theorem addI' {x y : Int32} {X Y : Int} (hx : x.toInt = X) (hy : y.toInt = Y) (h1 : -2147483648 ≤ X + Y) (h2 : X + Y < 2147483648) : (x + y).toInt = X + Y := by
  subst hx
  subst hy
  exact fb_addI h1 h2
theorem lx_i {a : Nat → Int32} (h : RA 0 5 a) : (lx a).toInt = (a 0).toInt * 7776 + (a 1).toInt * 1296 + (a 2).toInt * 216 + (a 3).toInt * 36 + (a 4).toInt * 6 + (a 5).toInt := by
  have m0 := mul_i (c := 7776) (h 0) (by decide)
  have m1 := mul_i (c := 1296) (h 1) (by decide)
  have m2 := mul_i (c := 216) (h 2) (by decide)
  have m3 := mul_i (c := 36) (h 3) (by decide)
  have m4 := mul_i (c := 6) (h 4) (by decide)
  have c0 : (7776 : Int32).toInt = 7776 := rfl
  have c1 : (1296 : Int32).toInt = 1296 := rfl
  have c2 : (216 : Int32).toInt = 216 := rfl
  have c3 : (36 : Int32).toInt = 36 := rfl
  have c4 : (6 : Int32).toInt = 6 := rfl
  rw [c0] at m0
  rw [c1] at m1
  rw [c2] at m2
  rw [c3] at m3
  rw [c4] at m4
  have h5 := h 5
  have z5 : (5 : Int32).toInt = 5 := rfl
  rw [fa_le, fa_le, z0, z5] at h5
  have s1 := addI' m0.1 m1.1 (by omega) (by omega)
  have s2 := addI' s1 m2.1 (by omega) (by omega)
  have s3 := addI' s2 m3.1 (by omega) (by omega)
  have s4 := addI' s3 m4.1 (by omega) (by omega)
  exact addI' s4 rfl (by omega) (by omega)
theorem lx_p {a : Nat → Int32} (h : RA 0 5 a) (j : IJ a) : dgs (lxn a) = true ∧ lxn a < 46656 ∧ (lxn a : Int) = (lx a).toInt := by
  have e := lx_i h
  have z5 : (5 : Int32).toInt = 5 := rfl
  have h0 := h 0
  have h1 := h 1
  have h2 := h 2
  have h3 := h 3
  have h4 := h 4
  have h5 := h 5
  rw [fa_le, fa_le, z0, z5] at h0 h1 h2 h3 h4 h5
  have ne : ∀ i k : Nat, i < 6 → k < 6 → i ≠ k → (a i).toInt.toNat ≠ (a k).toInt.toNat := fun i k hi hk q w => by
    have r1 := (h i).1
    have r2 := (h k).1
    rw [fa_le, z0] at r1 r2
    exact q (j i k hi hk (by rw [fa_eq]; omega))
  have lt : lxn a = (lx a).toInt.toNat := rfl
  have d0 : lxn a / 7776 = (a 0).toInt.toNat := by omega
  have d1 : lxn a / 1296 % 6 = (a 1).toInt.toNat := by omega
  have d2 : lxn a / 216 % 6 = (a 2).toInt.toNat := by omega
  have d3 : lxn a / 36 % 6 = (a 3).toInt.toNat := by omega
  have d4 : lxn a / 6 % 6 = (a 4).toInt.toNat := by omega
  have d5 : lxn a % 6 = (a 5).toInt.toNat := by omega
  refine ⟨?_, by omega, by omega⟩
  unfold dgs dg6
  rw [d0, d1, d2, d3, d4, d5, nb (ne 0 1 (by decide) (by decide) (by decide)), nb (ne 0 2 (by decide) (by decide) (by decide)), nb (ne 0 3 (by decide) (by decide) (by decide)), nb (ne 0 4 (by decide) (by decide) (by decide)), nb (ne 0 5 (by decide) (by decide) (by decide)), nb (ne 1 2 (by decide) (by decide) (by decide)), nb (ne 1 3 (by decide) (by decide) (by decide)), nb (ne 1 4 (by decide) (by decide) (by decide)), nb (ne 1 5 (by decide) (by decide) (by decide)), nb (ne 2 3 (by decide) (by decide) (by decide)), nb (ne 2 4 (by decide) (by decide) (by decide)), nb (ne 2 5 (by decide) (by decide) (by decide)), nb (ne 3 4 (by decide) (by decide) (by decide)), nb (ne 3 5 (by decide) (by decide) (by decide)), nb (ne 4 5 (by decide) (by decide) (by decide))]
  rfl
theorem lx_c {a c : Nat → Int32} (h : RA 0 5 a) (j : IJ a) (g : RA 0 5 c) (k : lx a < lx c) : cn (lxn a) + 1 ≤ cn (lxn c) := by
  have w := lx_p h j
  have b := lx_r g
  rw [fa_le, z0] at b
  rw [fa_lt] at k
  have e : lxn c = (lx c).toInt.toNat := rfl
  exact cn_lt (by omega) w.1
theorem lx_719 {a : Nat → Int32} (h : RA 0 5 a) (j : IJ a) : cn (lxn a) ≤ 719 := by
  have w := lx_p h j
  have := cn_lt w.2.1 w.1
  rw [cn_all] at this
  omega
/-- a step of the reference's search -/
theorem os_ref {nx : (Nat → Int32) → Option (Int32 × (Nat → Int32))} {G : (Nat → Int32) → Int32} {m m' : Int32} {b b' a : Nat → Int32} {X r : Int32 × (Nat → Int32)} (V : ∃ i : Nat, i ≤ cn (lxn a) ∧ osn nx G (720 - i) m b a = X) (h : RA 0 5 a) (j : IJ a) (e : nx a = some r) (g : RA 0 5 r.2) (q : r.1 = 0 ∨ r.1 = 1 ∧ lx a < lx r.2) (hm : m' = bm G m a) (hb : b' = bb G m b a) : r.1 = 0 ∧ (m', b') = X ∨ r.1 ≠ 0 ∧ ∃ i : Nat, i ≤ cn (lxn r.2) ∧ osn nx G (720 - i) m' b' r.2 = X := by
  obtain ⟨i, hi, V⟩ := V
  have c := lx_719 h j
  have e2 : 720 - i = (719 - i) + 1 := by omega
  rw [e2] at V
  have V : (nx a).elim (bm G m a, bb G m b a) (fun r => if r.1 = 0 then (bm G m a, bb G m b a) else osn nx G (719 - i) (bm G m a) (bb G m b a) r.2) = X := V
  rw [← hm, ← hb, e] at V
  have V : (if r.1 = 0 then (m', b') else osn nx G (719 - i) m' b' r.2) = X := V
  rcases q with q | q
  · rw [if_pos q] at V
    exact Or.inl ⟨q, V⟩
  · have q0 : ¬ r.1 = 0 := by rw [q.1]; decide
    rw [if_neg q0] at V
    refine Or.inr ⟨q0, i + 1, ?_, ?_⟩
    · have := lx_c h j g q.2
      omega
    · rw [show 720 - (i + 1) = 719 - i by omega]
      exact V
def oans (w n : Int32) (r : Int32 × (Nat → Int32)) : Int32 := if w = 0 then r.1 else if n ≤ w - 10 then -1 else r.2 (w - 10).toNatClampNeg
theorem oa_0 {w n m : Int32} {b : Nat → Int32} {X : Int32 × (Nat → Int32)} (h : (m, b) = X) (c : w = 0) : m = oans w n X := by
  subst h
  unfold oans
  rw [if_pos c]
theorem oa_1 {w n : Int32} {X : Int32 × (Nat → Int32)} (c : ¬ w = 0) (d : n ≤ w - 10) : (-1 : Int32) = oans w n X := by
  unfold oans
  rw [if_neg c, if_pos d]
theorem oa_2 {w n l m : Int32} {b : Nat → Int32} {X : Int32 × (Nat → Int32)} (h : (m, N6 b) = X) (c : ¬ w = 0) (d : ¬ n ≤ w - 10) (e : l = w - 10) (k : 0 ≤ l ∧ l ≤ 5) : b l.toNatClampNeg = oans w n X := by
  subst h
  subst e
  unfold oans
  rw [if_neg c, if_neg d]
  exact (N6_at (tn_lt6 (n := 6) ⟨k.1, by grind⟩ (by decide))).symm
/-- both sides' next order -/
theorem lfix_bis {α ρ : Type} {s s' : (α → Option ρ) → α → Option ρ} {I : α → Prop} (h : ∀ (K K' : α → Option ρ), (∀ b, I b → K b = K' b) → ∀ a, I a → s K a = s' K' a) : ∀ (n : Nat) (a : α), I a → lfix s n a = lfix s' n a
  | 0, _, _ => rfl
  | n + 1, a, i => h (lfix s n) (lfix s' n) (fun b hb => lfix_bis h n b hb) a i
theorem ex_b {ρ : Type} {N : Nat} {i j : Int32} {t : Nat → Int32} (f : (Nat → Int32) → Option ρ) : (fX4_exchange N i j t).bind f = if i < 0 ∨ 6 ≤ i.toNatClampNeg then none else if j < 0 ∨ 6 ≤ j.toNatClampNeg then none else if i < 0 ∨ 6 ≤ i.toNatClampNeg then none else if j < 0 ∨ 6 ≤ j.toNatClampNeg then none else f (upd (upd t i.toNatClampNeg (t j.toNatClampNeg)) j.toNatClampNeg (t i.toNatClampNeg)) := by
  unfold fX4_exchange
  by_cases c1 : i < 0 ∨ 6 ≤ i.toNatClampNeg
  · rw [if_pos c1, if_pos c1]; rfl
  · by_cases c2 : j < 0 ∨ 6 ≤ j.toNatClampNeg
    · (simp only [if_neg c1, if_pos c2]) <;> rfl
    · (simp only [if_neg c1, if_neg c2]) <;> rfl
theorem go_83 {N : Nat} {n l4 l5 : Int32} {t : Nat → Int32} {K K' : Int32 → Int32 → (Nat → Int32) → Option (Int32 × (Nat → Int32))} (h : ∀ a b c, K a b c = K' a b c) : fX4_goToNextTrial_83 N n K l4 l5 t = fX9_nextOrder_107 N n K' l4 l5 t := by
  have e : K = K' := funext fun a => funext fun b => funext fun c => h a b c
  subst e
  unfold fX4_goToNextTrial_83 fX9_nextOrder_107
  rw [ex_b]
theorem go_83l {N : Nat} {n : Int32} (M : Nat) (x : Int32 × Int32 × (Nat → Int32)) : lfix (fun (K : Int32 × Int32 × (Nat → Int32) → Option (Int32 × (Nat → Int32))) (a : Int32 × Int32 × (Nat → Int32)) => fX4_goToNextTrial_83 N n (fun (l4 : Int32) (l5 : Int32) (v_trial : (Nat → Int32)) => K (l4, l5, v_trial)) a.1 a.2.1 a.2.2) M x = lfix (fun (K : Int32 × Int32 × (Nat → Int32) → Option (Int32 × (Nat → Int32))) (a : Int32 × Int32 × (Nat → Int32)) => fX9_nextOrder_107 N n (fun (l4 : Int32) (l5 : Int32) (v_order : (Nat → Int32)) => K (l4, l5, v_order)) a.1 a.2.1 a.2.2) M x :=
  lfix_bis (I := fun _ => True) (fun K K' h a _ => by exact go_83 (fun x y z => h (x, y, z) trivial)) M x trivial
theorem go_41 {N : Nat} {n l2 l3 : Int32} {t : Nat → Int32} {K K' : Int32 → Int32 → (Nat → Int32) → Option (Int32 × (Nat → Int32))} (b2 : 0 ≤ l2 ∧ l2 ≤ 4) (b3 : l2 < l3 ∧ l3 ≤ 5) (q : t l2.toNatClampNeg ≤ t (l2 + 1).toNatClampNeg) (h : ∀ c, l2 < c ∧ c ≤ 5 → K l2 c t = K' l2 c t) : fX4_goToNextTrial_41 N n K l2 l3 t = fX9_nextOrder_47 N n K' l2 l3 t := by
  have g3 : ¬ (l3 < 0 ∨ 6 ≤ l3.toNatClampNeg) := ng6 (by clear q h; grind)
  have g2 : ¬ (l2 < 0 ∨ 6 ≤ l2.toNatClampNeg) := ng6 (by clear q h g3; grind)
  have n3 : ¬ l3 ≤ l2 := by clear q h g3 g2; grind
  unfold fX4_goToNextTrial_41 fX9_nextOrder_47
  rw [if_neg n3, if_neg g3, if_neg g2, if_neg g3, if_neg g2]
  by_cases c : t l2.toNatClampNeg ≤ t l3.toNatClampNeg
  · rw [if_pos c, if_pos c, if_neg g2, if_neg g3, if_neg g2, if_neg g3]
    unfold fX4_goToNextTrial_67
    rw [ex_b, if_neg g2, if_neg g3, if_neg g2, if_neg g3]
    exact go_83l _ _
  · rw [if_neg c, if_neg c]
    have w := no_step (a := t) b2 ⟨by clear q h g3 g2 c; grind, b3.2⟩ b3.1 q c
    exact h _ ⟨w, by clear q h g3 g2 c; grind⟩
theorem go_41l {N : Nat} {n L : Int32} {T : Nat → Int32} (b2 : 0 ≤ L ∧ L ≤ 4) (q : T L.toNatClampNeg ≤ T (L + 1).toNatClampNeg) (M : Nat) (l3 : Int32) (b3 : L < l3 ∧ l3 ≤ 5) : lfix (fun (K : Int32 × Int32 × (Nat → Int32) → Option (Int32 × (Nat → Int32))) (a : Int32 × Int32 × (Nat → Int32)) => fX4_goToNextTrial_41 N n (fun (l2 : Int32) (l3 : Int32) (v_trial : (Nat → Int32)) => K (l2, l3, v_trial)) a.1 a.2.1 a.2.2) M (L, l3, T) = lfix (fun (K : Int32 × Int32 × (Nat → Int32) → Option (Int32 × (Nat → Int32))) (a : Int32 × Int32 × (Nat → Int32)) => fX9_nextOrder_47 N n (fun (l1 : Int32) (l2 : Int32) (v_order : (Nat → Int32)) => K (l1, l2, v_order)) a.1 a.2.1 a.2.2) M (L, l3, T) :=
  lfix_bis (I := fun (a : Int32 × Int32 × (Nat → Int32)) => a.1 = L ∧ a.2.2 = T ∧ L < a.2.1 ∧ a.2.1 ≤ 5) (fun K K' h a i => by
    obtain ⟨x, y, t⟩ := a
    obtain ⟨i1, i2, i3⟩ := i
    have i1 : x = L := i1
    have i2 : t = T := i2
    subst i1
    subst i2
    exact go_41 b2 i3 q (fun c hc => h (x, c, t) ⟨rfl, rfl, hc⟩)) M _ ⟨rfl, rfl, b3⟩
theorem go_4 {N : Nat} {n l2 : Int32} {t : Nat → Int32} {K K' : Int32 → (Nat → Int32) → Option (Int32 × (Nat → Int32))} (hn : RB 1 6 n) (b : -1 ≤ l2 ∧ l2 + 2 ≤ n) (b4 : l2 ≤ 4) (h : ∀ c, (-1 ≤ c ∧ c + 2 ≤ n) ∧ c ≤ 4 → K c t = K' c t) : fX4_goToNextTrial_4 N n K l2 t = fX9_nextOrder_7 N n K' l2 t := by
  unfold fX4_goToNextTrial_4 fX9_nextOrder_7
  by_cases c0 : l2 < 0
  · have n0 : ¬ 0 ≤ l2 := by clear h b hn; grind
    rw [if_pos c0, if_pos c0, if_neg n0, if_neg n0]
  · have p0 : 0 ≤ l2 := by clear h b hn; grind
    have g2 : ¬ (l2 < 0 ∨ 6 ≤ l2.toNatClampNeg) := ng6 (by clear h b hn; grind)
    have g3 : ¬ ((l2 + 1) < 0 ∨ 6 ≤ (l2 + 1).toNatClampNeg) := ng6 (by clear h b hn g2; grind)
    rw [if_neg c0, if_neg c0, if_neg g2, if_neg g3, if_neg g2, if_neg g3]
    by_cases c : t l2.toNatClampNeg ≤ t (l2 + 1).toNatClampNeg
    · rw [if_pos c, if_pos c, if_pos p0, if_pos p0]
      exact go_41l ⟨p0, b4⟩ c _ _ ⟨by clear h g2 g3 c; grind, by clear h g2 g3 c; grind⟩
    · rw [if_neg c, if_neg c]
      exact h _ ⟨⟨by clear h g2 g3 c; grind, by clear h g2 g3 c; grind⟩, by clear h g2 g3 c; grind⟩
theorem go_eq {N : Nat} {n : Int32} {a : Nat → Int32} (hn : RB 1 6 n) : fX4_goToNextTrial N n a = fX9_nextOrder N n a := by
  unfold fX4_goToNextTrial fX9_nextOrder
  exact lfix_bis (I := fun (x : Int32 × (Nat → Int32)) => ((-1 ≤ x.1 ∧ x.1 + 2 ≤ n) ∧ x.1 ≤ 4) ∧ x.2 = a) (fun K K' h x i => by
    obtain ⟨l, t⟩ := x
    obtain ⟨i1, i2⟩ := i
    have i2 : t = a := i2
    subst i2
    exact go_4 hn i1.1 i1.2 (fun c hc => h (c, t) ⟨hc, rfl⟩)) N _ ⟨⟨by show -1 ≤ n - 2 ∧ n - 2 + 2 ≤ n; grind, by show n - 2 ≤ 4; grind⟩, rfl⟩
/-- cells from n on stay -/
def KP (n : Int32) (g a : Nat → Int32) : Prop := ∀ k : Nat, n.toInt ≤ k → a k = g k
theorem KP.rfl' {n : Int32} {a : Nat → Int32} : KP n a a := fun _ _ => rfl
theorem KP.put {n i j x y : Int32} {g a : Nat → Int32} (h : KP n g a) (hi : 0 ≤ i ∧ i < n) (hj : 0 ≤ j ∧ j < n) : KP n g (upd (upd a i.toNatClampNeg x) j.toNatClampNeg y) := fun k hk => by
  have t1 := tn_n hi
  have t2 := tn_n hj
  rw [pk_un (by omega), pk_un (by omega)]
  exact h k hk
theorem KP.idz {n : Int32} {g a : Nat → Int32} (h : KP n g a) (z : IDZ n g) : IDZ n a := fun k hk => (h k hk).trans (z k hk)
/-- wishes, on both sides -/
def WC (n m : Int32) (h p g W : Nat → Int32) : Prop := ∀ i : Nat, (i : Int) < m.toInt → (h i = W (3 * i) ∧ p i = W (3 * i + 1) ∧ g i = W (3 * i + 2)) ∧ 0 ≤ h i ∧ h i < n
theorem WC.hs {n m : Int32} {h p g W : Nat → Int32} (w : WC n m h p g W) : WHS n m h := fun i hi => (w i hi).2
theorem WC.hr {n n' m m' : Int32} {h p g W : Nat → Int32} (w : WC n m h p g W) (en : n = n') (em : m = m') : WHS n' m' (fun i => W (3 * i)) := fun i hi => by
  subst en
  subst em
  have q := w i hi
  show 0 ≤ W (3 * i) ∧ W (3 * i) < n
  rw [← q.1.1]
  exact q.2
theorem WC.z {n : Int32} {h p g W : Nat → Int32} : WC n 0 h p g W := fun i hi => absurd hi (by rw [z0]; omega)
theorem m_ix2 {m : Int32} (h : 0 ≤ m ∧ m ≤ 5) : ∃ j : Nat, j ≤ 5 ∧ m.toInt = j ∧ m.toNatClampNeg = j ∧ (m + 1).toInt = j + 1 ∧ (3 * m).toNatClampNeg = 3 * j ∧ (3 * m + 1).toNatClampNeg = 3 * j + 1 ∧ (3 * m + 2).toNatClampNeg = 3 * j + 2 := by
  rcases rb5 h with rfl | rfl | rfl | rfl | rfl | rfl
  · exact ⟨0, by decide, rfl, rfl, rfl, rfl, rfl, rfl⟩
  · exact ⟨1, by decide, rfl, rfl, rfl, rfl, rfl, rfl⟩
  · exact ⟨2, by decide, rfl, rfl, rfl, rfl, rfl, rfl⟩
  · exact ⟨3, by decide, rfl, rfl, rfl, rfl, rfl, rfl⟩
  · exact ⟨4, by decide, rfl, rfl, rfl, rfl, rfl, rfl⟩
  · exact ⟨5, by decide, rfl, rfl, rfl, rfl, rfl, rfl⟩
theorem WC.put {n m x y z : Int32} {h p g W : Nat → Int32} (w : WC n m h p g W) (hm : 0 ≤ m ∧ m ≤ 5) (hx : 0 ≤ x ∧ x < n) : WC n (m + 1) (upd h m.toNatClampNeg x) (upd p m.toNatClampNeg y) (upd g m.toNatClampNeg z) (upd (upd (upd W (3 * m).toNatClampNeg x) (3 * m + 1).toNatClampNeg y) (3 * m + 2).toNatClampNeg z) := fun i hi => by
  obtain ⟨j, hj, f1, f2, f3, f4, f5, f6⟩ := m_ix2 hm
  rw [f3] at hi
  rw [f2, f4, f5, f6]
  by_cases c : i = j
  · subst c
    have e1 : upd (upd (upd W (3 * i) x) (3 * i + 1) y) (3 * i + 2) z (3 * i) = x := by rw [pk_un (by omega), pk_un (by omega), pk_us]
    have e2 : upd (upd (upd W (3 * i) x) (3 * i + 1) y) (3 * i + 2) z (3 * i + 1) = y := by rw [pk_un (by omega), pk_us]
    have e3 : upd (upd (upd W (3 * i) x) (3 * i + 1) y) (3 * i + 2) z (3 * i + 2) = z := pk_us
    have q1 : upd h i x i = x := pk_us
    have q2 : upd p i y i = y := pk_us
    have q3 : upd g i z i = z := pk_us
    rw [e1, e2, e3, q1, q2, q3]
    exact ⟨⟨rfl, rfl, rfl⟩, hx⟩
  · have key : ∀ k : Nat, k ≠ 3 * j → k ≠ 3 * j + 1 → k ≠ 3 * j + 2 → upd (upd (upd W (3 * j) x) (3 * j + 1) y) (3 * j + 2) z k = W k := fun k k1 k2 k3 => by rw [pk_un k3, pk_un k2, pk_un k1]
    have q1 : upd h j x i = h i := pk_un c
    have q2 : upd p j y i = p i := pk_un c
    have q3 : upd g j z i = g i := pk_un c
    rw [key (3 * i) (by omega) (by omega) (by omega), key (3 * i + 1) (by omega) (by omega) (by omega), key (3 * i + 2) (by omega) (by omega) (by omega), q1, q2, q3]
    exact w i (by omega)
theorem WC.cong {n m m' : Int32} {h p g W h' p' g' W' : Nat → Int32} (w : WC n m h p g W) (em : m' = m) (hm : m ≤ 5) (e : CPS m h' p' g' h p g) (eW : C15 W' W) : WC n m' h' p' g' W' := fun i hi => by
  subst em
  have z5 : (5 : Int32).toInt = 5 := rfl
  rw [fa_le, z5] at hm
  have q := e i hi
  rw [q.1, q.2.1, q.2.2, eW (3 * i) (by omega), eW (3 * i + 1) (by omega), eW (3 * i + 2) (by omega)]
  exact w i hi
theorem lw_wish {n m m' M M' x y z : Int32} {h p g W h' p' g' W' : Nat → Int32} (w : WC n m h p g W) (em : m = M) (em' : m' = M') (hm : RB 0 5 m) (X : (m' = m + 1 ∧ h' = upd h m.toNatClampNeg x ∧ p' = upd p m.toNatClampNeg y ∧ g' = upd g m.toNatClampNeg z ∧ 0 ≤ x ∧ x < n) ∨ (m' = m ∧ h' = h ∧ p' = p ∧ g' = g)) (Y : (M' = M + 1 ∧ W' = upd (upd (upd W (3 * M).toNatClampNeg x) (3 * M + 1).toNatClampNeg y) (3 * M + 2).toNatClampNeg z) ∨ (M' = M ∧ W' = W)) : WC n m' h' p' g' W' := by
  subst em
  subst em'
  have ne : ¬ m + 1 = m := by clear X Y; grind
  rcases X with ⟨x1, x2, x3, x4, x5, x6⟩ | ⟨x1, x2, x3, x4⟩
  · rcases Y with ⟨y1, y2⟩ | ⟨y1, y2⟩
    · rw [x1, x2, x3, x4, y2]
      exact w.put hm ⟨x5, x6⟩
    · exact absurd (x1.symm.trans y1) ne
  · rcases Y with ⟨y1, y2⟩ | ⟨y1, y2⟩
    · exact absurd (y1.symm.trans x1) ne
    · rw [x1, x2, x3, x4, y2]
      exact w
theorem lw_wimage {hs HS ik ik' m km km' : Int32} {h p g W kh kp kg KW kh' kp' kg' KW' : Nat → Int32} (w1 : WC hs m h p g W) (w2 : ik = 0 ∨ WC hs km kh kp kg KW) (g2 : hs = HS) (hm : m ≤ 5) (q : hs = 0 ∧ ik' = ik ∧ km' = km ∨ hs ≠ 0 ∧ ik' = 1 ∧ km' = m) (i1 : hs ≠ 0 → CPS m kh' kp' kg' h p g) (i2 : hs = 0 → kh' = kh ∧ kp' = kp ∧ kg' = kg) (j1 : HS ≠ 0 → C15 KW' W) (j2 : HS = 0 → KW' = KW) : ik' = 0 ∨ WC hs km' kh' kp' kg' KW' := by
  subst g2
  rcases q with ⟨q1, q2, q3⟩ | ⟨q1, q2, q3⟩
  · obtain ⟨a1, a2, a3⟩ := i2 q1
    rw [q2, q3, a1, a2, a3, j2 q1]
    exact w2
  · exact Or.inr (w1.cong q3 hm (i1 q1) (j1 q1))
theorem lw_wrestore {hs ik ks sq m m' km : Int32} {h p g W h' p' g' W' kh kp kg KW : Nat → Int32} (w1 : WC hs m h p g W) (w2 : ik = 0 ∨ WC hs km kh kp kg KW) (k9 : ik ≠ 0 ↔ ks = sq) (hm : km ≤ 5) (q : ik = 0 ∧ m' = m ∨ ik ≠ 0 ∧ m' = km) (i1 : ik ≠ 0 → CPS km h' p' g' kh kp kg) (i2 : ik = 0 → h' = h ∧ p' = p ∧ g' = g) (j1 : ks = sq → C15 W' KW) (j2 : ks ≠ sq → W' = W) : WC hs m' h' p' g' W' := by
  rcases q with ⟨q1, q2⟩ | ⟨q1, q2⟩
  · obtain ⟨a1, a2, a3⟩ := i2 q1
    rw [q2, a1, a2, a3, j2 (fun z => (k9.mpr z) q1)]
    exact w1
  · exact (w2.resolve_left q1).cong q2 hm (i1 q1) (j1 (k9.mp q1))
theorem wc_sq {n n' m m' : Int32} {h p g W : Nat → Int32} (c : m' = 0 ∨ m' = m ∧ n' = n) (w : WC n m h p g W) : WC n' m' h p g W := by
  rcases c with c | c
  · rw [c]; exact WC.z
  · rw [c.1, c.2]; exact w
theorem wc_sq2 {n n' m ik ik' : Int32} {h p g W : Nat → Int32} (c : ik' = 0 ∨ ik' = ik ∧ n' = n) (w : ik = 0 ∨ WC n m h p g W) : ik' = 0 ∨ WC n' m h p g W := by
  rcases c with c | c
  · exact Or.inl c
  · rw [c.1, c.2]; exact w
theorem hw_eq {n m : Int32} {h p g W : Nat → Int32} (w : WC n m h p g W) : HW m h p g = HW m (fun i => W (3 * i)) (fun i => W (3 * i + 1)) (fun i => W (3 * i + 2)) := funext fun k => funext fun pl => sm_congr fun i hi => by
  have e := (w i (tn_ix hi)).1
  show (if g i = k ∧ pl (h i).toNatClampNeg = p i then (1 : Int32) else 0) = (if W (3 * i + 2) = k ∧ pl (W (3 * i)).toNatClampNeg = W (3 * i + 1) then (1 : Int32) else 0)
  rw [e.1, e.2.1, e.2.2]
theorem order_eq {N : Nat} {th hs HS a m M od OD r R : Int32} {kd KD h p g W b B : Nat → Int32} (g1 : th = hs) (g2 : hs = HS) (k6 : m = M) (hm : RB 0 5 m) (hn : RB 0 6 hs) (T6 : N6 kd = N6 KD) (w : WC hs m h p g W) (o1 : od = OD ∧ 0 ≤ OD ∧ OD ≤ 8)
    (x : ¬ (a = 0 ∨ 10 ≤ a ∧ a ≤ 15) ∧ r = -102 ∨ ((a = 0 ∨ 10 ≤ a ∧ a ≤ 15) ∧ ¬ (hs ≠ 0 ∧ od < 8)) ∧ r = -103 ∨ ((a = 0 ∨ 10 ≤ a ∧ a ≤ 15) ∧ (hs ≠ 0 ∧ od < 8)) ∧ r = oans a hs (os (fX9_nextOrder N th) (GG th (Nn th kd) (HW m h p g)) m ((720 : Int32)).toNatClampNeg (-1) (N6 b) id6))
    (y : ¬ (a = 0 ∨ 10 ≤ a ∧ a ≤ 15) ∧ R = -102 ∨ ((a = 0 ∨ 10 ≤ a ∧ a ≤ 15) ∧ ¬ (HS ≠ 0 ∧ OD < 8)) ∧ R = -103 ∨ ((a = 0 ∨ 10 ≤ a ∧ a ≤ 15) ∧ (HS ≠ 0 ∧ OD < 8)) ∧ R = oans a HS (osn (fX9_nextOrder N HS) (GG HS (Nn HS KD) (HW M (fun i => W (3 * i)) (fun i => W (3 * i + 1)) (fun i => W (3 * i + 2)))) 720 (-1) (N6 B) id6)) : r = R := by
  subst g1
  subst g2
  subst k6
  obtain ⟨o1, _⟩ := o1
  subst o1
  rcases x with ⟨x1, x2⟩ | ⟨⟨x1, x2⟩, x3⟩ | ⟨⟨x1, x2⟩, x3⟩
  · rcases y with ⟨y1, y2⟩ | ⟨⟨y1, y2⟩, y3⟩ | ⟨⟨y1, y2⟩, y3⟩
    · rw [x2, y2]
    · exact absurd y1 x1
    · exact absurd y1 x1
  · rcases y with ⟨y1, y2⟩ | ⟨⟨y1, y2⟩, y3⟩ | ⟨⟨y1, y2⟩, y3⟩
    · exact absurd x1 y1
    · rw [x3, y3]
    · exact absurd y2 x2
  · rcases y with ⟨y1, y2⟩ | ⟨⟨y1, y2⟩, y3⟩ | ⟨⟨y1, y2⟩, y3⟩
    · exact absurd x1 y1
    · exact absurd x2 y2
    · rw [x3, y3, Nn_N6 hn.2 T6, hw_eq w, os_osn (fun c => (GG_b hm c).2)]
      refine congrArg (oans a th) ?_
      refine osn_b0 719 (fun q => ?_)
      have gb := (GG_b (n := th) (kd := Nn th KD) (h := fun i => W (3 * i)) (p := fun i => W (3 * i + 1)) (g := fun i => W (3 * i + 2)) hm id6).1
      clear x1 x2 y1 y2 x3 y3
      grind
/-- the reference's wishes, three cells each -/
noncomputable def hf (W : Nat → Int32) (k : Int32) (pl : Nat → Int32) : Nat → Int32 := fun i => if W (3 * i + 2) = k ∧ pl (W (3 * i)).toNatClampNeg = W (3 * i + 1) then 1 else 0
def EVW (n : Int32) (kd : Nat → Int32) (H : Int32 → (Nat → Int32) → Int32) (m : Int32) (W : Nat → Int32) (l1 l2 l3 f d : Int32) (pl row : Nat → Int32) (X : Int32) : Prop := ∃ (x : Int32) (j : Nat), l3.toInt = 3 * j ∧ (j : Int) ≤ m.toInt ∧ l1 = x + sm (hf W l2 pl) j ∧ grn n kd H (41 - (l2 + 1)).toNatClampNeg (l2 + 1) (x + H l2 (Nn n pl)) (f, d, Nn n row, Nn n pl) = X
theorem ev_0 {n m l1 l2 f d X : Int32} {kd W pl row : Nat → Int32} {H : Int32 → (Nat → Int32) → Int32} {s : St} (V : grn n kd H (41 - l2).toNatClampNeg l2 l1 s = X) (c : (f, d, Nn n row, Nn n pl) = tnS n kd s) (q : 0 ≤ l2 ∧ l2 < 41) (hm : 0 ≤ m) : EVW n kd H m W l1 l2 0 f d pl row X := by
  have e : l1 = l1 + sm (hf W l2 pl) 0 := by
    show l1 = l1 + 0
    grind
  refine ⟨l1, 0, rfl, ?_, e, ?_⟩
  · rw [fa_le, z0] at hm
    omega
  · exact grn_step V c rfl q (by decide)
theorem ev_s {n m l1 l2 l3 f d X y : Int32} {kd W pl row : Nat → Int32} {H : Int32 → (Nat → Int32) → Int32} (V : EVW n kd H m W l1 l2 l3 f d pl row X) (b : 0 ≤ l3 ∧ l3 ≤ 12) (b1 : l3 < 3 * m) (hm : RB 0 5 m) (hy : y = if W (l3 + 2).toNatClampNeg = l2 ∧ pl (W l3.toNatClampNeg).toNatClampNeg = W (l3 + 1).toNatClampNeg then 1 else 0) : EVW n kd H m W (l1 + y) l2 (l3 + 3) f d pl row X := by
  obtain ⟨x, j, e1, e2, e3, e4⟩ := V
  obtain ⟨i, hi, f1, f2, f3, f4, f5, f6⟩ := m_ix2 hm
  have m3 : (3 * m).toInt = 3 * i := by
    have t := tnc (x := 3 * m) (by grind)
    omega
  rw [fa_lt, m3] at b1
  have z12 : (12 : Int32).toInt = 12 := rfl
  have bb := b
  rw [fa_le, fa_le, z0, z12] at bb
  have t0 := tnc b.1
  have t1 : (l3 + 1).toNatClampNeg = l3.toNatClampNeg + 1 := tn_s ⟨b.1, by grind⟩
  have t2 : (l3 + 2).toNatClampNeg = l3.toNatClampNeg + 2 := by
    have : l3 + 2 = (l3 + 1) + 1 := by grind
    rw [this, tn_s ⟨by grind, by grind⟩, t1]
  have t3 : (l3 + 3).toInt = l3.toInt + 3 := by
    have z3 : (3 : Int32).toInt = 3 := rfl
    rw [fb_addI (by omega) (by omega), z3]
  have k0 : l3.toNatClampNeg = 3 * j := by omega
  refine ⟨x, j + 1, by omega, by omega, ?_, e4⟩
  rw [e3, hy, t1, t2, k0]
  show x + sm (hf W l2 pl) j + _ = x + (sm (hf W l2 pl) j + hf W l2 pl j)
  have a : ∀ p q r : Int32, p + q + r = p + (q + r) := fun p q r => by grind
  rw [a]
  rfl
theorem ev_end {n m l1 l2 l3 f d X : Int32} {kd W pl row : Nat → Int32} (V : EVW n kd (HW m (fun i => W (3 * i)) (fun i => W (3 * i + 1)) (fun i => W (3 * i + 2))) m W l1 l2 l3 f d pl row X) (c : 3 * m ≤ l3) (hm : RB 0 5 m) (w : WHS n m (fun i => W (3 * i))) : grn n kd (HW m (fun i => W (3 * i)) (fun i => W (3 * i + 1)) (fun i => W (3 * i + 2))) (41 - (l2 + 1)).toNatClampNeg (l2 + 1) l1 (f, d, Nn n row, Nn n pl) = X := by
  obtain ⟨x, j, e1, e2, e3, e4⟩ := V
  obtain ⟨i, hi, f1, f2, f3, f4, f5, f6⟩ := m_ix2 hm
  have m3 : (3 * m).toInt = 3 * i := by
    have t := tnc (x := 3 * m) (by grind)
    omega
  rw [fa_le, m3, e1] at c
  have ej : j = m.toNatClampNeg := by omega
  rw [hw_nn w] at e4
  subst ej
  rw [e3]
  exact e4
/-- the greatest night -/
theorem ln_step {g : Nat → Int32} {x l : Int32} (e : LNT l g x) (hl : 0 ≤ l ∧ l ≤ 1000) : LNT (l + 1) g (if x < g l.toNatClampNeg then g l.toNatClampNeg else x) := fun i hi => by
  rw [add1 hl.1 hl.2] at hi
  have t := tnc hl.1
  by_cases q : i = l.toNatClampNeg
  · subst q
    generalize g l.toNatClampNeg = y
    by_cases c : x < y
    · rw [if_pos c]; grind
    · rw [if_neg c]; grind
  · have w := e i (by omega)
    generalize g l.toNatClampNeg = y
    generalize g i = v at w
    by_cases c : x < y
    · rw [if_pos c]; grind
    · rw [if_neg c]; exact w
theorem ln_end {g : Nat → Int32} {x l m : Int32} (e : LNT l g x) (c : m ≤ l) : LNT m g x := fun i hi => e i (by
  rw [fa_le] at c
  omega)
theorem sm_stepK {f : Nat → Int32} {x y l : Int32} (e : x = sm f l.toNatClampNeg) (hy : y = f l.toNatClampNeg) (hl : 0 ≤ l ∧ l ≤ 1000) : x + y = sm f (l + 1).toNatClampNeg := by
  rw [tn_s hl, e, hy]
  rfl
theorem sm_stepK0 {f : Nat → Int32} {x l : Int32} (e : x = sm f l.toNatClampNeg) (hy : f l.toNatClampNeg = 0) (hl : 0 ≤ l ∧ l ≤ 1000) : x = sm f (l + 1).toNatClampNeg := by
  rw [tn_s hl, e]
  show _ = sm f l.toNatClampNeg + f l.toNatClampNeg
  rw [hy]
  grind
theorem ok_be {ρ τ : Type} {P : ρ → Prop} {Q : τ → Prop} {o : Option τ} {f : τ → Option ρ} (h : Ok Q o) (k : ∀ r, o = some r → Q r → Ok P (f r)) : Ok P (o.bind f) := by
  obtain ⟨r, e, q⟩ := h
  rw [e]
  exact k r e q
theorem nw_r {n : Int32} {a row : Nat → Int32} (hp : PM n a) : RH n (fl n a row) := fun k hk => by
  unfold fl
  rw [if_pos hk]
  exact hp.1 k hk
theorem g_init9 {n f d m : Int32} {kd a row row0 pl pl0 : Nat → Int32} {H : Int32 → (Nat → Int32) → Int32} (hn : RB 1 6 n) (hp : PM n a) (e1 : f = n - 1 ∧ d = 0) (e2 : row = fl n a row0) (e3 : pl = plc a pl0 n.toNatClampNeg) : grn n kd H ((41 : Int32) - 1).toNatClampNeg 1 0 (f, d, Nn n row, Nn n pl) = GG n kd H a := by
  rw [bg_eq hn hp e1 e2 e3]
  rfl
theorem bm_y {G : (Nat → Int32) → Int32} {m x : Int32} {a b : Nat → Int32} (e : x = G a) (c : x ≤ m) : m = bm G m a ∧ b = bb G m b a := by
  subst e
  exact ⟨(if_pos c).symm, (if_pos c).symm⟩
theorem bm_n {G : (Nat → Int32) → Int32} {m x : Int32} {a b c2 : Nat → Int32} (e : x = G a) (c : ¬ x ≤ m) (e2 : c2 = N6 a) : x = bm G m a ∧ c2 = bb G m b a := by
  subst e
  subst e2
  exact ⟨(if_neg c).symm, (if_neg c).symm⟩
theorem z6_keep {n : Int32} {a : Nat → Int32} (h : IDZ n a) (hn : RB 1 6 n) : Z6 a := h.z hn.2
theorem ln_0 {g : Nat → Int32} {x : Int32} : LNT 0 g x := fun i hi => absurd hi (by rw [z0]; omega)
theorem id_ex {a : Nat → Int32} {l : Int32} (e : ∀ i : Nat, (i : Int) < l.toInt → a i = nI i) (c : 6 ≤ l) (z : Z6 a) : a = id6 := id6_eq (fun i hi => e i (by
  have z6 : (6 : Int32).toInt = 6 := rfl
  rw [fa_le, z6] at c
  omega)) z
theorem os_ini {nx : (Nat → Int32) → Option (Int32 × (Nat → Int32))} {G : (Nat → Int32) → Int32} {m : Int32} {a b b0 : Nat → Int32} (e : a = id6) (eb : b = b0) : ∃ i : Nat, i ≤ cn (lxn a) ∧ osn nx G (720 - i) m (N6 b) a = osn nx G 720 m (N6 b0) id6 := by
  subst e
  subst eb
  exact ⟨0, Nat.zero_le _, rfl⟩
theorem cps_cpy {m : Int32} {k : Nat} {h p g h' p' g' : Nat → Int32} (e : k = m.toNatClampNeg) : CPS m (va_cpy h h' 0 0 k) (va_cpy p p' 0 0 k) (va_cpy g g' 0 0 k) h p g := fun i hi => by
  have t : m.toNatClampNeg = m.toInt.toNat := rfl
  have q : i < k := by omega
  exact ⟨cpy_at q, cpy_at q, cpy_at q⟩
theorem wa_8 {n m m' x y z : Int32} {h p g h' p' g' : Nat → Int32} (X : (m' = m + 1 ∧ h' = upd h m.toNatClampNeg x ∧ p' = upd p m.toNatClampNeg y ∧ g' = upd g m.toNatClampNeg z) ∨ (m' = m ∧ h' = h ∧ p' = p ∧ g' = g)) (b : 0 ≤ x ∧ x < n) : (m' = m + 1 ∧ h' = upd h m.toNatClampNeg x ∧ p' = upd p m.toNatClampNeg y ∧ g' = upd g m.toNatClampNeg z ∧ 0 ≤ x ∧ x < n) ∨ (m' = m ∧ h' = h ∧ p' = p ∧ g' = g) := by
  rcases X with ⟨x1, x2, x3, x4⟩ | X
  · exact Or.inl ⟨x1, x2, x3, x4, b⟩
  · exact Or.inr X
