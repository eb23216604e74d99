/-! PURE: the page's letters -/
def gd_ (p c : Int32) : Prop := (p < 12 ∧ 48 ≤ c ∧ c ≤ 57) ∨ (p = 12 ∧ c = 59) ∨ (12 < p ∧ p < 30 ∧ ((p - 12) - (p - 12) / 3 * 3 = 1 ∧ (c = 99 ∨ c = 101 ∨ c = 104 ∨ c = 115 ∨ c = 116) ∨ (p - 12) - (p - 12) / 3 * 3 = 2 ∧ 97 ≤ c ∧ c ≤ 108 ∨ (p - 12) - (p - 12) / 3 * 3 ≠ 1 ∧ (p - 12) - (p - 12) / 3 * 3 ≠ 2 ∧ c = 44))
def FW (s : Int32) (a : Nat → Int32) (r : Int32) : Prop := (0 ≤ r ∧ r ≤ s) ∧ (∀ i : Int32, 0 ≤ i → i < r → gd_ i (a i.toNatClampNeg)) ∧ (r = s ∨ ¬ gd_ r (a r.toNatClampNeg))
theorem fw_end {s l : Int32} {a : Nat → Int32} (h : 0 ≤ l ∧ l ≤ s) (e : ∀ i : Int32, 0 ≤ i → i < l → gd_ i (a i.toNatClampNeg)) (c : s ≤ l) : FW s a s := by
  have q : l = s := by grind
  subst q
  exact ⟨h, e, Or.inl rfl⟩
theorem fw_mid {s l : Int32} {a : Nat → Int32} (h : 0 ≤ l ∧ l ≤ s) (e : ∀ i : Int32, 0 ≤ i → i < l → gd_ i (a i.toNatClampNeg)) (c : ¬ gd_ l (a l.toNatClampNeg)) : FW s a l := ⟨h, e, Or.inr c⟩
theorem fw_step {l : Int32} {a : Nat → Int32} (e : ∀ i : Int32, 0 ≤ i → i < l → gd_ i (a i.toNatClampNeg)) (c : gd_ l (a l.toNatClampNeg)) (hl : 0 ≤ l ∧ l ≤ 100) : ∀ i : Int32, 0 ≤ i → i < l + 1 → gd_ i (a i.toNatClampNeg) := fun i h0 h1 => by
  by_cases q : i = l
  · subst q; exact c
  · exact e i h0 (by clear e c; grind)
theorem FW.uniq {s r r' : Int32} {a : Nat → Int32} (h : FW s a r) (h' : FW s a r') : r = r' := by
  obtain ⟨h1, h2, h3⟩ := h
  obtain ⟨g1, g2, g3⟩ := h'
  by_cases c1 : r < r'
  · have := g2 r h1.1 c1
    rcases h3 with h3 | h3
    · clear h2 g2; grind
    · exact absurd this h3
  · by_cases c2 : r' < r
    · have := h2 r' g1.1 c2
      rcases g3 with g3 | g3
      · clear h2 g2; grind
      · exact absurd this g3
    · clear h2 g2 h3 g3; grind
def SQ (s : Int32) (a : Nat → Int32) : Prop := 18 ≤ s ∧ (s - 12) - (s - 12) / 3 * 3 = 0 ∧ FW s a s
theorem sq_no1 {s : Int32} {a : Nat → Int32} (h : RB 0 32 s) (c : (s - 12) < 6) : ¬ SQ s a := fun q => by
  have := q.1
  grind
theorem sq_no2 {s : Int32} {a : Nat → Int32} (c : ¬ (s - 12) - (s - 12) / 3 * 3 = 0) : ¬ SQ s a := fun q => c q.2.1
theorem sq_no3 {s r : Int32} {a : Nat → Int32} (h : FW s a r) (c : ¬ r = s) : ¬ SQ s a := fun q => c (h.uniq q.2.2)
theorem sq_yes {s r : Int32} {a : Nat → Int32} (h : RB 0 32 s) (c : ¬ (s - 12) < 6) (c2 : (s - 12) - (s - 12) / 3 * 3 = 0) (g : FW s a r) (e : r = s) : SQ s a := ⟨by grind, c2, e ▸ g⟩
theorem gd_fit {p c : Int32} (h : RB 0 40 p) : gd_ p c ↔ (p < 12 ∧ 48 ≤ c ∧ c ≤ 57) ∨ (p = 12 ∧ c = 59) ∨ (12 < p ∧ p < 30 ∧ ((p - 12) - (p - 12) / 3 * 3 = 1 ∧ (c = 99 ∨ c = 101 ∨ c = 104 ∨ c = 115 ∨ c = 116) ∨ (p - 12) - (p - 12) / 3 * 3 = 2 ∧ 97 ≤ c ∧ c ≤ 108 ∨ (p - 12) - (p - 12) / 3 * 3 ≠ 1 ∧ (p - 12) - (p - 12) / 3 * 3 ≠ 2 ∧ c = 44)) := Iff.rfl
theorem m3_all : ∀ j : Fin 31, 13 ≤ j.val → ((nI j.val - 13) - (nI j.val - 13) / 3 * 3 = 0 ↔ (nI j.val - 12) - (nI j.val - 12) / 3 * 3 = 1) ∧ ((nI j.val - 13) - (nI j.val - 13) / 3 * 3 = 1 ↔ (nI j.val - 12) - (nI j.val - 12) / 3 * 3 = 2) := by decide +kernel
theorem m3_eq {p : Int32} (h1 : 13 ≤ p) (h2 : p ≤ 30) : ((p - 13) - (p - 13) / 3 * 3 = 0 ↔ (p - 12) - (p - 12) / 3 * 3 = 1) ∧ ((p - 13) - (p - 13) / 3 * 3 = 1 ↔ (p - 12) - (p - 12) / 3 * 3 = 2) := by
  obtain ⟨j, hj, rfl⟩ := nI_of2 (x := p) (M := 30) (n := 30) rfl (by grind) h2
  refine m3_all ⟨j, by omega⟩ ?_
  have z : (13 : Int32).toInt = 13 := rfl
  have e : (nI j).toInt = j := Int32.toInt_ofNat_of_lt (by omega)
  rw [fa_le, z, e] at h1
  show 13 ≤ j
  omega
theorem m3_sq : ∀ j : Fin 33, (18 ≤ j.val) → ((nI j.val - 12) - (nI j.val - 12) / 3 * 3 = 0 ↔ nI j.val - nI j.val / 3 * 3 = 0) := by decide +kernel
theorem m3_s {p : Int32} (h1 : 18 ≤ p) (h2 : p ≤ 32) : ((p - 12) - (p - 12) / 3 * 3 = 0 ↔ p - p / 3 * 3 = 0) := by
  obtain ⟨j, hj, rfl⟩ := nI_of2 (x := p) (M := 32) (n := 32) rfl (by grind) h2
  refine m3_sq ⟨j, by omega⟩ ?_
  have z : (18 : Int32).toInt = 18 := rfl
  have e : (nI j).toInt = j := Int32.toInt_ofNat_of_lt (by omega)
  rw [fa_le, z, e] at h1
  show 18 ≤ j
  omega
def kc (a : Int32) : Int32 := if a = 99 then 4 else if a = 101 then 1 else if a = 104 then 0 else if a = 115 then 3 else if a = 116 then 2 else -1
theorem kc_ne (a : Int32) : kc a = -1 ↔ ¬ (a = 99 ∨ a = 101 ∨ a = 104 ∨ a = 115 ∨ a = 116) := by
  unfold kc
  grind
theorem fw_end' {s l : Int32} {a : Nat → Int32} (h : 0 ≤ l ∧ l ≤ s) (e : ∀ i : Int32, 0 ≤ i → i < l → gd_ i (a i.toNatClampNeg)) (c : s ≤ l) : FW s a l := by
  have q : l = s := by grind
  subst q
  exact ⟨h, e, Or.inl rfl⟩
theorem m3_l30 : ¬ ((30 : Int32) - 13) - (30 - 13) / 3 * 3 = 0 ∧ ¬ ((30 : Int32) - 13) - (30 - 13) / 3 * 3 = 1 := by decide +kernel
theorem m3_lt {p : Int32} (h1 : 13 ≤ p) (h2 : p ≤ 30) (c : (p - 13) - (p - 13) / 3 * 3 = 0 ∨ (p - 13) - (p - 13) / 3 * 3 = 1) : p < 30 := by
  by_cases q : p = 30
  · subst q
    rcases c with c | c
    · exact absurd c m3_l30.1
    · exact absurd c m3_l30.2
  · grind
