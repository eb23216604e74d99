/-! PURE: that an Option ends well (Ok), rows for it; ranges -/
def Ok {ρ : Type} (P : ρ → Prop) (o : Option ρ) : Prop := ∃ r, o = some r ∧ P r
theorem ok_s {ρ : Type} {P : ρ → Prop} {r : ρ} (h : P r) : Ok P (some r) := ⟨r, rfl, h⟩
theorem ok_b {ρ τ : Type} {P : ρ → Prop} {Q : τ → Prop} {o : Option τ} {f : τ → Option ρ} (h : Ok Q o) (k : ∀ r, Q r → Ok P (f r)) : Ok P (o.bind f) := by
  obtain ⟨r, e, q⟩ := h
  rw [e]
  exact k r q
theorem ok_if {ρ : Type} {P : ρ → Prop} {c : Prop} [Decidable c] {x y : Option ρ} (a : c → Ok P x) (b : ¬ c → Ok P y) : Ok P (if c then x else y) := by
  by_cases h : c
  · rw [if_pos h]; exact a h
  · rw [if_neg h]; exact b h
theorem ok_g {ρ : Type} {P : ρ → Prop} {c : Prop} [Decidable c] {x y : Option ρ} (h : ¬ c) (b : Ok P y) : Ok P (if c then x else y) := by rw [if_neg h]; exact b
theorem ok_n {ρ : Type} {P : ρ → Prop} {c : Prop} [Decidable c] {x y : Option ρ} (h : c) (b : Ok P x) : Ok P (if c then x else y) := by rw [if_pos h]; exact b
theorem ok_w {ρ : Type} {P Q : ρ → Prop} {o : Option ρ} (h : Ok P o) (k : ∀ r, P r → Q r) : Ok Q o := by
  obtain ⟨r, e, q⟩ := h
  exact ⟨r, e, k r q⟩
theorem tn_lt {a b : Int32} (h : a < b) (h0 : 0 < b) : a.toNatClampNeg < b.toNatClampNeg := by
  have e1 : a.toNatClampNeg = a.toInt.toNat := rfl
  have e2 : b.toNatClampNeg = b.toInt.toNat := rfl
  have z : (0 : Int32).toInt = 0 := rfl
  rw [fa_lt] at h h0
  rw [z] at h0
  omega
theorem tn_le {a : Int32} {n : Nat} (h : a ≤ 49999) (hn : 49999 < n) : a.toNatClampNeg < n := by
  have e1 : a.toNatClampNeg = a.toInt.toNat := rfl
  have z : (49999 : Int32).toInt = 49999 := rfl
  rw [fa_le, z] at h
  omega
theorem ok_l0 {α ρ : Type} {step : (α → Option ρ) → α → Option ρ} {P : ρ → Prop} {I : α → Prop} {M : α → Int32} (hs : ∀ (K : α → Option ρ) (a : α), I a → (∀ b, I b → M b < M a → 0 < M a → Ok P (K b)) → Ok P (step K a)) : ∀ (n : Nat) (a : α), I a → (M a).toNatClampNeg < n → Ok P (lfix step n a)
  | 0, _, _, h => absurd h (Nat.not_lt_zero _)
  | n + 1, a, hI, h => hs (lfix step n) a hI (fun b hb hlt h0 => ok_l0 hs n b hb (Nat.lt_of_lt_of_le (tn_lt hlt h0) (Nat.lt_succ_iff.mp h)))
theorem ok_l {α ρ : Type} {step : (α → Option ρ) → α → Option ρ} {P : ρ → Prop} {I : α → Prop} {M : α → Int32} (hs : ∀ (K : α → Option ρ) (a : α), I a → (∀ b, I b → M b < M a → 0 < M a → Ok P (K b)) → Ok P (step K a)) (n : Nat) (a : α) (hI : I a) (hN : 49999 < n) (hM : M a ≤ 49999) : Ok P (lfix step n a) := ok_l0 hs n a hI (tn_le hM hN)
def RA (lo hi : Int32) (a : Nat → Int32) : Prop := ∀ k, lo ≤ a k ∧ a k ≤ hi
abbrev RB (lo hi x : Int32) : Prop := lo ≤ x ∧ x ≤ hi
theorem RA.upd {lo hi v : Int32} {a : Nat → Int32} {i : Nat} (h : RA lo hi a) (hv : lo ≤ v ∧ v ≤ hi) : RA lo hi (upd a i v) := fun k => by
  by_cases e : k = i
  · subst e; rw [pk_us]; exact hv
  · rw [pk_un e]; exact h k
theorem RA.cpy {lo hi : Int32} {a b : Nat → Int32} {s d n : Nat} (h : RA lo hi a) (g : RA lo hi b) : RA lo hi (va_cpy a b s d n) := fun k => by
  unfold va_cpy
  by_cases e : d ≤ k ∧ k < d + n
  · rw [if_pos e]; exact h _
  · rw [if_neg e]; exact g k
theorem RA.mono {lo hi lo2 hi2 : Int32} {a : Nat → Int32} (h : RA lo hi a) (h1 : lo2 ≤ lo) (h2 : hi ≤ hi2) : RA lo2 hi2 a := fun k => by
  have := h k
  grind
theorem RA.zero {lo hi : Int32} (h : lo ≤ 0 ∧ 0 ≤ hi) : RA lo hi (fun _ => 0) := fun _ => h
theorem ngv {x c : Int32} {n : Nat} (hc : c.toInt ≤ n) (h : 0 ≤ x ∧ x < c) : ¬ (x < 0 ∨ n ≤ x.toNatClampNeg) := by
  have e : x.toNatClampNeg = x.toInt.toNat := rfl
  have z : (0 : Int32).toInt = 0 := rfl
  rw [fa_le, fa_lt, z] at h
  intro q
  rcases q with q | q
  · rw [fa_lt, z] at q; omega
  · rw [e] at q; omega
theorem ng5 {x : Int32} (h : 0 ≤ x ∧ x < 5) : ¬ (x < 0 ∨ 5 ≤ x.toNatClampNeg) := ngv (c := 5) (by decide) h
theorem ng6 {x : Int32} (h : 0 ≤ x ∧ x < 6) : ¬ (x < 0 ∨ 6 ≤ x.toNatClampNeg) := ngv (c := 6) (by decide) h
theorem ng12 {x : Int32} (h : 0 ≤ x ∧ x < 12) : ¬ (x < 0 ∨ 12 ≤ x.toNatClampNeg) := ngv (c := 12) (by decide) h
theorem ng15 {x : Int32} (h : 0 ≤ x ∧ x < 15) : ¬ (x < 0 ∨ 15 ≤ x.toNatClampNeg) := ngv (c := 15) (by decide) h
theorem ng18 {x : Int32} (h : 0 ≤ x ∧ x < 18) : ¬ (x < 0 ∨ 18 ≤ x.toNatClampNeg) := ngv (c := 18) (by decide) h
theorem ng32 {x : Int32} (h : 0 ≤ x ∧ x < 32) : ¬ (x < 0 ∨ 32 ≤ x.toNatClampNeg) := ngv (c := 32) (by decide) h
theorem ng41 {x : Int32} (h : 0 ≤ x ∧ x < 41) : ¬ (x < 0 ∨ 41 ≤ x.toNatClampNeg) := ngv (c := 41) (by decide) h
theorem ng200 {x : Int32} (h : 0 ≤ x ∧ x < 200) : ¬ (x < 0 ∨ 200 ≤ x.toNatClampNeg) := ngv (c := 200) (by decide) h
def NZ (n : Nat) (s : Int32) : Prop := 0 ≤ s ∧ s ≤ Int32.ofNat n ∧ n ≤ 200
theorem ofn {n : Nat} (h : n ≤ 200) : (Int32.ofNat n).toInt = n := Int32.toInt_ofNat_of_lt (by omega)
theorem ngz {x s : Int32} {n : Nat} (hz : NZ n s) (h : 0 ≤ x ∧ x < s) : ¬ (x < 0 ∨ n ≤ x.toNatClampNeg) := by
  refine ngv (c := s) ?_ h
  have h2 := hz.2.1
  rw [fa_le, ofn hz.2.2] at h2
  exact h2
theorem nz5 {s : Int32} (h : 0 ≤ s ∧ s ≤ 5) : NZ 5 s := ⟨h.1, h.2, by decide⟩
theorem nz6 {s : Int32} (h : 0 ≤ s ∧ s ≤ 6) : NZ 6 s := ⟨h.1, h.2, by decide⟩
theorem NZ.le {s : Int32} {n : Nat} (h : NZ n s) : 0 ≤ s ∧ s ≤ 200 := by
  refine ⟨h.1, ?_⟩
  have h2 := h.2.1
  have h3 := h.2.2
  have z : (200 : Int32).toInt = 200 := rfl
  rw [fa_le, ofn h3] at h2
  rw [fa_le, z]
  omega
theorem of6 : (Int32.ofNat 6 : Int32) = 6 := rfl
theorem of5 : (Int32.ofNat 5 : Int32) = 5 := rfl
theorem mdc {x c : Int32} (hc : 0 < c.toInt) (h : 0 ≤ x) : (x - x / c * c).toInt = x.toInt % c.toInt ∧ (x / c).toInt = x.toInt / c.toInt := by
  have a := x.toInt_lt
  have b := x.le_toInt
  have h0 : 0 ≤ x.toInt := by
    have z : (0 : Int32).toInt = 0 := rfl
    rw [fa_le, z] at h
    exact h
  have p1 : 0 ≤ x.toInt / c.toInt := Int.ediv_nonneg h0 (by omega)
  have p0 : x.toInt / c.toInt ≤ x.toInt := Int.ediv_le_self _ h0
  have e1 : (x / c).toInt = x.toInt / c.toInt := by rw [Int32.toInt_div, Int.tdiv_eq_ediv_of_nonneg h0, fb_bmod (by omega) (by omega)]
  have p2 : x.toInt / c.toInt * c.toInt ≤ x.toInt := Int.ediv_mul_le _ (by omega)
  have p3 : 0 ≤ x.toInt / c.toInt * c.toInt := Int.mul_nonneg p1 (by omega)
  have e2 : (x / c * c).toInt = x.toInt / c.toInt * c.toInt := by rw [Int32.toInt_mul, e1, fb_bmod (by omega) (by omega)]
  have e3 : (x - x / c * c).toInt = x.toInt - x.toInt / c.toInt * c.toInt := by rw [fb_subI (by rw [e2]; omega) (by rw [e2]; omega), e2]
  refine ⟨?_, e1⟩
  rw [e3, Int.mul_comm, ← Int.emod_def]
theorem md12 {x : Int32} (h : 0 ≤ x) : 0 ≤ x - x / 12 * 12 ∧ x - x / 12 * 12 < 12 := by
  have e := (mdc (c := 12) (by decide) h).1
  have z : (0 : Int32).toInt = 0 := rfl
  have z2 : (12 : Int32).toInt = 12 := rfl
  rw [fa_le, fa_lt, e, z, z2]
  omega
theorem md3 {x : Int32} (h : 0 ≤ x) : 0 ≤ x - x / 3 * 3 ∧ x - x / 3 * 3 < 3 := by
  have e := (mdc (c := 3) (by decide) h).1
  have z : (0 : Int32).toInt = 0 := rfl
  have z2 : (3 : Int32).toInt = 3 := rfl
  rw [fa_le, fa_lt, e, z, z2]
  omega
theorem md4 {x : Int32} (h : 0 ≤ x) : 0 ≤ x - x / 4 * 4 ∧ x - x / 4 * 4 < 4 := by
  have e := (mdc (c := 4) (by decide) h).1
  have z : (0 : Int32).toInt = 0 := rfl
  have z2 : (4 : Int32).toInt = 4 := rfl
  rw [fa_le, fa_lt, e, z, z2]
  omega
theorem bn_r {x : Int32} (h : 0 ≤ x ∧ x < 6) : 0 ≤ bn x.toNatClampNeg ∧ bn x.toNatClampNeg ≤ 5 := by
  have e : x.toNatClampNeg = x.toInt.toNat := rfl
  have z : (0 : Int32).toInt = 0 := rfl
  have z6 : (6 : Int32).toInt = 6 := rfl
  have z5 : (5 : Int32).toInt = 5 := rfl
  rw [fa_le, fa_lt, z, z6] at h
  have w : (bn x.toNatClampNeg).toInt = x.toInt := by
    show (Int32.ofNat x.toNatClampNeg).toInt = x.toInt
    rw [Int32.toInt_ofNat_of_lt (by omega)]
    omega
  rw [fa_le, fa_le, w, z, z5]
  omega
theorem ra_bn {b : Nat → Int32} (h : RA 0 5 b) : RA 0 5 (va_cpy bn b 0 0 ((6 : Int32)).toNatClampNeg) := fun k => by
  unfold va_cpy
  by_cases e : 0 ≤ k ∧ k < 0 + ((6 : Int32)).toNatClampNeg
  · rw [if_pos e]
    have e2 : k < 6 := e.2
    have : k = 0 ∨ k = 1 ∨ k = 2 ∨ k = 3 ∨ k = 4 ∨ k = 5 := by omega
    rcases this with rfl | rfl | rfl | rfl | rfl | rfl <;> exact ⟨by decide, by decide⟩
  · rw [if_neg e]; exact h k
theorem in_ok {N : Nat} {a lo hi : Int32} {l h : Int64} (e1 : lo.toInt64 = l) (e2 : hi.toInt64 = h) : Ok (fun r => r = 0 ∧ ¬ (lo ≤ a ∧ a ≤ hi) ∨ r = 1 ∧ lo ≤ a ∧ a ≤ hi) (fX9_in N (a.toInt64) l h) := by
  rw [in32 e1 e2]
  by_cases c : lo ≤ a ∧ a ≤ hi
  · rw [if_pos c]; exact ok_s (Or.inr ⟨rfl, c⟩)
  · rw [if_neg c]; exact ok_s (Or.inl ⟨rfl, c⟩)
theorem cp_ok {N n : Nat} {f g : Nat → Int32} (hN : 49999 < N) (hn : n ≤ 200) : Ok (fun r => r = va_cpy f g 0 0 n) (fX9_copy N n n f g) := by
  unfold fX9_copy
  refine ok_l (I := fun (a : Int32 × (Nat → Int32)) => 0 ≤ a.1.toInt ∧ a.1.toInt ≤ n ∧ ∀ k, a.2 k = if k < a.1.toInt.toNat then f k else g k) (M := fun (a : Int32 × (Nat → Int32)) => Int32.ofNat n - a.1) ?_ N _ ?_ hN ?_
  · intro K a hI hK
    obtain ⟨l, w⟩ := a
    obtain ⟨h0, h1, h2⟩ := hI
    have h2 : ∀ k, w k = if k < l.toInt.toNat then f k else g k := h2
    show Ok _ (fX9_copy_2 N n n f (fun l2 w1 => K (l2, w1)) l w)
    unfold fX9_copy_2
    have en := ofn hn
    have e : l.toNatClampNeg = l.toInt.toNat := rfl
    have z : (0 : Int32).toInt = 0 := rfl
    refine ok_if (fun c => ?_) (fun c => ?_)
    · rw [fa_le, en] at c
      refine ok_s (funext fun k => ?_)
      rw [h2 k]
      unfold va_cpy
      have h1' : l.toInt ≤ n := h1
      have h0' : 0 ≤ l.toInt := h0
      by_cases q : k < n
      · rw [if_pos (by show k < l.toInt.toNat; omega), if_pos (by omega), Nat.sub_zero, Nat.zero_add]
      · rw [if_neg (by show ¬ k < l.toInt.toNat; omega), if_neg (by omega)]
    · rw [fa_le, en] at c
      have h0' : 0 ≤ l.toInt := h0
      have gg : ¬ (l < 0 ∨ n ≤ l.toNatClampNeg) := by
        rw [fa_lt, z, e]; omega
      have a1 : (l + 1).toInt = l.toInt + 1 := fb_addI (y := 1) (by show _ ≤ l.toInt + 1; omega) (by show l.toInt + 1 < _; omega)
      refine ok_g gg (ok_g gg (hK (l + 1, _) ⟨?_, ?_, ?_⟩ ?_ ?_))
      · show 0 ≤ (l + 1).toInt; omega
      · show (l + 1).toInt ≤ n; omega
      · intro k
        show upd w l.toNatClampNeg (f l.toNatClampNeg) k = if k < (l + 1).toInt.toNat then f k else g k
        by_cases q : k = l.toNatClampNeg
        · subst q
          rw [pk_us, if_pos (by rw [e]; omega)]
        · rw [pk_un q, h2 k]
          by_cases q2 : k < l.toInt.toNat
          · rw [if_pos q2, if_pos (by omega)]
          · rw [if_neg q2, if_neg (by omega)]
      · show Int32.ofNat n - (l + 1) < Int32.ofNat n - l
        rw [fa_lt, fb_subI (by omega) (by omega), fb_subI (by omega) (by omega)]
        omega
      · show 0 < Int32.ofNat n - l
        rw [fa_lt, z, fb_subI (by omega) (by omega)]
        omega
  · refine ⟨?_, ?_, ?_⟩
    · show 0 ≤ (0 : Int32).toInt; decide
    · show (0 : Int32).toInt ≤ n; have z : (0 : Int32).toInt = 0 := rfl; omega
    · intro k; show g k = if k < (0 : Int32).toInt.toNat then f k else g k; exact (if_neg (Nat.not_lt_zero k)).symm
  · show Int32.ofNat n - 0 ≤ 49999
    have en := ofn hn
    have z : (0 : Int32).toInt = 0 := rfl
    have z9 : (49999 : Int32).toInt = 49999 := rfl
    rw [fa_le, fb_subI (by omega) (by omega), z9]
    omega
theorem ngy {s : Int32} {n : Nat} (hz : NZ n s) (h : s < Int32.ofNat n) : ¬ (s < 0 ∨ n ≤ s.toNatClampNeg) := ngv (c := Int32.ofNat n) (by rw [ofn hz.2.2]; omega) ⟨hz.1, h⟩
theorem ngc {s : Int32} {n m : Nat} (hz : NZ n s) (hy : NZ m s) : ¬ (s < 0 ∨ m < s.toNatClampNeg ∨ n < s.toNatClampNeg) := by
  have e : s.toNatClampNeg = s.toInt.toNat := rfl
  have z : (0 : Int32).toInt = 0 := rfl
  have h0 := hz.1
  have h1 := hz.2.1
  have h2 := hy.2.1
  rw [fa_le, z] at h0
  rw [fa_le, ofn hz.2.2] at h1
  rw [fa_le, ofn hy.2.2] at h2
  rw [fa_lt, z, e]
  omega
