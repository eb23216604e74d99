/-! PURE: plain facts (fa_, fb_: out of kit/laws NUMBERS and COUNTS) -/
theorem fa_lt (a b : Int32) : a < b ↔ a.toInt < b.toInt := Int32.lt_iff_toInt_lt
theorem fa_le (a b : Int32) : a ≤ b ↔ a.toInt ≤ b.toInt := Int32.le_iff_toInt_le
theorem fa_eq (a b : Int32) : a = b ↔ a.toInt = b.toInt := Int32.toInt_inj.symm
theorem fa_lt64 (a b : Int64) : a < b ↔ a.toInt < b.toInt := Int64.lt_iff_toInt_lt
theorem fa_le64 (a b : Int64) : a ≤ b ↔ a.toInt ≤ b.toInt := Int64.le_iff_toInt_le
theorem fa_eq64 (a b : Int64) : a = b ↔ a.toInt = b.toInt := Int64.toInt_inj.symm
theorem fb_rng (x : Int32) : -2147483648 ≤ x.toInt ∧ x.toInt < 2147483648 := by
  have h1 := Int32.le_toInt x
  have h2 := Int32.toInt_lt x
  omega
theorem fb_bmod {z : Int} (h1 : -2147483648 ≤ z) (h2 : z < 2147483648) : z.bmod (2 ^ 32) = z := by
  rw [Int.bmod_eq_of_le (by omega) (by omega)]
theorem fb_addI {x y : Int32} (h1 : -2147483648 ≤ x.toInt + y.toInt) (h2 : x.toInt + y.toInt < 2147483648) : (x + y).toInt = x.toInt + y.toInt := by
  rw [Int32.toInt_add, fb_bmod h1 h2]
theorem fb_subI {x y : Int32} (h1 : -2147483648 ≤ x.toInt - y.toInt) (h2 : x.toInt - y.toInt < 2147483648) : (x - y).toInt = x.toInt - y.toInt := by
  rw [Int32.toInt_sub, fb_bmod h1 h2]
/-! Option -/
theorem ob {α β : Type} {x : Option α} {a : α} {f : α → Option β} {r : Option β} (h : x = some a) (h2 : f a = r) : x.bind f = r := by rw [h]; exact h2
theorem ifn {α : Type} {c : Prop} [Decidable c] {x y r : α} (h : ¬ c) (h2 : y = r) : (if c then x else y) = r := by rw [if_neg h]; exact h2
theorem ifp {α : Type} {c : Prop} [Decidable c] {x y r : α} (h : c) (h2 : x = r) : (if c then x else y) = r := by rw [if_pos h]; exact h2
/-! the reference's 'in' -/
theorem lgc_lt (x y : Int64) : lg_cmp x y < 0 ↔ x < y := by
  unfold lg_cmp
  by_cases h1 : x > y
  · rw [if_pos h1]
    exact ⟨fun h => absurd h (by decide), fun h => absurd h (lg_lt_not h1)⟩
  · rw [if_neg h1]
    by_cases h2 : x = y
    · rw [if_pos h2]
      exact ⟨fun h => absurd h (by decide), fun h => absurd h (by rw [h2, fa_lt64]; omega)⟩
    · rw [if_neg h2]
      refine ⟨fun _ => ?_, fun _ => by decide⟩
      have h3 : ¬ y < x := h1
      rw [fa_lt64] at h3 ⊢
      rw [fa_eq64] at h2
      omega
theorem lgc_gt (x y : Int64) : 0 < lg_cmp x y ↔ y < x := by
  unfold lg_cmp
  by_cases h1 : x > y
  · rw [if_pos h1]
    exact ⟨fun _ => h1, fun _ => by decide⟩
  · rw [if_neg h1]
    by_cases h2 : x = y
    · rw [if_pos h2]
      exact ⟨fun h => absurd h (by decide), fun h => absurd h h1⟩
    · rw [if_neg h2]
      exact ⟨fun h => absurd h (by decide), fun h => absurd h h1⟩
theorem in32 {N : Nat} {a lo hi : Int32} {l h : Int64} (e1 : lo.toInt64 = l) (e2 : hi.toInt64 = h) : fX9_in N (a.toInt64) l h = some (if lo ≤ a ∧ a ≤ hi then 1 else 0) := by
  subst e1
  subst e2
  unfold fX9_in
  have k1 : lg_cmp a.toInt64 lo.toInt64 < 0 ↔ ¬ lo ≤ a := by rw [lgc_lt, fa_lt64, fa_le, Int32.toInt_toInt64, Int32.toInt_toInt64]; omega
  have k2 : 0 < lg_cmp a.toInt64 hi.toInt64 ↔ ¬ a ≤ hi := by rw [lgc_gt, fa_lt64, fa_le, Int32.toInt_toInt64, Int32.toInt_toInt64]; omega
  by_cases c1 : lo ≤ a
  · rw [if_neg (fun q => (k1.mp q) c1)]
    by_cases c2 : a ≤ hi
    · rw [if_neg (fun q => (k2.mp q) c2), if_pos ⟨c1, c2⟩]
    · rw [if_pos (k2.mpr c2), if_neg (fun q => c2 q.2)]
  · rw [if_pos (k1.mpr c1), if_neg (fun q => c1 q.1)]
theorem in32n {N : Nat} {a lo hi : Int32} {l h : Int64} (e1 : lo.toInt64 = l) (e2 : hi.toInt64 = h) (hn : ¬ (lo ≤ a ∧ a ≤ hi)) : fX9_in N (a.toInt64) l h = some 0 := by rw [in32 e1 e2, if_neg hn]
theorem in32p {N : Nat} {a lo hi : Int32} {l h : Int64} (e1 : lo.toInt64 = l) (e2 : hi.toInt64 = h) (hp : lo ≤ a ∧ a ≤ hi) : fX9_in N (a.toInt64) l h = some 1 := by rw [in32 e1 e2, if_pos hp]
