/-! PURE: nights that are let run -/
noncomputable def rn (n : Int32) (kd : Nat → Int32) : Nat → (Int32 × Int32 × (Nat → Int32) × (Nat → Int32)) → (Int32 × Int32 × (Nat → Int32) × (Nat → Int32))
  | 0, s => s
  | k + 1, s => rn n kd k (tnS n kd s)
theorem cur_step {n n' f d f' d' : Int32} {kd kdn row pl row' pl' : Nat → Int32} (en : n' = n) (hn : RB 1 6 n') (hf : RB 0 11 f) (hr : RA 0 5 row) (e : N6 kd = N6 kdn) (h : (f', d', row', pl') = tnS n' kd (f, d, row, pl)) : (f', d', N6 row', N6 pl') = tnS n (N6 kdn) (f, d, N6 row, N6 pl) := by
  subst en
  rw [← e, tnS_N6 hn.2 hf hr, ← h]
theorem tn_sub {a l : Int32} (h : 0 ≤ l ∧ l < a) (ha : a ≤ 1000) : (a - l).toNatClampNeg = (a - (l + 1)).toNatClampNeg + 1 := by
  have e : a - l = (a - (l + 1)) + 1 := by grind
  rw [e, tn_s ⟨by grind, by grind⟩]
theorem tn_sub0 {a l : Int32} (h : a ≤ l) (hl : 0 ≤ l) (ha : 0 ≤ a) : (a - l).toNatClampNeg = 0 := by
  have t : (a - l).toNatClampNeg = (a - l).toInt.toNat := rfl
  have b := fb_rng l
  have e : (a - l).toInt = a.toInt - l.toInt := by
    rw [fa_le, z0] at hl ha
    rw [fa_le] at h
    exact fb_subI (by omega) (by omega)
  rw [fa_le] at h
  omega
theorem rn_step {n a l : Int32} {kd : Nat → Int32} {s s' X : Int32 × Int32 × (Nat → Int32) × (Nat → Int32)} (V : rn n kd (a - l).toNatClampNeg s = X) (c : s' = tnS n kd s) (h : 0 ≤ l ∧ l < a) (ha : a ≤ 1000) : rn n kd (a - (l + 1)).toNatClampNeg s' = X := by
  rw [c]
  rw [tn_sub h ha] at V
  exact V
theorem rn_end {n a l : Int32} {kd : Nat → Int32} {s X : Int32 × Int32 × (Nat → Int32) × (Nat → Int32)} (V : rn n kd (a - l).toNatClampNeg s = X) (h : a ≤ l) (hl : 0 ≤ l) (ha : 0 ≤ a) : s = X := by
  rw [tn_sub0 h hl ha] at V
  exact V
theorem sub_0 (a : Int32) : a - 0 = a := by grind
/-- a search through the nights: the first number at which a test holds -/
noncomputable def fnd (n : Int32) (kd : Nat → Int32) (t : Int32 → (Int32 × Int32 × (Nat → Int32) × (Nat → Int32)) → Prop) : Nat → Int32 → (Int32 × Int32 × (Nat → Int32) × (Nat → Int32)) → Int32
  | 0, _, _ => -1
  | f + 1, k, s => @ite _ (t k s) (Classical.propDecidable _) k (fnd n kd t f (k + 1) (tnS n kd s))
theorem fnd_y {n a l X : Int32} {kd : Nat → Int32} {t : Int32 → (Int32 × Int32 × (Nat → Int32) × (Nat → Int32)) → Prop} {s : Int32 × Int32 × (Nat → Int32) × (Nat → Int32)} (V : fnd n kd t (a - l).toNatClampNeg l s = X) (h : 0 ≤ l ∧ l < a) (ha : a ≤ 1000) (c : t l s) : l = X := by
  rw [tn_sub h ha] at V
  unfold fnd at V
  rw [if_pos c] at V
  exact V
theorem fnd_n {n a l X : Int32} {kd : Nat → Int32} {t : Int32 → (Int32 × Int32 × (Nat → Int32) × (Nat → Int32)) → Prop} {s s' : Int32 × Int32 × (Nat → Int32) × (Nat → Int32)} (V : fnd n kd t (a - l).toNatClampNeg l s = X) (h : 0 ≤ l ∧ l < a) (ha : a ≤ 1000) (c : ¬ t l s) (e : s' = tnS n kd s) : fnd n kd t (a - (l + 1)).toNatClampNeg (l + 1) s' = X := by
  rw [tn_sub h ha] at V
  unfold fnd at V
  rw [if_neg c] at V
  rw [e]
  exact V
theorem fnd_0 {n a l X : Int32} {kd : Nat → Int32} {t : Int32 → (Int32 × Int32 × (Nat → Int32) × (Nat → Int32)) → Prop} {s : Int32 × Int32 × (Nat → Int32) × (Nat → Int32)} (V : fnd n kd t (a - l).toNatClampNeg l s = X) (h : a ≤ l) (hl : 0 ≤ l) (ha : 0 ≤ a) : -1 = X := by
  rw [tn_sub0 h hl ha] at V
  exact V
theorem fnd_congr {n : Int32} {kd : Nat → Int32} {t u : Int32 → (Int32 × Int32 × (Nat → Int32) × (Nat → Int32)) → Prop} (h : ∀ k s, t k s ↔ u k s) : ∀ (f : Nat) (k : Int32) (s : Int32 × Int32 × (Nat → Int32) × (Nat → Int32)), fnd n kd t f k s = fnd n kd u f k s := by
  have e : t = u := funext fun k => funext fun s => propext (h k s)
  rw [e]
  intros
  rfl
/-- what is to be had in the nights to come -/
noncomputable def wil (n : Int32) (kd : Nat → Int32) (w : Nat → Int32) (h : Nat) : Nat → Int32 → (Int32 × Int32 × (Nat → Int32) × (Nat → Int32)) → Int32
  | 0, x, _ => x
  | k + 1, x, s => wil n kd w h k (x + wu w ((tnS n kd s).2.2.2 h)) (tnS n kd s)
theorem wil_step {n a l x y X : Int32} {kd w : Nat → Int32} {h : Nat} {s s' : Int32 × Int32 × (Nat → Int32) × (Nat → Int32)} (V : wil n kd w h (a - l).toNatClampNeg x s = X) (e : s' = tnS n kd s) (q : 0 ≤ l ∧ l < a) (ha : a ≤ 1000) (hy : y = wu w (s'.2.2.2 h)) : wil n kd w h (a - (l + 1)).toNatClampNeg (x + y) s' = X := by
  rw [tn_sub q ha] at V
  rw [hy, e]
  exact V
theorem wil_end {n a l x X : Int32} {kd w : Nat → Int32} {h : Nat} {s : Int32 × Int32 × (Nat → Int32) × (Nat → Int32)} (V : wil n kd w h (a - l).toNatClampNeg x s = X) (q : a ≤ l) (hl : 0 ≤ l) (ha : 0 ≤ a) : x = X := by
  rw [tn_sub0 q hl ha] at V
  exact V
/-- the way round -/
def wr (a b : Int32) : Int32 := if (a - b + 12) - (a - b + 12) / 12 * 12 ≤ 6 then (a - b + 12) - (a - b + 12) / 12 * 12 else 12 - ((a - b + 12) - (a - b + 12) / 12 * 12)
theorem wr_all : ∀ i j : Fin 12, wr (nI i.val) (nI j.val) = wr (nI j.val) (nI i.val) := by decide +kernel
theorem wr_sym {a b : Int32} (ha : RB 0 11 a) (hb : RB 0 11 b) : wr a b = wr b a := by
  obtain ⟨i, hi, rfl⟩ := nI_of2 (x := a) (M := 11) (n := 11) rfl (by grind) ha.2
  obtain ⟨j, hj, rfl⟩ := nI_of2 (x := b) (M := 11) (n := 11) rfl (by grind) hb.2
  exact wr_all ⟨i, by omega⟩ ⟨j, by omega⟩
theorem wy_all : ∀ i j : Fin 12, (if ((12 : Int32) - (if 0 ≤ (nI i.val - nI j.val) then (nI i.val - nI j.val) else 0 - (nI i.val - nI j.val))) < (if 0 ≤ (nI i.val - nI j.val) then (nI i.val - nI j.val) else 0 - (nI i.val - nI j.val)) then ((12 : Int32) - (if 0 ≤ (nI i.val - nI j.val) then (nI i.val - nI j.val) else 0 - (nI i.val - nI j.val))) else (if 0 ≤ (nI i.val - nI j.val) then (nI i.val - nI j.val) else 0 - (nI i.val - nI j.val))) = wr (nI i.val) (nI j.val) := by decide +kernel
theorem wy_eq {a b : Int32} (ha : RB 0 11 a) (hb : RB 0 11 b) : (if ((12 : Int32) - (if 0 ≤ (a - b) then (a - b) else 0 - (a - b))) < (if 0 ≤ (a - b) then (a - b) else 0 - (a - b)) then ((12 : Int32) - (if 0 ≤ (a - b) then (a - b) else 0 - (a - b))) else (if 0 ≤ (a - b) then (a - b) else 0 - (a - b))) = wr a b := by
  obtain ⟨i, hi, rfl⟩ := nI_of2 (x := a) (M := 11) (n := 11) rfl (by grind) ha.2
  obtain ⟨j, hj, rfl⟩ := nI_of2 (x := b) (M := 11) (n := 11) rfl (by grind) hb.2
  exact wy_all ⟨i, by omega⟩ ⟨j, by omega⟩
def nbT (a b : Nat) (pl : Nat → Int32) : Prop := pl a ≠ -1 ∧ pl b ≠ -1 ∧ wr (pl a) (pl b) = 1
theorem nbT_N6 {a b : Nat} {pl : Nat → Int32} (ha : a < 6) (hb : b < 6) : nbT a b (N6 pl) ↔ nbT a b pl := by
  unfold nbT
  rw [N6_at ha, N6_at hb]
def poT (h : Nat) (p k : Int32) (pl : Nat → Int32) : Prop := pl h ≠ -1 ∧ wr (pl h) p ≤ k
theorem poT_N6 {h : Nat} {p k : Int32} {pl : Nat → Int32} (hh : h < 6) : poT h p k (N6 pl) ↔ poT h p k pl := by
  unfold poT
  rw [N6_at hh]
/-- as it was -/
def like (n : Int32) (f d : Int32) (row pl : Nat → Int32) (F D : Int32) (ROW PL : Nat → Int32) : Prop := f = F ∧ d = D ∧ ∀ i : Nat, (i : Int) < n.toInt → pl i = PL i ∧ row i = ROW i
theorem like_N6 {n f d F D : Int32} {row pl ROW PL : Nat → Int32} (hn : n ≤ 6) : like n f d (N6 row) (N6 pl) F D (N6 ROW) (N6 PL) ↔ like n f d row pl F D ROW PL := by
  have z6 : (6 : Int32).toInt = 6 := rfl
  rw [fa_le, z6] at hn
  unfold like
  constructor
  · intro ⟨a, b, c⟩
    refine ⟨a, b, fun i hi => ?_⟩
    have := c i hi
    rw [N6_at (by omega), N6_at (by omega), N6_at (by omega), N6_at (by omega)] at this
    exact this
  · intro ⟨a, b, c⟩
    refine ⟨a, b, fun i hi => ?_⟩
    rw [N6_at (by omega), N6_at (by omega), N6_at (by omega), N6_at (by omega)]
    exact c i hi
theorem lt6 {a n : Int32} (h : 0 ≤ a ∧ a < n) (hn : n ≤ 6) : a.toNatClampNeg < 6 := tn_lt6 h hn
theorem rb_lt6 {a : Int32} (h : RB 0 5 a) : a.toNatClampNeg < 6 := tn_lt6 (n := 6) ⟨h.1, by grind⟩ (by decide)
theorem like_s {l f d F D : Int32} {row pl ROW PL : Nat → Int32} (hl : 0 ≤ l ∧ l ≤ 100) : like (l + 1) f d row pl F D ROW PL ↔ like l f d row pl F D ROW PL ∧ pl l.toNatClampNeg = PL l.toNatClampNeg ∧ row l.toNatClampNeg = ROW l.toNatClampNeg := by
  have t := tnc hl.1
  have ad := add1 hl.1 (by grind)
  unfold like
  constructor
  · intro ⟨a, b, c⟩
    exact ⟨⟨a, b, fun i hi => c i (by omega)⟩, c _ (by omega)⟩
  · intro ⟨⟨a, b, c⟩, e⟩
    refine ⟨a, b, fun i hi => ?_⟩
    by_cases q : i = l.toNatClampNeg
    · subst q; exact e
    · exact c i (by omega)
theorem like_0 {f d F D : Int32} {row pl ROW PL : Nat → Int32} : like 0 f d row pl F D ROW PL ↔ f = F ∧ d = D := by
  unfold like
  constructor
  · intro ⟨a, b, _⟩; exact ⟨a, b⟩
  · intro ⟨a, b⟩; exact ⟨a, b, fun i hi => absurd hi (by rw [z0]; omega)⟩
theorem lk_at {n f d F D l : Int32} {row pl ROW PL : Nat → Int32} (h : like n f d row pl F D ROW PL) (hl : 0 ≤ l ∧ l < n) : pl l.toNatClampNeg = PL l.toNatClampNeg ∧ row l.toNatClampNeg = ROW l.toNatClampNeg := h.2.2 _ (by
  have t := tnc hl.1
  have h2 := hl.2
  rw [fa_lt] at h2
  omega)
theorem like_end {n l f d F D : Int32} {row pl ROW PL : Nat → Int32} (q : l ≤ n ∧ n ≤ l) : like l f d row pl F D ROW PL ↔ like n f d row pl F D ROW PL := by
  have e : l = n := by grind
  rw [e]
theorem ag_n {n F D : Int32} {kd R P : Nat → Int32} {s s' : Int32 × Int32 × (Nat → Int32) × (Nat → Int32)} (cs : s' = tnS n kd s) (h : ¬ like n s'.1 s'.2.1 s'.2.2.1 s'.2.2.2 F D R P) : ¬ like n (tnS n kd s).1 (tnS n kd s).2.1 (tnS n kd s).2.2.1 (tnS n kd s).2.2.2 F D R P := by
  rw [← cs]; exact h
theorem ag_y {n F D : Int32} {kd R P : Nat → Int32} {s s' : Int32 × Int32 × (Nat → Int32) × (Nat → Int32)} (cs : s' = tnS n kd s) (h : like n s'.1 s'.2.1 s'.2.2.1 s'.2.2.2 F D R P) : like n (tnS n kd s).1 (tnS n kd s).2.1 (tnS n kd s).2.2.1 (tnS n kd s).2.2.2 F D R P := by
  rw [← cs]; exact h
def N12 (w : Nat → Int32) : Nat → Int32 := fun k => if k < 12 then w k else 0
theorem wu_12 {w : Nat → Int32} {p : Int32} (hp : -1 ≤ p ∧ p ≤ 11) : wu w p = wu (N12 w) p := by
  refine wu_eq (fun k hk => ?_) hp
  exact (if_pos hk).symm
theorem N12_eq {w W : Nat → Int32} (h : ∀ k : Nat, k < 12 → w k = W k) : N12 w = N12 W := funext fun k => by
  unfold N12
  by_cases c : k < 12
  · rw [if_pos c, if_pos c]; exact h k c
  · rw [if_neg c, if_neg c]
theorem wl_y {w pl : Nat → Int32} {y : Int32} {h : Nat} (e : y = wu w (pl h)) (hp : -1 ≤ pl h ∧ pl h ≤ 11) (hh : h < 6) : y = wu (N12 w) ((N6 pl) h) := by
  rw [e, N6_at hh]; exact wu_12 hp
theorem sm_12 {w pl : Nat → Int32} {n : Int32} (hp : RA (-1) 11 pl) (hn : n ≤ 6) (h0 : 0 ≤ n) : sm (fun k => wu w (pl k)) n.toNatClampNeg = sm (fun k => wu (N12 w) ((N6 pl) k)) n.toNatClampNeg := sm_congr fun k hk => by
  have := tn6 ⟨h0, hn⟩
  exact wl_y rfl (hp k) (by omega)
/-- years -/
def sd (x : Int32) : Int32 := (((((1103515245 : Int64) * ((x).toInt64)) + (12345 : Int64)) &&& (2147483647 : Int64))).toInt32
theorem sd_nn (x : Int32) : 0 ≤ sd x := by
  unfold sd
  generalize ((1103515245 : Int64) * ((x).toInt64)) + (12345 : Int64) = y
  have e : (y &&& (2147483647 : Int64)).toBitVec = y.toBitVec &&& (2147483647 : Int64).toBitVec := rfl
  have l : (y &&& (2147483647 : Int64)).toBitVec.toNat ≤ 2147483647 := by
    rw [e, BitVec.toNat_and]
    exact Nat.and_le_right
  have ti : (y &&& (2147483647 : Int64)).toInt = ((y &&& (2147483647 : Int64)).toBitVec.toNat : Int) := by
    show (y &&& (2147483647 : Int64)).toBitVec.toInt = _
    rw [BitVec.toInt_eq_toNat_cond, if_pos (by omega)]
  rw [fa_le, z0, Int64.toInt_toInt32, fb_bmod (by omega) (by omega), ti]
  omega
def snw (x : Int32) : Prop := (x / 65536) - (x / 65536) / 4 * 4 = 0
theorem snw_r {x : Int32} (h : 0 ≤ x) : snw x ↔ (x / 65536) - (x / 65536) / 4 * 4 ≤ 0 := by
  have e := (mdc (x := x) (c := 65536) (by decide) h).2
  have z : (65536 : Int32).toInt = 65536 := rfl
  have h0 : 0 ≤ x / 65536 := by
    have h2 := h
    rw [fa_le, z0] at h2
    rw [fa_le, z0, e, z]
    omega
  have m := md4 (x := x / 65536) h0
  unfold snw
  grind
noncomputable def yr (n : Int32) (kd w : Nat → Int32) (what : Int32) : Nat → Int32 → Int32 → Int32 → (Int32 × Int32 × (Nat → Int32) × (Nat → Int32)) → Int32
  | 0, seed, dry, wt, _ => if what = 0 then dry else if what = 1 then wt else seed
  | k + 1, seed, dry, wt, s => @ite _ (snw (sd seed)) (Classical.propDecidable _) (yr n kd w what k (sd seed) dry (wt + sm (fun j => wu w (s.2.2.2 j)) n.toNatClampNeg) s) (yr n kd w what k (sd seed) (dry + 1) (wt + sm (fun j => wu w ((tnS n kd s).2.2.2 j)) n.toNatClampNeg) (tnS n kd s))
theorem yr_snow {n a l seed dry wt y X what sn : Int32} {kd w : Nat → Int32} {s : Int32 × Int32 × (Nat → Int32) × (Nat → Int32)} (V : yr n kd w what (a - l).toNatClampNeg seed dry wt s = X) (q : 0 ≤ l ∧ l < a) (ha : a ≤ 1000) (es : sn = sd seed) (c : snw sn) (hy : y = sm (fun j => wu w (s.2.2.2 j)) n.toNatClampNeg) : yr n kd w what (a - (l + 1)).toNatClampNeg sn dry (wt + y) s = X := by
  subst es
  rw [tn_sub q ha] at V
  unfold yr at V
  rw [if_pos c] at V
  rw [hy]
  exact V
theorem yr_dry {n a l seed dry wt y X what sn : Int32} {kd w : Nat → Int32} {s s' : Int32 × Int32 × (Nat → Int32) × (Nat → Int32)} (V : yr n kd w what (a - l).toNatClampNeg seed dry wt s = X) (q : 0 ≤ l ∧ l < a) (ha : a ≤ 1000) (es : sn = sd seed) (c : ¬ snw sn) (e : s' = tnS n kd s) (hy : y = sm (fun j => wu w (s'.2.2.2 j)) n.toNatClampNeg) : yr n kd w what (a - (l + 1)).toNatClampNeg sn (dry + 1) (wt + y) s' = X := by
  subst es
  rw [tn_sub q ha] at V
  unfold yr at V
  rw [if_neg c] at V
  rw [hy, e]
  exact V
theorem yr_end {n a l seed dry wt X what : Int32} {kd w : Nat → Int32} {s : Int32 × Int32 × (Nat → Int32) × (Nat → Int32)} (V : yr n kd w what (a - l).toNatClampNeg seed dry wt s = X) (q : a ≤ l) (hl : 0 ≤ l) (ha : 0 ≤ a) : (if what = 0 then dry else if what = 1 then wt else seed) = X := by
  rw [tn_sub0 q hl ha] at V
  exact V
theorem run_key {th hs HS d f F D : Int32} {kd row pl so KD ROW PL : Nat → Int32} {G : Int32 → (Nat → Int32) → (Int32 × Int32 × (Nat → Int32) × (Nat → Int32)) → Int32} {r R : Int32} (g1 : th = hs) (g2 : hs = HS) (T1 : hs = 0 ∨ TWN th kd d row pl so) (T2 : TC f d F D row pl ROW PL) (T6 : N6 kd = N6 KD) (h0 : hs ≠ 0) (x : TWN th kd d row pl so → r = G th (N6 kd) (f, d, N6 row, N6 pl)) (y : 0 ≤ D ∧ D ≤ 2 → R = G HS (N6 KD) (F, D, N6 ROW, N6 PL)) : r = R := by
  obtain ⟨t1, t3, t4, t5⟩ := T2
  rw [x (T1.resolve_left h0), y t3.2, g1, g2, T6, t1, t3.1, t4, t5]
theorem run2 {th hs HS d f F D c : Int32} {kd row pl so KD ROW PL : Nat → Int32} (G : Int32 → (Nat → Int32) → (Int32 × Int32 × (Nat → Int32) × (Nat → Int32)) → Int32) {r R : Int32} {Z A Z' A' : Prop} (g1 : th = hs) (g2 : hs = HS) (T1 : hs = 0 ∨ TWN th kd d row pl so) (T2 : TC f d F D row pl ROW PL) (T6 : N6 kd = N6 KD) (h : (Z → ¬ A') ∧ (Z' → ¬ A) ∧ (A → hs ≠ 0)) (x : Z ∧ r = c ∨ A ∧ (TWN th kd d row pl so → r = G th (N6 kd) (f, d, N6 row, N6 pl))) (y : Z' ∧ R = c ∨ A' ∧ (0 ≤ D ∧ D ≤ 2 → R = G HS (N6 KD) (F, D, N6 ROW, N6 PL))) : r = R := by
  rcases x with ⟨x1, x2⟩ | ⟨x1, x2⟩
  · rcases y with ⟨y1, y2⟩ | ⟨y1, y2⟩
    · rw [x2, y2]
    · exact absurd y1 (h.1 x1)
  · rcases y with ⟨y1, y2⟩ | ⟨y1, y2⟩
    · exact absurd x1 (h.2.1 y1)
    · exact run_key g1 g2 T1 T2 T6 (h.2.2 x1) x2 y2
theorem run3 {th hs HS d f F D c c2 : Int32} {kd row pl so KD ROW PL : Nat → Int32} (G : Int32 → (Nat → Int32) → (Int32 × Int32 × (Nat → Int32) × (Nat → Int32)) → Int32) {r R : Int32} {Z Y A Z' Y' A' : Prop} (g1 : th = hs) (g2 : hs = HS) (T1 : hs = 0 ∨ TWN th kd d row pl so) (T2 : TC f d F D row pl ROW PL) (T6 : N6 kd = N6 KD) (h : (Z → ¬ Y' ∧ ¬ A') ∧ (Y → ¬ Z' ∧ ¬ A') ∧ (A → ¬ Z' ∧ ¬ Y' ∧ hs ≠ 0)) (x : Z ∧ r = c ∨ Y ∧ r = c2 ∨ A ∧ (TWN th kd d row pl so → r = G th (N6 kd) (f, d, N6 row, N6 pl))) (y : Z' ∧ R = c ∨ Y' ∧ R = c2 ∨ A' ∧ (0 ≤ D ∧ D ≤ 2 → R = G HS (N6 KD) (F, D, N6 ROW, N6 PL))) : r = R := by
  rcases x with ⟨x1, x2⟩ | ⟨x1, x2⟩ | ⟨x1, x2⟩
  · rcases y with ⟨y1, y2⟩ | ⟨y1, y2⟩ | ⟨y1, y2⟩
    · rw [x2, y2]
    · exact absurd y1 (h.1 x1).1
    · exact absurd y1 (h.1 x1).2
  · rcases y with ⟨y1, y2⟩ | ⟨y1, y2⟩ | ⟨y1, y2⟩
    · exact absurd y1 (h.2.1 x1).1
    · rw [x2, y2]
    · exact absurd y1 (h.2.1 x1).2
  · rcases y with ⟨y1, y2⟩ | ⟨y1, y2⟩ | ⟨y1, y2⟩
    · exact absurd y1 (h.2.2 x1).1
    · exact absurd y1 (h.2.2 x1).2.1
    · exact run_key g1 g2 T1 T2 T6 (h.2.2 x1).2.2 x2 y2
