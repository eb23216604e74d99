/-! PURE: what the reference's ends rest on -/
theorem z0 : (0 : Int32).toInt = 0 := rfl
theorem tnc {x : Int32} (h : 0 ≤ x) : (x.toNatClampNeg : Int) = x.toInt := by
  have e : x.toNatClampNeg = x.toInt.toNat := rfl
  rw [fa_le, z0] at h
  omega
theorem tn_inj {x y : Int32} (h : 0 ≤ x) (g : 0 ≤ y) (e : x.toNatClampNeg = y.toNatClampNeg) : x = y := by
  have a := tnc h
  have b := tnc g
  rw [fa_eq]
  omega
/-- pigeonhole -/
theorem php : ∀ (n : Nat) (g : Nat → Nat), (∀ i, i ≤ n → g i < n) → ∃ i j, i < j ∧ j ≤ n ∧ g i = g j
  | 0, g, h => absurd (h 0 (Nat.le_refl 0)) (Nat.not_lt_zero _)
  | n + 1, g, h => by
    by_cases c : ∃ i, i ≤ n ∧ g i = g (n + 1)
    · obtain ⟨i, hi, e⟩ := c
      exact ⟨i, n + 1, by omega, Nat.le_refl _, e⟩
    · have hc : ∀ i, i ≤ n → g i ≠ g (n + 1) := fun i hi e => c ⟨i, hi, e⟩
      have hl := h (n + 1) (Nat.le_refl _)
      obtain ⟨i, j, hij, hj, e⟩ := php n (fun i => if g i < g (n + 1) then g i else g i - 1) (fun i hi => by
        have h1 := h i (by omega)
        have h2 := hc i hi
        show (if g i < g (n + 1) then g i else g i - 1) < n
        by_cases q : g i < g (n + 1)
        · rw [if_pos q]; omega
        · rw [if_neg q]; omega)
      refine ⟨i, j, hij, by omega, ?_⟩
      have h1 := hc i (by omega)
      have h2 := hc j hj
      have e : (if g i < g (n + 1) then g i else g i - 1) = (if g j < g (n + 1) then g j else g j - 1) := e
      by_cases q : g i < g (n + 1)
      · by_cases q2 : g j < g (n + 1)
        · rw [if_pos q, if_pos q2] at e; exact e
        · rw [if_pos q, if_neg q2] at e; omega
      · by_cases q2 : g j < g (n + 1)
        · rw [if_neg q, if_pos q2] at e; omega
        · rw [if_neg q, if_neg q2] at e; omega
/-- the row -/
def SJ (n : Int32) (a : Nat → Int32) : Prop := ∀ h : Int32, 0 ≤ h → h < n → ∃ k : Int32, (0 ≤ k ∧ k < n) ∧ a k.toNatClampNeg = h
def rotp (l : Int32) (a : Nat → Int32) : Nat → Int32 := fun k => if (k : Int) + 1 < l.toInt then a (k + 1) else a k
def rot (n : Int32) (a : Nat → Int32) : Nat → Int32 := fun k => if (k : Int) + 1 < n.toInt then a (k + 1) else if (k : Int) + 1 = n.toInt then a 0 else a k
theorem rotp_1 (a : Nat → Int32) : rotp 1 a = a := funext fun k => by
  unfold rotp
  rw [if_neg]
  show ¬ ((k : Int) + 1 < 1)
  omega
theorem sub1 {x : Int32} (h : 1 ≤ x) : (x - 1).toInt = x.toInt - 1 := by
  have o : (1 : Int32).toInt = 1 := rfl
  have b := fb_rng x
  rw [fa_le, o] at h
  rw [fb_subI (by omega) (by omega), o]
theorem add1 {x : Int32} (h : 0 ≤ x) (g : x ≤ 1000) : (x + 1).toInt = x.toInt + 1 := by
  have o : (1 : Int32).toInt = 1 := rfl
  have t : (1000 : Int32).toInt = 1000 := rfl
  rw [fa_le, z0] at h
  rw [fa_le, t] at g
  rw [fb_addI (by omega) (by omega), o]
theorem rotp_step {l : Int32} {a g : Nat → Int32} (h : 1 ≤ l ∧ l ≤ 6) (e : a = rotp l g) : upd a (l - 1).toNatClampNeg (a l.toNatClampNeg) = rotp (l + 1) g := by
  subst e
  have p1 : (0 : Int32) ≤ l := by grind
  have a1 := add1 (x := l) p1 (by grind)
  have s1 := sub1 h.1
  have t1 := tnc p1
  have t2 := tnc (x := l - 1) (by grind)
  have hh := h.1
  have o : (1 : Int32).toInt = 1 := rfl
  rw [fa_le, o] at hh
  funext k
  by_cases q : k = (l - 1).toNatClampNeg
  · subst q
    rw [pk_us]
    unfold rotp
    rw [if_neg (by omega), if_pos (by omega)]
    congr 1
    omega
  · rw [pk_un q]
    unfold rotp
    by_cases q2 : (k : Int) + 1 < l.toInt
    · rw [if_pos q2, if_pos (by omega)]
    · rw [if_neg q2, if_neg (by omega)]
theorem rotp_end {n l : Int32} {a g : Nat → Int32} (h : 1 ≤ n) (hl : l ≤ n ∧ n ≤ l) (e : a = rotp l g) : upd a (n - 1).toNatClampNeg (g 0) = rot n g := by
  have el : l = n := by grind
  subst el
  subst e
  have s1 := sub1 h
  have t2 := tnc (x := l - 1) (by grind)
  funext k
  by_cases q : k = (l - 1).toNatClampNeg
  · subst q
    rw [pk_us]
    unfold rot
    rw [if_neg (by omega), if_pos (by omega)]
  · rw [pk_un q]
    unfold rotp rot
    by_cases q2 : (k : Int) + 1 < l.toInt
    · rw [if_pos q2, if_pos q2]
    · rw [if_neg q2, if_neg q2, if_neg (by omega)]
theorem sj_rot {n : Int32} {a : Nat → Int32} (h : SJ n a) (hn : 1 ≤ n ∧ n ≤ 6) : SJ n (rot n a) := fun x h0 h1 => by
  obtain ⟨k, ⟨k0, k1⟩, e⟩ := h x h0 h1
  have hn1 := hn.1
  have o : (1 : Int32).toInt = 1 := rfl
  by_cases q : k = 0
  · subst q
    refine ⟨n - 1, ⟨by grind, by grind⟩, ?_⟩
    have s1 := sub1 hn.1
    have t2 := tnc (x := n - 1) (by grind)
    unfold rot
    rw [if_neg (by omega), if_pos (by omega)]
    exact e
  · refine ⟨k - 1, ⟨by grind, by grind⟩, ?_⟩
    have k2 : 1 ≤ k := by grind
    have s1 := sub1 k2
    have t2 := tnc (x := k - 1) (by grind)
    have t3 := tnc k0
    have k3 := k1
    rw [fa_lt] at k3
    unfold rot
    rw [if_pos (by omega)]
    have e2 : (k - 1).toNatClampNeg + 1 = k.toNatClampNeg := by omega
    rw [e2]
    exact e
theorem cpy_at {a b : Nat → Int32} {n k : Nat} (h : k < n) : va_cpy a b 0 0 n k = a k := by
  unfold va_cpy
  rw [if_pos (by omega), Nat.sub_zero, Nat.zero_add]
theorem tn_lt6 {k n : Int32} (h : 0 ≤ k ∧ k < n) (hn : n ≤ 6) : k.toNatClampNeg < 6 := by
  have t := tnc h.1
  have z6 : (6 : Int32).toInt = 6 := rfl
  have h2 := h.2
  rw [fa_lt] at h2
  rw [fa_le, z6] at hn
  omega
theorem sj_cpy {n : Int32} {a b : Nat → Int32} (h : SJ n a) (hn : n ≤ 6) : SJ n (va_cpy a b 0 0 6) := fun x h0 h1 => by
  obtain ⟨k, hk, e⟩ := h x h0 h1
  exact ⟨k, hk, by rw [cpy_at (tn_lt6 hk hn)]; exact e⟩
/-- wishes and sights: three cells each -/
def M3 (l : Int32) : Prop := l = 0 ∨ l = 3 ∨ l = 6 ∨ l = 9 ∨ l = 12 ∨ l = 15 ∨ l = 18
theorem M3.z : M3 0 := Or.inl rfl
theorem M3.s {l : Int32} (h : M3 l) (g : l < 18) : M3 (l + 3) := by
  unfold M3 at h ⊢
  grind
theorem M3.le {l : Int32} (h : M3 l) : (l < 15 → l ≤ 12) ∧ (l < 18 → l ≤ 15) := by
  unfold M3 at h
  grind
def W0 (a : Nat → Int32) : Prop := RB 0 5 (a 0) ∧ RB 0 5 (a 3) ∧ RB 0 5 (a 6) ∧ RB 0 5 (a 9) ∧ RB 0 5 (a 12)
theorem W0.rd {a : Nat → Int32} {l : Int32} (h : W0 a) (m : M3 l) (g : l < 15) : RB 0 5 (a l.toNatClampNeg) := by
  rcases m with rfl | rfl | rfl | rfl | rfl | rfl | rfl
  · exact h.1
  · exact h.2.1
  · exact h.2.2.1
  · exact h.2.2.2.1
  · exact h.2.2.2.2
  · exact absurd g (by decide)
  · exact absurd g (by decide)
theorem W0.cpy {a b : Nat → Int32} {n : Nat} (h : W0 a) (g : W0 b) : W0 (va_cpy a b 0 0 n) := by
  have key : ∀ k, RB 0 5 (a k) → RB 0 5 (b k) → RB 0 5 (va_cpy a b 0 0 n k) := fun k p q => by
    unfold va_cpy
    by_cases c : 0 ≤ k ∧ k < 0 + n
    · rw [if_pos c, Nat.sub_zero, Nat.zero_add]; exact p
    · rw [if_neg c]; exact q
  exact ⟨key _ h.1 g.1, key _ h.2.1 g.2.1, key _ h.2.2.1 g.2.2.1, key _ h.2.2.2.1 g.2.2.2.1, key _ h.2.2.2.2 g.2.2.2.2⟩
theorem rb5 {m : Int32} (h : 0 ≤ m ∧ m ≤ 5) : m = 0 ∨ m = 1 ∨ m = 2 ∨ m = 3 ∨ m = 4 ∨ m = 5 := by grind
theorem W0.put {a : Nat → Int32} {m x y z : Int32} (h : W0 a) (hm : 0 ≤ m ∧ m ≤ 4) (hx : RB 0 5 x) : W0 (upd (upd (upd a (3 * m).toNatClampNeg x) (3 * m + 1).toNatClampNeg y) (3 * m + 2).toNatClampNeg z) := by
  have key : ∀ (k i : Nat), RB 0 5 (a k) → k ≠ i + 1 → k ≠ i + 2 → RB 0 5 (upd (upd (upd a i x) (i + 1) y) (i + 2) z k) := fun k i p q1 q2 => by
    rw [pk_un q2, pk_un q1]
    by_cases c : k = i
    · subst c; rw [pk_us]; exact hx
    · rw [pk_un c]; exact p
  have fin : ∀ i : Nat, (i = 0 ∨ i = 3 ∨ i = 6 ∨ i = 9 ∨ i = 12) → W0 (upd (upd (upd a i x) (i + 1) y) (i + 2) z) := fun i hi =>
    ⟨key 0 i h.1 (by omega) (by omega), key 3 i h.2.1 (by omega) (by omega), key 6 i h.2.2.1 (by omega) (by omega), key 9 i h.2.2.2.1 (by omega) (by omega), key 12 i h.2.2.2.2 (by omega) (by omega)⟩
  rcases rb5 ⟨hm.1, by grind⟩ with rfl | rfl | rfl | rfl | rfl | rfl
  · exact fin 0 (by omega)
  · exact fin 3 (by omega)
  · exact fin 6 (by omega)
  · exact fin 9 (by omega)
  · exact fin 12 (by omega)
  · exact absurd hm.2 (by decide)
def SG (m : Int32) (a : Nat → Int32) : Prop := ∀ l : Int32, M3 l → l < 3 * m → RB 1 40 (a (l + 2).toNatClampNeg)
theorem SG.rd {a : Nat → Int32} {m l : Int32} (h : SG m a) (k : M3 l) (g : l < 3 * m) : RB 1 40 (a (l + 2).toNatClampNeg) := h l k g
theorem SG.zero {a : Nat → Int32} : SG 0 a := fun l k g => by
  exfalso
  rcases k with rfl | rfl | rfl | rfl | rfl | rfl | rfl <;> exact absurd g (by decide)
theorem m3_ix {l : Int32} (k : M3 l) : ∃ j : Nat, j ≤ 6 ∧ l.toInt = 3 * j ∧ (l + 2).toNatClampNeg = 3 * j + 2 := by
  rcases k with rfl | rfl | rfl | rfl | rfl | rfl | rfl
  · exact ⟨0, by decide, rfl, rfl⟩
  · exact ⟨1, by decide, rfl, rfl⟩
  · exact ⟨2, by decide, rfl, rfl⟩
  · exact ⟨3, by decide, rfl, rfl⟩
  · exact ⟨4, by decide, rfl, rfl⟩
  · exact ⟨5, by decide, rfl, rfl⟩
  · exact ⟨6, by decide, rfl, rfl⟩
theorem m_ix {m : Int32} (h : 0 ≤ m ∧ m ≤ 5) : ∃ j : Nat, j ≤ 5 ∧ (3 * m).toInt = 3 * j ∧ (3 * (m + 1)).toInt = 3 * j + 3 ∧ (3 * m).toNatClampNeg = 3 * j ∧ (3 * m + 1).toNatClampNeg = 3 * j + 1 ∧ (3 * m + 2).toNatClampNeg = 3 * j + 2 := by
  rcases rb5 h with rfl | rfl | rfl | rfl | rfl | rfl
  · exact ⟨0, by decide, rfl, rfl, rfl, rfl, rfl⟩
  · exact ⟨1, by decide, rfl, rfl, rfl, rfl, rfl⟩
  · exact ⟨2, by decide, rfl, rfl, rfl, rfl, rfl⟩
  · exact ⟨3, by decide, rfl, rfl, rfl, rfl, rfl⟩
  · exact ⟨4, by decide, rfl, rfl, rfl, rfl, rfl⟩
  · exact ⟨5, by decide, rfl, rfl, rfl, rfl, rfl⟩
theorem SG.put {a : Nat → Int32} {m x y z : Int32} (h : SG m a) (hm : 0 ≤ m ∧ m ≤ 5) (hz : RB 1 40 z) : SG (m + 1) (upd (upd (upd a (3 * m).toNatClampNeg x) (3 * m + 1).toNatClampNeg y) (3 * m + 2).toNatClampNeg z) := fun l k g => by
  obtain ⟨j, hj, e1, e2⟩ := m3_ix k
  obtain ⟨i, hi, f1, f2, f3, f4, f5⟩ := m_ix hm
  rw [fa_lt, f2, e1] at g
  rw [e2, f3, f4, f5]
  by_cases c : j = i
  · subst c; rw [pk_us]; exact hz
  · rw [pk_un (by omega), pk_un (by omega), pk_un (by omega), ← e2]
    exact h l k (by rw [fa_lt, e1, f1]; omega)
theorem SG.cpy {a b : Nat → Int32} {m : Int32} (h : SG m a) (hm : 0 ≤ m ∧ m ≤ 6) : SG m (va_cpy a b 0 0 18) := fun l k g => by
  obtain ⟨j, hj, e1, e2⟩ := m3_ix k
  have g2 : l < 18 := by grind
  have z : (18 : Int32).toInt = 18 := rfl
  rw [fa_lt, e1, z] at g2
  have r := h l k g
  rw [e2] at r ⊢
  rw [cpy_at (by omega)]
  exact r
/-- steps -/
def itr (f : Nat → Int32) : Nat → Int32 → Int32
  | 0, x => x
  | n + 1, x => itr f n (f x.toNatClampNeg)
theorem itr_s (f : Nat → Int32) : ∀ (n : Nat) (x : Int32), itr f (n + 1) x = f (itr f n x).toNatClampNeg
  | 0, x => rfl
  | n + 1, x => itr_s f n (f x.toNatClampNeg)
theorem itr_a (f : Nat → Int32) : ∀ (n m : Nat) (x : Int32), itr f (n + m) x = itr f n (itr f m x)
  | n, 0, x => rfl
  | n, m + 1, x => itr_a f n m (f x.toNatClampNeg)
/-- what is left -/
def LFT (p t : Nat → Int32) (h : Int32) : Prop := p h.toNatClampNeg ≠ -1 ∧ t h.toNatClampNeg = -1
noncomputable def cl (p t : Nat → Int32) : Nat → Nat
  | 0 => 0
  | n + 1 => cl p t n + (if p n ≠ -1 ∧ t n = -1 then 1 else 0)
theorem cl_le (p t : Nat → Int32) : ∀ n, cl p t n ≤ n
  | 0 => Nat.le_refl 0
  | n + 1 => by
    have := cl_le p t n
    unfold cl
    by_cases c : p n ≠ -1 ∧ t n = -1
    · rw [if_pos c]; omega
    · rw [if_neg c]; omega
theorem cl_pos {p t : Nat → Int32} : ∀ {n : Nat}, 0 < cl p t n → ∃ k, k < n ∧ p k ≠ -1 ∧ t k = -1
  | 0, h => absurd h (Nat.lt_irrefl 0)
  | n + 1, h => by
    unfold cl at h
    by_cases c : p n ≠ -1 ∧ t n = -1
    · exact ⟨n, by omega, c⟩
    · rw [if_neg c] at h
      obtain ⟨k, hk, q⟩ := cl_pos (n := n) h
      exact ⟨k, by omega, q⟩
theorem cl_mono {p t t' : Nat → Int32} : ∀ {n : Nat}, (∀ k, k < n → t' k = -1 → t k = -1) → cl p t' n ≤ cl p t n
  | 0, _ => Nat.le_refl 0
  | n + 1, h => by
    have ih := cl_mono (p := p) (n := n) (fun k hk => h k (by omega))
    unfold cl
    by_cases c : p n ≠ -1 ∧ t' n = -1
    · rw [if_pos c, if_pos ⟨c.1, h n (by omega) c.2⟩]; omega
    · rw [if_neg c]
      by_cases c2 : p n ≠ -1 ∧ t n = -1
      · rw [if_pos c2]; omega
      · rw [if_neg c2]; omega
theorem cl_lt {p t t' : Nat → Int32} : ∀ {n : Nat}, (∀ k, k < n → t' k = -1 → t k = -1) → (∃ k, k < n ∧ p k ≠ -1 ∧ t k = -1 ∧ t' k ≠ -1) → cl p t' n < cl p t n
  | 0, _, ⟨_, hk, _⟩ => absurd hk (Nat.not_lt_zero _)
  | n + 1, h, ⟨k, hk, q1, q2, q3⟩ => by
    have im := cl_mono (p := p) (n := n) (fun k hk => h k (by omega))
    by_cases e : k = n
    · subst e
      unfold cl
      rw [if_neg (fun c => q3 c.2), if_pos ⟨q1, q2⟩]
      omega
    · have ih := cl_lt (p := p) (n := n) (fun k hk => h k (by omega)) ⟨k, by omega, q1, q2, q3⟩
      unfold cl
      by_cases c : p n ≠ -1 ∧ t' n = -1
      · rw [if_pos c, if_pos ⟨c.1, h n (by omega) c.2⟩]; omega
      · rw [if_neg c]; omega
/-- orders -/
def IJ (a : Nat → Int32) : Prop := ∀ i j : Nat, i < 6 → j < 6 → a i = a j → i = j
theorem IJ.swap {a : Nat → Int32} {i j : Nat} (h : IJ a) (hi : i < 6) (hj : j < 6) : IJ (upd (upd a i (a j)) j (a i)) := fun x y hx hy e => by
  by_cases x1 : x = j
  · subst x1
    rw [pk_us] at e
    by_cases y1 : y = x
    · exact y1.symm
    · rw [pk_un y1] at e
      by_cases y2 : y = i
      · subst y2; rw [pk_us] at e; exact (h _ _ hi hj e).symm
      · rw [pk_un y2] at e; exact absurd (h _ _ hi hy e).symm y2
  · rw [pk_un x1] at e
    by_cases x2 : x = i
    · subst x2
      rw [pk_us] at e
      by_cases y1 : y = j
      · subst y1; rw [pk_us] at e; exact (h _ _ hj hi e).symm
      · rw [pk_un y1] at e
        by_cases y2 : y = x
        · exact y2.symm
        · rw [pk_un y2] at e; exact absurd (h _ _ hj hy e).symm y1
    · rw [pk_un x2] at e
      by_cases y1 : y = j
      · subst y1; rw [pk_us] at e; exact absurd (h _ _ hx hi e) x2
      · rw [pk_un y1] at e
        by_cases y2 : y = i
        · subst y2; rw [pk_us] at e; exact absurd (h _ _ hx hj e) x1
        · rw [pk_un y2] at e; exact h _ _ hx hy e
def lx (a : Nat → Int32) : Int32 := a 0 * 7776 + a 1 * 1296 + a 2 * 216 + a 3 * 36 + a 4 * 6 + a 5
theorem lx_r {a : Nat → Int32} (h : RA 0 5 a) : 0 ≤ lx a ∧ lx a ≤ 46655 := by
  have h0 := h 0
  have h1 := h 1
  have h2 := h 2
  have h3 := h 3
  have h4 := h 4
  have h5 := h 5
  unfold lx
  grind
def LXR (g : Nat → Int32) (k : Int32) (a : Nat → Int32) : Prop := (∀ i : Nat, (i : Int) < k.toInt → a i = g i) ∧ g k.toNatClampNeg < a k.toNatClampNeg
theorem lx_lt {g a : Nat → Int32} {k : Int32} (hg : RA 0 5 g) (ha : RA 0 5 a) (hk : 0 ≤ k ∧ k ≤ 4) (h : LXR g k a) : lx g < lx a := by
  have g0 := hg 0
  have g1 := hg 1
  have g2 := hg 2
  have g3 := hg 3
  have g4 := hg 4
  have g5 := hg 5
  have a0 := ha 0
  have a1 := ha 1
  have a2 := ha 2
  have a3 := ha 3
  have a4 := ha 4
  have a5 := ha 5
  obtain ⟨h1, h2⟩ := h
  unfold lx
  rcases rb5 ⟨hk.1, by grind⟩ with rfl | rfl | rfl | rfl | rfl | rfl
  · have h2 : g 0 < a 0 := h2
    clear h1; grind
  · have h2 : g 1 < a 1 := h2
    have e0 := h1 0 (by decide)
    clear h1; grind
  · have h2 : g 2 < a 2 := h2
    have e0 := h1 0 (by decide)
    have e1 := h1 1 (by decide)
    clear h1; grind
  · have h2 : g 3 < a 3 := h2
    have e0 := h1 0 (by decide)
    have e1 := h1 1 (by decide)
    have e2 := h1 2 (by decide)
    clear h1; grind
  · have h2 : g 4 < a 4 := h2
    have e0 := h1 0 (by decide)
    have e1 := h1 1 (by decide)
    have e2 := h1 2 (by decide)
    have e3 := h1 3 (by decide)
    clear h1; grind
  · exact absurd hk.2 (by decide)
theorem LXR.put {g a : Nat → Int32} {k l x : Int32} (h : LXR g k a) (hk : 0 ≤ k ∧ k < l) : LXR g k (upd a l.toNatClampNeg x) := by
  have t1 := tnc hk.1
  have t2 := tnc (x := l) (by grind)
  have h2 := hk.2
  rw [fa_lt] at h2
  refine ⟨fun i hi => ?_, ?_⟩
  · rw [pk_un (by omega)]; exact h.1 i hi
  · rw [pk_un (by omega)]; exact h.2
theorem LXR.new {g : Nat → Int32} {k l : Int32} (hk : 0 ≤ k ∧ k < l) (c : g k.toNatClampNeg < g l.toNatClampNeg) : LXR g k (upd (upd g k.toNatClampNeg (g l.toNatClampNeg)) l.toNatClampNeg (g k.toNatClampNeg)) := by
  have t1 := tnc hk.1
  have t2 := tnc (x := l) (by grind)
  have h2 := hk.2
  rw [fa_lt] at h2
  refine ⟨fun i hi => ?_, ?_⟩
  · rw [pk_un (by omega), pk_un (by omega)]
  · rw [pk_un (by omega), pk_us]; exact c
/-- the next plot, and pigeons -/
def nx (p : Int32) : Int32 := (p + 1) - (p + 1) / 12 * 12
def pos (p : Int32) : Nat → Int32
  | 0 => p
  | n + 1 => pos (nx p) n
theorem nx_i {p : Int32} (h : RB 0 11 p) : (nx p).toInt = (p.toInt + 1) % 12 ∧ RB 0 11 (nx p) := by
  have e := (mdc (x := p + 1) (c := 12) (by decide) (by grind)).1
  have a := add1 (x := p) h.1 (by grind)
  have z : (12 : Int32).toInt = 12 := rfl
  rw [a, z] at e
  have m := md12 (x := p + 1) (by grind)
  exact ⟨e, by unfold nx; grind⟩
theorem pos_i : ∀ (n : Nat) {p : Int32}, RB 0 11 p → (pos p n).toInt = (p.toInt + n) % 12 ∧ RB 0 11 (pos p n)
  | 0, p, h => by
    have h1 := h.1
    have h2 := h.2
    have z : (11 : Int32).toInt = 11 := rfl
    rw [fa_le, z0] at h1
    rw [fa_le, z] at h2
    exact ⟨by show p.toInt = _; omega, h⟩
  | n + 1, p, h => by
    have q := nx_i h
    have r := pos_i n q.2
    refine ⟨?_, r.2⟩
    show (pos (nx p) n).toInt = _
    rw [r.1, q.1]
    omega
def FR (n : Int32) (a : Nat → Int32) (q : Int32) : Prop := ∀ h : Int32, 0 ≤ h → h < n → a h.toNatClampNeg ≠ q
theorem free_in {n : Int32} {a : Nat → Int32} {p : Int32} (hp : RB 0 11 p) (hn : n ≤ 6) : ∃ s : Nat, 1 ≤ s ∧ s ≤ 7 ∧ FR n a (pos p s) := by
  by_cases c : ∃ s : Nat, 1 ≤ s ∧ s ≤ 7 ∧ FR n a (pos p s)
  · exact c
  · exfalso
    have hh : ∀ s : Nat, s ≤ 6 → ∃ h : Int32, (0 ≤ h ∧ h < n) ∧ a h.toNatClampNeg = pos p (s + 1) := fun s hs => by
      have : ¬ FR n a (pos p (s + 1)) := fun q => c ⟨s + 1, by omega, by omega, q⟩
      unfold FR at this
      by_cases d : ∃ h : Int32, (0 ≤ h ∧ h < n) ∧ a h.toNatClampNeg = pos p (s + 1)
      · exact d
      · exact absurd (fun h h0 h1 e => d ⟨h, ⟨h0, h1⟩, e⟩) this
    have ch : ∃ g : Nat → Int32, ∀ s : Nat, s ≤ 6 → (0 ≤ g s ∧ g s < n) ∧ a (g s).toNatClampNeg = pos p (s + 1) := by
      have hb : ∀ (s : Nat) (hs : s ≤ 6), (fun s => if hs : s ≤ 6 then (hh s hs).choose else (0 : Int32)) s = (hh s hs).choose := fun s hs => dif_pos hs
      refine ⟨fun s => if hs : s ≤ 6 then (hh s hs).choose else 0, fun s hs => ?_⟩
      rw [hb s hs]
      exact (hh s hs).choose_spec
    obtain ⟨g, hg⟩ := ch
    obtain ⟨i, j, hij, hj, e⟩ := php 6 (fun s => (g s).toNatClampNeg) (fun s hs => tn_lt6 (hg s hs).1 hn)
    have e : (g i).toNatClampNeg = (g j).toNatClampNeg := e
    have q1 := (hg i (by omega)).2
    have q2 := (hg j hj).2
    rw [e, q2] at q1
    have r1 := (pos_i (i + 1) hp).1
    have r2 := (pos_i (j + 1) hp).1
    rw [← q1] at r1
    omega
theorem fr_0 {a : Nat → Int32} {q : Int32} : FR 0 a q := fun h h0 h1 => absurd h1 (by grind)
theorem fr_step {l q : Int32} {a : Nat → Int32} (e : FR l a q) (c : ¬ a l.toNatClampNeg = q) (hl : 0 ≤ l ∧ l ≤ 100) : FR (l + 1) a q := fun h h0 h1 => by
  by_cases k : h = l
  · subst k; exact c
  · exact e h h0 (by clear e c; grind)
theorem fr_end {l n q : Int32} {a : Nat → Int32} (e : FR l a q) (c : n ≤ l) : FR n a q := fun h h0 h1 => e h h0 (by clear e; grind)
theorem ij_id {l : Int32} {a : Nat → Int32} (e : ∀ i : Nat, (i : Int) < l.toInt → a i = nI i) (c : 6 ≤ l) : IJ a := fun i j hi hj q => by
  have z6 : (6 : Int32).toInt = 6 := rfl
  rw [fa_le, z6] at c
  rw [e i (by omega), e j (by omega), fa_eq] at q
  have r1 : (nI i).toInt = i := Int32.toInt_ofNat_of_lt (by omega)
  have r2 : (nI j).toInt = j := Int32.toInt_ofNat_of_lt (by omega)
  omega
theorem nI_tn {l : Int32} (h : 0 ≤ l) : nI l.toNatClampNeg = l := by
  have t := tnc h
  have b := fb_rng l
  rw [fa_eq]
  have r1 : (nI l.toNatClampNeg).toInt = l.toNatClampNeg := Int32.toInt_ofNat_of_lt (by omega)
  omega
theorem id_step {l : Int32} {a : Nat → Int32} (e : ∀ i : Nat, (i : Int) < l.toInt → a i = nI i) (hl : 0 ≤ l ∧ l ≤ 100) : ∀ i : Nat, (i : Int) < (l + 1).toInt → upd a l.toNatClampNeg l i = nI i := fun i hi => by
  have t := tnc hl.1
  rw [add1 hl.1 (by grind)] at hi
  by_cases q : i = l.toNatClampNeg
  · subst q; rw [pk_us, nI_tn hl.1]
  · rw [pk_un q]; exact e i (by omega)
theorem ij_lt {a : Nat → Int32} {k l : Int32} (h : IJ a) (hk : 0 ≤ k ∧ k < l) (hl : l ≤ 5) (c : a k.toNatClampNeg ≤ a l.toNatClampNeg) : a k.toNatClampNeg < a l.toNatClampNeg := by
  by_cases q : a k.toNatClampNeg = a l.toNatClampNeg
  · have := h _ _ (tn_lt6 (n := 6) (by grind) (by decide)) (tn_lt6 (n := 6) (by grind) (by decide)) q
    have e := tn_inj hk.1 (by grind) this
    grind
  · grind
theorem sj_id {l n : Int32} {a : Nat → Int32} (e : ∀ i : Nat, (i : Int) < l.toInt → a i = nI i) (c : n ≤ l) : SJ n a := fun h h0 h1 => by
  refine ⟨h, ⟨h0, h1⟩, ?_⟩
  have t := tnc h0
  rw [fa_le] at c
  rw [fa_lt] at h1
  rw [e _ (by omega), nI_tn h0]
theorem dv_h {s : Int32} (h : RB 0 32 s) (h18 : 18 ≤ s) : 2 ≤ (s - 12) / 3 ∧ (s - 12) / 3 ≤ 6 := by
  have hb : (6 : Int32) ≤ s - 12 ∧ s - 12 ≤ 20 := by grind
  have e := (mdc (x := s - 12) (c := 3) (by decide) (by grind)).2
  have z3 : (3 : Int32).toInt = 3 := rfl
  have z6 : (6 : Int32).toInt = 6 := rfl
  have z2 : (2 : Int32).toInt = 2 := rfl
  have z20 : (20 : Int32).toInt = 20 := rfl
  rw [fa_le, fa_le, z6, z20] at hb
  rw [z3] at e
  refine ⟨?_, ?_⟩
  · rw [fa_le, e, z2]; omega
  · rw [fa_le, e, z6]; omega
theorem sqr_no1 {s : Int32} {a : Nat → Int32} (c : s < 18) : ¬ SQ s a := fun q => by
  have := q.1
  grind
theorem sqr_no2 {s : Int32} {a : Nat → Int32} (h : RB 0 32 s) (c : ¬ s < 18) (d : ¬ s - s / 3 * 3 = 0) : ¬ SQ s a := fun q => d ((m3_s (by grind) h.2).mp q.2.1)
theorem sqr_no3 {s r : Int32} {a : Nat → Int32} (h : FW s a r) (c : ¬ s ≤ r) : ¬ SQ s a := fun q => by
  have := h.uniq q.2.2
  grind
theorem sqr_yes {s r : Int32} {a : Nat → Int32} (h : RB 0 32 s) (c : ¬ s < 18) (d : s - s / 3 * 3 = 0) (g : FW s a r) (e : s ≤ r) : SQ s a := by
  have e2 : r = s := by
    have := g.1
    grind
  exact ⟨by grind, (m3_s (by grind) h.2).mpr d, e2 ▸ g⟩
/-- rings -/
def RG (f : Nat → Int32) (h r : Int32) : Prop := (r = 0 ∧ ∀ m : Nat, 1 ≤ m → m ≤ 7 → itr f m h ≠ h) ∨ ((1 ≤ r ∧ r ≤ 7) ∧ itr f r.toNatClampNeg h = h)
theorem tn_s {l : Int32} (h : 0 ≤ l ∧ l ≤ 1000) : (l + 1).toNatClampNeg = l.toNatClampNeg + 1 := by
  have a := add1 h.1 h.2
  have t := tnc h.1
  have t2 := tnc (x := l + 1) (by grind)
  omega
theorem rg_a {f : Nat → Int32} {h x l : Int32} (e : x = itr f l.toNatClampNeg h) (hl : 0 ≤ l ∧ l ≤ 100) : f x.toNatClampNeg = itr f (l + 1).toNatClampNeg h := by
  rw [tn_s ⟨hl.1, by grind⟩, itr_s, ← e]
theorem rg_b {f : Nat → Int32} {h x l : Int32} (e : x = itr f l.toNatClampNeg h) (g : ∀ m : Nat, 1 ≤ m → (m : Int) < l.toInt → itr f m h ≠ h) (c : ¬ x = h) (hl : 0 ≤ l ∧ l ≤ 100) : ∀ m : Nat, 1 ≤ m → (m : Int) < (l + 1).toInt → itr f m h ≠ h := fun m h1 h2 => by
  rw [add1 hl.1 (by grind)] at h2
  have t := tnc hl.1
  by_cases q : m = l.toNatClampNeg
  · subst q; rw [← e]; exact c
  · exact g m h1 (by omega)
theorem rg_0 {f : Nat → Int32} {h x l : Int32} (e : x = itr f l.toNatClampNeg h) (g : ∀ m : Nat, 1 ≤ m → (m : Int) < l.toInt → itr f m h ≠ h) (c : ¬ x = h) (hl : 7 ≤ l ∧ l ≤ 7) : RG f h 0 := Or.inl ⟨rfl, fun m h1 h2 => by
  have el : l = 7 := by grind
  subst el
  have z7 : (7 : Int32).toInt = 7 := rfl
  by_cases q : m = 7
  · subst q
    intro r
    exact c (e.trans r)
  · exact g m h1 (by omega)⟩
theorem rg_1 {f : Nat → Int32} {h x l : Int32} (e : x = itr f l.toNatClampNeg h) (c : x = h) (hl : 1 ≤ l ∧ l ≤ 7) : RG f h l := Or.inr ⟨hl, by rw [← e]; exact c⟩
def PTI (n : Int32) (p t : Nat → Int32) (b l : Int32) : Prop := b = -1 ∧ (∀ g : Int32, 0 ≤ g → g < l → ¬ LFT p t g) ∨ (0 ≤ b ∧ b < n) ∧ LFT p t b
theorem PTI.skip {n b l : Int32} {p t : Nat → Int32} (h : PTI n p t b l) (c : ¬ LFT p t l) (hl : 0 ≤ l ∧ l ≤ 100) : PTI n p t b (l + 1) := by
  rcases h with ⟨h1, h2⟩ | h
  · refine Or.inl ⟨h1, fun g g0 g1 => ?_⟩
    by_cases q : g = l
    · subst q; exact c
    · exact h2 g g0 (by clear h2; grind)
  · exact Or.inr h
theorem PTI.take {n l m : Int32} {p t : Nat → Int32} (c : LFT p t l) (hl : 0 ≤ l ∧ l < n) : PTI n p t l m := Or.inr ⟨hl, c⟩
theorem PTI.keep {n b l m : Int32} {p t : Nat → Int32} (h : PTI n p t b l) (c : ¬ b = -1) : PTI n p t b m := by
  rcases h with ⟨h1, h2⟩ | h
  · exact absurd h1 c
  · exact Or.inr h
theorem PTI.zero {n : Int32} {p t : Nat → Int32} : PTI n p t (-1) 0 := Or.inl ⟨rfl, fun g g0 g1 => absurd g1 (by grind)⟩
theorem PTI.fin {n b l : Int32} {p t : Nat → Int32} (h : PTI n p t b l) (c : n ≤ l) : PTI n p t b n := by
  rcases h with ⟨h1, h2⟩ | h
  · exact Or.inl ⟨h1, fun g g0 g1 => h2 g g0 (by clear h2; grind)⟩
  · exact Or.inr h
theorem clm_y {p t : Nat → Int32} {x l : Int32} (e : x = nI (cl p t l.toNatClampNeg)) (c : LFT p t l) (hl : 0 ≤ l ∧ l ≤ 100) : x + 1 = nI (cl p t (l + 1).toNatClampNeg) := by
  rw [tn_s ⟨hl.1, by grind⟩]
  unfold cl
  have c : p l.toNatClampNeg ≠ -1 ∧ t l.toNatClampNeg = -1 := c
  rw [if_pos c, e]
  have h1 := cl_le p t l.toNatClampNeg
  have t1 := tnc hl.1
  have h2 := hl.2
  have z : (100 : Int32).toInt = 100 := rfl
  rw [fa_le, z] at h2
  have r1 : (nI (cl p t l.toNatClampNeg)).toInt = cl p t l.toNatClampNeg := Int32.toInt_ofNat_of_lt (by omega)
  have r2 : (nI (cl p t l.toNatClampNeg + 1)).toInt = (cl p t l.toNatClampNeg + 1 : Nat) := Int32.toInt_ofNat_of_lt (by omega)
  have o : (1 : Int32).toInt = 1 := rfl
  rw [fa_eq, fb_addI (by omega) (by omega), r1, r2, o]
  omega
theorem clm_n {p t : Nat → Int32} {x l : Int32} (e : x = nI (cl p t l.toNatClampNeg)) (c : ¬ LFT p t l) (hl : 0 ≤ l ∧ l ≤ 100) : x + 0 = nI (cl p t (l + 1).toNatClampNeg) := by
  rw [tn_s ⟨hl.1, by grind⟩]
  unfold cl
  have c : ¬ (p l.toNatClampNeg ≠ -1 ∧ t l.toNatClampNeg = -1) := c
  rw [if_neg c, e, Nat.add_zero]
  grind
theorem ring_in {n h0 : Int32} {p t f : Nat → Int32} (hn : n ≤ 6) (hf : ∀ h : Int32, 0 ≤ h → h < n → LFT p t h → (0 ≤ f h.toNatClampNeg ∧ f h.toNatClampNeg < n) ∧ LFT p t (f h.toNatClampNeg)) (h1 : 0 ≤ h0 ∧ h0 < n) (h2 : LFT p t h0) : ∃ (h : Int32) (m : Nat), (0 ≤ h ∧ h < n) ∧ LFT p t h ∧ 1 ≤ m ∧ m ≤ 6 ∧ itr f m h = h := by
  have all : ∀ i : Nat, (0 ≤ itr f i h0 ∧ itr f i h0 < n) ∧ LFT p t (itr f i h0) := fun i => by
    induction i with
    | zero => exact ⟨h1, h2⟩
    | succ i ih => rw [itr_s]; exact hf _ ih.1.1 ih.1.2 ih.2
  obtain ⟨i, j, hij, hj, e⟩ := php 6 (fun s => (itr f s h0).toNatClampNeg) (fun s _ => tn_lt6 (all s).1 hn)
  have e : itr f i h0 = itr f j h0 := tn_inj (all i).1.1 (all j).1.1 e
  refine ⟨itr f i h0, j - i, (all i).1, (all i).2, by omega, by omega, ?_⟩
  rw [← itr_a, show j - i + i = j by omega]
  exact e.symm
theorem pl_step {a : Nat → Int32} {k l h : Int32} (hx : a k.toNatClampNeg = h) (c : ¬ a l.toNatClampNeg = h) (hk : l ≤ k ∧ k < 6) : l + 1 ≤ k := by
  by_cases q : k = l
  · subst q; exact absurd hx c
  · grind
theorem od_lt {l r x y m : Int32} (c : ¬ l = 0) (hm : (if l = 0 then 0 else 46656 - x) = m) (hx : 0 ≤ x ∧ x ≤ 46655) (hy : 0 ≤ y ∧ y ≤ 46655) (h : r = 0 ∨ r = 1 ∧ x < y) : (if r = 0 then 0 else 46656 - y) < m := by
  rw [if_neg c] at hm
  subst hm
  rcases h with h | h
  · rw [if_pos h]; grind
  · rw [if_neg (by rw [h.1]; decide)]
    have := h.2
    clear h
    grind
theorem od_pos {l x m : Int32} (c : ¬ l = 0) (hm : (if l = 0 then 0 else 46656 - x) = m) (hx : 0 ≤ x ∧ x ≤ 46655) : 0 < m := by
  rw [if_neg c] at hm
  subst hm
  grind
theorem od_init {x : Int32} (hx : 0 ≤ x ∧ x ≤ 46655) : (if (1 : Int32) = 0 then 0 else 46656 - x) ≤ 49999 := by
  rw [if_neg (by decide)]
  grind
theorem no_step {a : Nat → Int32} {k l : Int32} (hk : 0 ≤ k ∧ k ≤ 4) (hl : 0 ≤ l ∧ l ≤ 5) (h : k < l) (h1 : a k.toNatClampNeg ≤ a (k + 1).toNatClampNeg) (h2 : ¬ a k.toNatClampNeg ≤ a l.toNatClampNeg) : k < l + -1 := by
  by_cases q : l = k + 1
  · subst q; exact absurd h1 h2
  · clear h1 h2; grind
