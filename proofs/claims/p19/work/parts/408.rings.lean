/-! PURE: rings, one by one or a round of them at once: the same -/
def rIt (F : Nat → Nat) : Nat → Nat → Nat
  | 0, x => x
  | i + 1, x => rIt F i (F x)
theorem rIt_s (F : Nat → Nat) : ∀ (i x : Nat), rIt F (i + 1) x = F (rIt F i x)
  | 0, _ => rfl
  | i + 1, x => rIt_s F i (F x)
theorem rIt_a (F : Nat → Nat) : ∀ (i j x : Nat), rIt F (i + j) x = rIt F i (rIt F j x)
  | _, 0, _ => rfl
  | i, j + 1, x => rIt_a F i j (F x)
def rOn (F : Nat → Nat) (h : Nat) : Prop := ∃ m, 1 ≤ m ∧ rIt F m h = h
def rOrb (F : Nat → Nat) (h x : Nat) : Prop := ∃ i, rIt F i h = x
def RNG (K : Nat → Nat → Int) (X : Nat → Prop) (F : Nat → Nat) (h : Nat) : Prop := rOn F h ∧ ∀ i, X (rIt F i h) ∧ ∀ g, X g → K (rIt F (i + 1) h) (rIt F i h) ≤ K g (rIt F i h)
def rRm (X : Nat → Prop) (F : Nat → Nat) (h : Nat) : Nat → Prop := fun x => X x ∧ ¬ rOrb F h x
def rWt (F : Nat → Nat) (h : Nat) : Nat := if F h = h then 0 else 1
def rRd (K : Nat → Nat → Int) : Nat → (Nat → Prop) → Nat → Prop
  | 0, X, w => (∀ x, ¬ X x) ∧ w = 0
  | k + 1, X, w => ∃ F h w', RNG K X F h ∧ rRd K k (rRm X F h) w' ∧ w = w' + rWt F h
theorem r_per {F : Nat → Nat} {h m : Nat} (e : rIt F m h = h) : ∀ (q c : Nat), rIt F (c + m * q) h = rIt F c h
  | 0, c => by rw [Nat.mul_zero, Nat.add_zero]
  | q + 1, c => by
    rw [Nat.mul_succ, ← Nat.add_assoc, rIt_a, e]
    exact r_per e q c
theorem r_back {F : Nat → Nat} {h : Nat} (o : rOn F h) (a c : Nat) : ∃ i, rIt F (a + i) h = rIt F c h := by
  obtain ⟨m, m1, e⟩ := o
  have le : 1 * a ≤ m * a := Nat.mul_le_mul_right a m1
  rw [Nat.one_mul] at le
  refine ⟨c + m * a - a, ?_⟩
  have q : a + (c + m * a - a) = c + m * a := by
    generalize m * a = b at le
    omega
  rw [q]
  exact r_per e a c
theorem r_meet {K : Nat → Nat → Int} {X : Nat → Prop} {F G : Nat → Nat} {h j a b : Nat} (inj : ∀ x g g', X x → X g → X g' → K g x = K g' x → g = g') (hF : RNG K X F h) (hG : RNG K X G j) (e : rIt F a h = rIt G b j) : ∀ i, rIt F (a + i) h = rIt G (b + i) j
  | 0 => e
  | i + 1 => by
    have ih := r_meet inj hF hG e i
    have p := hF.2 (a + i)
    have q := hG.2 (b + i)
    have p2 := (hF.2 (a + i + 1)).1
    have q2 := (hG.2 (b + i + 1)).1
    have l1 := p.2 _ q2
    have l2 := q.2 _ p2
    rw [← ih] at l2
    exact inj _ _ _ p.1 p2 q2 (Int.le_antisymm l1 l2)
theorem r_sub {K : Nat → Nat → Int} {X : Nat → Prop} {F G : Nat → Nat} {h j a b : Nat} (inj : ∀ x g g', X x → X g → X g' → K g x = K g' x → g = g') (hF : RNG K X F h) (hG : RNG K X G j) (e : rIt F a h = rIt G b j) (x : Nat) (o : rOrb F h x) : rOrb G j x := by
  obtain ⟨c, ec⟩ := o
  obtain ⟨i, ei⟩ := r_back hF.1 a c
  exact ⟨b + i, by rw [← r_meet inj hF hG e i, ei, ec]⟩
theorem r_one {F : Nat → Nat} {h : Nat} (e : F h = h) : ∀ i, rIt F i h = h
  | 0 => rfl
  | i + 1 => by
    show rIt F i (F h) = h
    rw [e]
    exact r_one e i
theorem r_wt1 {F G : Nat → Nat} {h j : Nat} (o : ∀ x, rOrb G j x → rOrb F h x) (e : F h = h) : G j = j := by
  obtain ⟨c, ec⟩ := o j ⟨0, rfl⟩
  obtain ⟨d, ed⟩ := o (G j) ⟨1, rfl⟩
  rw [r_one e] at ec ed
  rw [← ed, ec]
theorem r_wt {F G : Nat → Nat} {h j : Nat} (o : ∀ x, rOrb F h x ↔ rOrb G j x) : rWt F h = rWt G j := by
  unfold rWt
  by_cases c : F h = h
  · rw [if_pos c, if_pos (r_wt1 (fun x => (o x).mpr) c)]
  · rw [if_neg c, if_neg (fun q => c (r_wt1 (fun x => (o x).mp) q))]
theorem r_keep {K : Nat → Nat → Int} {X Y : Nat → Prop} {G : Nat → Nat} {j : Nat} (hG : RNG K X G j) (s : ∀ x, Y x → X x) (d : ∀ x, rOrb G j x → Y x) : RNG K Y G j := ⟨hG.1, fun i => ⟨d _ ⟨i, rfl⟩, fun g hg => (hG.2 i).2 g (s g hg)⟩⟩
/-- how many -/
noncomputable def ct (X : Nat → Prop) : Nat → Nat
  | 0 => 0
  | n + 1 => ct X n + @ite _ (X n) (Classical.propDecidable _) 1 0
theorem ct_y {X : Nat → Prop} {n : Nat} (h : X n) : ct X (n + 1) = ct X n + 1 := by
  show ct X n + @ite _ (X n) (Classical.propDecidable _) 1 0 = _
  rw [if_pos h]
theorem ct_n {X : Nat → Prop} {n : Nat} (h : ¬ X n) : ct X (n + 1) = ct X n := by
  show ct X n + @ite _ (X n) (Classical.propDecidable _) 1 0 = _
  rw [if_neg h]
  rfl
theorem ct_le {X : Nat → Prop} : ∀ n, ct X n ≤ n
  | 0 => Nat.le_refl 0
  | n + 1 => by
    have := ct_le (X := X) n
    by_cases c : X n
    · rw [ct_y c]; omega
    · rw [ct_n c]; omega
theorem ct_mono {X Y : Nat → Prop} : ∀ {n : Nat}, (∀ x, x < n → X x → Y x) → ct X n ≤ ct Y n
  | 0, _ => Nat.le_refl 0
  | n + 1, h => by
    have ih := ct_mono (X := X) (Y := Y) (n := n) (fun x hx => h x (by omega))
    by_cases c : X n
    · rw [ct_y c, ct_y (h n (by omega) c)]; omega
    · rw [ct_n c]
      by_cases d : Y n
      · rw [ct_y d]; omega
      · rw [ct_n d]; exact ih
theorem ct_lt {X Y : Nat → Prop} : ∀ {n : Nat}, (∀ x, x < n → X x → Y x) → (∃ x, x < n ∧ Y x ∧ ¬ X x) → ct X n < ct Y n
  | 0, _, ⟨_, hx, _⟩ => absurd hx (Nat.not_lt_zero _)
  | n + 1, h, ⟨x, hx, y1, y2⟩ => by
    have im := ct_mono (X := X) (Y := Y) (n := n) (fun x hx => h x (by omega))
    by_cases e : x = n
    · subst e
      rw [ct_n y2, ct_y y1]; omega
    · have ih := ct_lt (X := X) (Y := Y) (n := n) (fun x hx => h x (by omega)) ⟨x, by omega, y1, y2⟩
      by_cases c : X n
      · rw [ct_y c, ct_y (h n (by omega) c)]; omega
      · rw [ct_n c]
        by_cases d : Y n
        · rw [ct_y d]; omega
        · rw [ct_n d]; exact ih
theorem ct_0 {X : Nat → Prop} : ∀ {n : Nat}, ct X n = 0 → ∀ x, x < n → ¬ X x
  | 0, _, _, hx => absurd hx (Nat.not_lt_zero _)
  | n + 1, h, x, hx => by
    by_cases c : X n
    · rw [ct_y c] at h; omega
    · rw [ct_n c] at h
      by_cases e : x = n
      · rw [e]; exact c
      · exact ct_0 h x (by omega)
/-- who points where -/
def FTG (K : Nat → Nat → Int) (X : Nat → Prop) (F : Nat → Nat) : Prop := ∀ x, X x → X (F x) ∧ ∀ g, X g → K (F x) x ≤ K g x
theorem ft_in {K : Nat → Nat → Int} {X : Nat → Prop} {F : Nat → Nat} (h : FTG K X F) {x : Nat} (hx : X x) : ∀ i, X (rIt F i x)
  | 0 => hx
  | i + 1 => by
    rw [rIt_s]
    exact (h _ (ft_in h hx i)).1
theorem ft_rng {K : Nat → Nat → Int} {X : Nat → Prop} {F : Nat → Nat} (h : FTG K X F) {x : Nat} (hx : X x) (o : rOn F x) : RNG K X F x := ⟨o, fun i => ⟨ft_in h hx i, fun g hg => by
  rw [rIt_s]
  exact (h _ (ft_in h hx i)).2 g hg⟩⟩
/-- behind so many steps one is on a ring -/
theorem r_php {F : Nat → Nat} {n x : Nat} (b : ∀ i, rIt F i x < n) : ∃ m, 1 ≤ m ∧ m ≤ n ∧ ∀ c, n ≤ c → rIt F (c + m) x = rIt F c x := by
  obtain ⟨i, j, hij, hj, e⟩ := php n (fun i => rIt F i x) (fun i _ => b i)
  have e : rIt F i x = rIt F j x := e
  refine ⟨j - i, by omega, by omega, fun c hc => ?_⟩
  have e1 : c + (j - i) = (c - i) + j := by omega
  have e2 : c = (c - i) + i := by omega
  rw [e1, rIt_a, ← e, ← rIt_a, ← e2]
theorem r_on {F : Nat → Nat} {n x : Nat} (b : ∀ i, rIt F i x < n) : ∃ m, (1 ≤ m ∧ m ≤ n) ∧ rIt F m (rIt F n x) = rIt F n x := by
  obtain ⟨m, m1, m2, h⟩ := r_php b
  refine ⟨m, ⟨m1, m2⟩, ?_⟩
  rw [← rIt_a, Nat.add_comm]
  exact h n (Nat.le_refl n)
theorem r_small {F : Nat → Nat} {n x : Nat} (b : ∀ i, rIt F i x < n) (o : rOn F x) : ∃ m, (1 ≤ m ∧ m ≤ n) ∧ rIt F m x = x := by
  obtain ⟨m, m1, m2, h⟩ := r_php b
  refine ⟨m, ⟨m1, m2⟩, ?_⟩
  obtain ⟨q, hq⟩ := r_back o n 0
  have hq : rIt F (n + q) x = x := hq
  have w := h (n + q) (by omega)
  rw [hq, Nat.add_comm, rIt_a, hq] at w
  exact w
theorem r_min {K : Nat → Nat → Int} {X : Nat → Prop} (x : Nat) : ∀ (m : Nat), (∃ g, g < m ∧ X g) → ∃ g, X g ∧ ∀ g', g' < m → X g' → K g x ≤ K g' x
  | 0, ⟨_, hg, _⟩ => absurd hg (Nat.not_lt_zero _)
  | m + 1, ⟨g, hg, xg⟩ => by
    by_cases c : ∃ g, g < m ∧ X g
    · obtain ⟨g1, x1, l1⟩ := r_min x m c
      by_cases d : X m
      · by_cases l : K g1 x ≤ K m x
        · refine ⟨g1, x1, fun g' h' x' => ?_⟩
          by_cases e : g' = m
          · rw [e]; exact l
          · exact l1 g' (by omega) x'
        · refine ⟨m, d, fun g' h' x' => ?_⟩
          by_cases e : g' = m
          · rw [e]; exact Int.le_refl _
          · have := l1 g' (by omega) x'
            omega
      · refine ⟨g1, x1, fun g' h' x' => ?_⟩
        by_cases e : g' = m
        · rw [e] at x'; exact absurd x' d
        · exact l1 g' (by omega) x'
    · refine ⟨g, xg, fun g' h' x' => ?_⟩
      have e1 : g = m := by
        by_cases e : g = m
        · exact e
        · exact absurd ⟨g, by omega, xg⟩ c
      have e2 : g' = m := by
        by_cases e : g' = m
        · exact e
        · exact absurd ⟨g', by omega, x'⟩ c
      rw [e1, e2]
      exact Int.le_refl _
theorem r_ring {K : Nat → Nat → Int} {X : Nat → Prop} {n x : Nat} (b : ∀ x, X x → x < n) (hx : X x) : ∃ F h, RNG K X F h := by
  have mn : ∀ y, ∃ g, X g ∧ ∀ g', X g' → K g y ≤ K g' y := fun y => by
    obtain ⟨g, xg, l⟩ := r_min (K := K) (X := X) y n ⟨x, b x hx, hx⟩
    exact ⟨g, xg, fun g' x' => l g' (b g' x') x'⟩
  have ft : FTG K X (fun y => (mn y).choose) := fun y _ => (mn y).choose_spec
  have bb : ∀ i, rIt (fun y => (mn y).choose) i x < n := fun i => b _ (ft_in ft hx i)
  obtain ⟨m, mm, e⟩ := r_on bb
  exact ⟨_, _, ft_rng ft (ft_in ft hx n) ⟨m, mm.1, e⟩⟩
theorem rm_lt {K : Nat → Nat → Int} {X : Nat → Prop} {F : Nat → Nat} {h n : Nat} (b : ∀ x, X x → x < n) (r : RNG K X F h) : ct (rRm X F h) n < ct X n := ct_lt (fun _ _ hx => hx.1) ⟨h, b h (r.2 0).1, (r.2 0).1, fun q => q.2 ⟨0, rfl⟩⟩
theorem r_ex {K : Nat → Nat → Int} {n : Nat} : ∀ (c : Nat) (X : Nat → Prop), (∀ x, X x → x < n) → ct X n ≤ c → ∃ k w, rRd K k X w
  | 0, X, b, h => ⟨0, 0, fun x hx => ct_0 (Nat.le_zero.mp h) x (b x hx) hx, rfl⟩
  | c + 1, X, b, h => by
    by_cases e : ∃ x, X x
    · obtain ⟨x, hx⟩ := e
      obtain ⟨F, y, r⟩ := r_ring (K := K) b hx
      have l := rm_lt b r
      obtain ⟨k, w, q⟩ := r_ex c (rRm X F y) (fun x hx => b x hx.1) (by omega)
      exact ⟨k + 1, _, F, y, w, r, q, rfl⟩
    · exact ⟨0, 0, fun x hx => e ⟨x, hx⟩, rfl⟩
theorem r_uniq {K : Nat → Nat → Int} {n : Nat} : ∀ (k : Nat) (X : Nat → Prop) (w k' w' : Nat), (∀ x, X x → x < n) → (∀ x g g', X x → X g → X g' → K g x = K g' x → g = g') → rRd K k X w → rRd K k' X w' → k = k' ∧ w = w'
  | 0, X, w, k', w', b, inj, r, r' => by
    obtain ⟨e, ew⟩ := r
    cases k' with
    | zero =>
      obtain ⟨_, e2⟩ := r'
      exact ⟨rfl, ew.trans e2.symm⟩
    | succ k' =>
      obtain ⟨F, h, _, hr, _⟩ := r'
      exact absurd (hr.2 0).1 (e _)
  | k + 1, X, w, k', w', b, inj, r, r' => by
    obtain ⟨F, h, w1, hF, r1, e1⟩ := r
    cases k' with
    | zero =>
      obtain ⟨e, _⟩ := r'
      exact absurd (hF.2 0).1 (e _)
    | succ j =>
      obtain ⟨G, g, w2, hG, r2, e2⟩ := r'
      have b1 : ∀ x, rRm X F h x → x < n := fun x hx => b x hx.1
      have b2 : ∀ x, rRm X G g x → x < n := fun x hx => b x hx.1
      have i1 : ∀ x y y', rRm X F h x → rRm X F h y → rRm X F h y' → K y x = K y' x → y = y' := fun x y y' p q s => inj x y y' p.1 q.1 s.1
      have i2 : ∀ x y y', rRm X G g x → rRm X G g y → rRm X G g y' → K y x = K y' x → y = y' := fun x y y' p q s => inj x y y' p.1 q.1 s.1
      by_cases c : ∃ x, rOrb F h x ∧ rOrb G g x
      · obtain ⟨x, ⟨a, ea⟩, ⟨d, ed⟩⟩ := c
        have o : ∀ y, rOrb F h y ↔ rOrb G g y := fun y => ⟨r_sub inj hF hG (ea.trans ed.symm) y, r_sub inj hG hF (ed.trans ea.symm) y⟩
        have ex : rRm X F h = rRm X G g := funext fun y => propext ⟨fun q => ⟨q.1, fun z => q.2 ((o y).mpr z)⟩, fun q => ⟨q.1, fun z => q.2 ((o y).mp z)⟩⟩
        rw [← ex] at r2
        have u := r_uniq k _ _ _ _ b1 i1 r1 r2
        refine ⟨by omega, ?_⟩
        rw [e1, e2, u.2, r_wt o]
      · have k1 : RNG K (rRm X F h) G g := r_keep hG (fun _ q => q.1) (fun x q => by
          obtain ⟨i, ei⟩ := q
          refine ⟨by rw [← ei]; exact (hG.2 i).1, fun z => c ⟨x, z, ⟨i, ei⟩⟩⟩)
        have k2 : RNG K (rRm X G g) F h := r_keep hF (fun _ q => q.1) (fun x q => by
          obtain ⟨i, ei⟩ := q
          refine ⟨by rw [← ei]; exact (hF.2 i).1, fun z => c ⟨x, ⟨i, ei⟩, z⟩⟩)
        have ex : rRm (rRm X F h) G g = rRm (rRm X G g) F h := funext fun y => propext ⟨fun q => ⟨⟨q.1.1, q.2⟩, q.1.2⟩, fun q => ⟨⟨q.1.1, q.2⟩, q.1.2⟩⟩
        obtain ⟨k3, w3, r3⟩ := r_ex (K := K) (n := n) _ (rRm (rRm X F h) G g) (fun x hx => b x hx.1.1) (Nat.le_refl _)
        have s1 : rRd K (k3 + 1) (rRm X F h) (w3 + rWt G g) := ⟨G, g, w3, k1, r3, rfl⟩
        have u1 := r_uniq k _ _ _ _ b1 i1 r1 s1
        have s2 : rRd K k (rRm X G g) (w3 + rWt F h) := by
          rw [u1.1]
          rw [ex] at r3
          exact ⟨F, h, w3, k2, r3, rfl⟩
        have u2 := r_uniq k _ _ _ _ b2 i2 s2 r2
        exact ⟨by omega, by omega⟩
/-- a round of rings at once -/
def rXj (X : Nat → Prop) (F : Nat → Nat) (j : Nat) : Nat → Prop := fun x => X x ∧ ¬ (rOn F x ∧ ∃ i, rIt F i x < j)
def rC (X : Nat → Prop) (F : Nat → Nat) : Nat → Prop := fun h => X h ∧ rOn F h ∧ F h ≠ h ∧ ∀ i, h ≤ rIt F i h
theorem r_on_s {F : Nat → Nat} {x : Nat} (o : rOn F x) (i : Nat) : rOn F (rIt F i x) := by
  obtain ⟨m, m1, e⟩ := o
  refine ⟨m, m1, ?_⟩
  rw [← rIt_a, Nat.add_comm, rIt_a, e]
theorem r_ret {F : Nat → Nat} {x : Nat} (o : rOn F x) (i : Nat) : ∃ c, rIt F c (rIt F i x) = x := by
  obtain ⟨q, hq⟩ := r_back o i 0
  have hq : rIt F (i + q) x = x := hq
  exact ⟨q, by rw [← rIt_a, Nat.add_comm]; exact hq⟩
theorem r_round {K : Nat → Nat → Int} {X : Nat → Prop} {F : Nat → Nat} (hF : FTG K X F) : ∀ (j k w : Nat), rRd K k (rXj X F j) w → ∃ k', rRd K k' X (w + ct (rC X F) j)
  | 0, k, w, r => by
    have e : rXj X F 0 = X := funext fun x => propext ⟨fun q => q.1, fun q => ⟨q, fun ⟨_, i, z⟩ => absurd z (Nat.not_lt_zero _)⟩⟩
    rw [e] at r
    exact ⟨k, r⟩
  | j + 1, k, w, r => by
    by_cases A : X j ∧ rOn F j ∧ ∀ i, j ≤ rIt F i j
    · obtain ⟨xj, oj, lj⟩ := A
      have ex : rXj X F (j + 1) = rRm (rXj X F j) F j := funext fun x => propext ⟨fun q => by
          refine ⟨⟨q.1, fun ⟨o, i, z⟩ => q.2 ⟨o, i, by omega⟩⟩, fun ⟨i, z⟩ => q.2 ?_⟩
          obtain ⟨c, hc⟩ := r_ret oj i
          rw [z] at hc
          exact ⟨by rw [← z]; exact r_on_s oj i, c, by omega⟩, fun q => by
          refine ⟨q.1.1, fun ⟨o, i, z⟩ => ?_⟩
          by_cases c : rIt F i x < j
          · exact q.1.2 ⟨o, i, c⟩
          · have e : rIt F i x = j := by omega
            obtain ⟨d, hd⟩ := r_ret o i
            rw [e] at hd
            exact q.2 ⟨d, hd⟩⟩
      have rg : RNG K (rXj X F j) F j := r_keep (ft_rng hF xj oj) (fun _ q => q.1) (fun x ⟨i, z⟩ => by
        refine ⟨by rw [← z]; exact ft_in hF xj i, fun ⟨_, c, y⟩ => ?_⟩
        rw [← z, ← rIt_a] at y
        have := lj (c + i)
        omega)
      rw [ex] at r
      have r2 : rRd K (k + 1) (rXj X F j) (w + rWt F j) := ⟨F, j, w, rg, r, rfl⟩
      obtain ⟨k', q⟩ := r_round hF j _ _ r2
      have ec : w + ct (rC X F) (j + 1) = w + rWt F j + ct (rC X F) j := by
        unfold rWt
        by_cases c : F j = j
        · rw [if_pos c, ct_n (fun z => z.2.2.1 c)]; omega
        · rw [if_neg c, ct_y ⟨xj, oj, c, lj⟩]; omega
      rw [ec]
      exact ⟨k', q⟩
    · have ex : rXj X F (j + 1) = rXj X F j := funext fun x => propext ⟨fun q => ⟨q.1, fun ⟨o, i, z⟩ => q.2 ⟨o, i, by omega⟩⟩, fun q => ⟨q.1, fun ⟨o, i, z⟩ => by
          by_cases c : rIt F i x < j
          · exact q.2 ⟨o, i, c⟩
          · have e : rIt F i x = j := by omega
            refine A ⟨by rw [← e]; exact ft_in hF q.1 i, by rw [← e]; exact r_on_s o i, fun d => ?_⟩
            by_cases c2 : rIt F d j < j
            · refine absurd ⟨o, d + i, ?_⟩ q.2
              rw [rIt_a, e]
              exact c2
            · omega⟩⟩
      rw [ex] at r
      obtain ⟨k', q⟩ := r_round hF j _ _ r
      rw [ct_n (fun z => A ⟨z.1, z.2.1, z.2.2.2⟩)]
      exact ⟨k', q⟩
theorem r_rnd {K : Nat → Nat → Int} {X Y : Nat → Prop} {F : Nat → Nat} {n k w : Nat} (b : ∀ x, X x → x < n) (hF : FTG K X F) (y : ∀ x, Y x ↔ X x ∧ ¬ rOn F x) (r : rRd K k Y w) : ∃ k', rRd K k' X (w + ct (rC X F) n) := by
  have e : Y = rXj X F n := funext fun x => propext ((y x).trans ⟨fun q => ⟨q.1, fun z => q.2 z.1⟩, fun q => ⟨q.1, fun z => q.2 ⟨z, 0, b x q.1⟩⟩⟩)
  rw [e] at r
  exact r_round hF n k w r
/-- houses as ints -/
def nF (f : Nat → Int32) : Nat → Nat := fun k => (f k).toNatClampNeg
theorem nF_e (f : Nat → Int32) (k : Nat) : nF f k = (f k).toNatClampNeg := rfl
theorem rIt_e (F : Nat → Nat) (i x : Nat) : rIt F (i + 1) x = rIt F i (F x) := rfl
theorem itr_e (f : Nat → Int32) (i : Nat) (x : Int32) : itr f (i + 1) x = itr f i (f x.toNatClampNeg) := rfl
theorem itr_n (f : Nat → Int32) (i : Nat) : ∀ (h : Int32), (itr f i h).toNatClampNeg = rIt (nF f) i h.toNatClampNeg := by
  induction i with
  | zero => intro h; rfl
  | succ i ih =>
    intro h
    rw [itr_e, rIt_e, ih, nF_e]
theorem itr_nn {f : Nat → Int32} (hr : RA 0 5 f) {h : Int32} (h0 : 0 ≤ h) : ∀ i, 0 ≤ itr f i h
  | 0 => h0
  | i + 1 => by
    rw [itr_s]
    exact (hr _).1
theorem itr_eq {f : Nat → Int32} (hr : RA 0 5 f) {h g : Int32} (h0 : 0 ≤ h) (g0 : 0 ≤ g) {i : Nat} : itr f i h = g ↔ rIt (nF f) i h.toNatClampNeg = g.toNatClampNeg := by
  rw [← itr_n]
  exact ⟨fun q => by rw [q], fun q => tn_inj (itr_nn hr h0 i) g0 q⟩
def kq (pl lk : Nat → Int32) (g h : Nat) : Int := ((12 : Int32) * wr (pl g) (lk h) + pl g).toInt
def X0 (n : Int32) (pl : Nat → Int32) : Nat → Prop := fun x => (x : Int) < n.toInt ∧ pl x ≠ -1
def XT (n : Int32) (pl t : Nat → Int32) : Nat → Prop := fun x => (x : Int) < n.toInt ∧ pl x ≠ -1 ∧ t x = -1
def XL (n : Int32) (il : Nat → Int32) : Nat → Prop := fun x => (x : Int) < n.toInt ∧ il x ≠ 0
theorem wr_rng : ∀ i j : Fin 12, 0 ≤ wr (nI i.val) (nI j.val) ∧ wr (nI i.val) (nI j.val) ≤ 6 := by decide +kernel
theorem wr_r {a b : Int32} (ha : RB 0 11 a) (hb : RB 0 11 b) : 0 ≤ wr a b ∧ wr a b ≤ 6 := by
  obtain ⟨i, hi, rfl⟩ := nI_of2 (x := a) (M := 11) (n := 11) rfl (by grind) ha.2
  obtain ⟨j, hj, rfl⟩ := nI_of2 (x := b) (M := 11) (n := 11) rfl (by grind) hb.2
  exact wr_rng ⟨i, by omega⟩ ⟨j, by omega⟩
theorem kq_i {p w : Int32} (hp : RB 0 11 p) (hw : 0 ≤ w ∧ w ≤ 6) : ((12 : Int32) * w + p).toInt = 12 * w.toInt + p.toInt := by
  have h1 := hp.1
  have h2 := hp.2
  have w1 := hw.1
  have w2 := hw.2
  have z11 : (11 : Int32).toInt = 11 := rfl
  have z6 : (6 : Int32).toInt = 6 := rfl
  have z12 : (12 : Int32).toInt = 12 := rfl
  rw [fa_le, z0] at h1 w1
  rw [fa_le, z11] at h2
  rw [fa_le, z6] at w2
  have m : ((12 : Int32) * w).toInt = 12 * w.toInt := by
    rw [Int32.toInt_mul, z12, fb_bmod (by omega) (by omega)]
  rw [fb_addI (by rw [m]; omega) (by rw [m]; omega), m]
def LKR (n : Int32) (lk : Nat → Int32) : Prop := ∀ k : Nat, (k : Int) < n.toInt → RB 0 11 (lk k)
theorem kq_inj {n : Int32} {pl so lk : Nat → Int32} (S : SOC n pl so) (hp : RA (-1) 11 pl) (hl : LKR n lk) (hn : RB 0 6 n) : ∀ x g g', X0 n pl x → X0 n pl g → X0 n pl g' → kq pl lk g x = kq pl lk g' x → g = g' := fun x g g' hx hg hg' e => by
  have r1 : RB 0 11 (pl g) := by
    have a := hp g
    have b := hg.2
    clear e hx hg hg'
    grind
  have r2 : RB 0 11 (pl g') := by
    have a := hp g'
    have b := hg'.2
    clear e hx hg hg' r1
    grind
  have lx := hl x hx.1
  unfold kq at e
  rw [kq_i r1 (wr_r r1 lx), kq_i r2 (wr_r r2 lx)] at e
  have a1 : 0 ≤ pl g ∧ pl g ≤ 11 := r1
  have a2 : 0 ≤ pl g' ∧ pl g' ≤ 11 := r2
  have z11 : (11 : Int32).toInt = 11 := rfl
  rw [fa_le, fa_le, z0, z11] at a1 a2
  have ep : pl g = pl g' := by
    rw [fa_eq]
    omega
  have n2 := hn.2
  have z6 : (6 : Int32).toInt = 6 := rfl
  rw [fa_le, z6] at n2
  have g1 := hg.1
  have g2 := hg'.1
  have w1 := nI_i (k := g) (by omega)
  have w2 := nI_i (k := g') (by omega)
  have s1 := (S.1 (pl g) (nI g) r1 (by rw [fa_le, z0, w1.1]; omega) (by rw [fa_lt, w1.1]; exact g1)).mp (by rw [w1.2])
  have s2 := (S.1 (pl g) (nI g') r1 (by rw [fa_le, z0, w2.1]; omega) (by rw [fa_lt, w2.1]; exact g2)).mp (by rw [w2.2, ep])
  rw [s1, fa_eq, w1.1, w2.1] at s2
  omega
theorem rd_congr {K K' : Nat → Nat → Int} : ∀ (k : Nat) (X : Nat → Prop) (w : Nat), (∀ g h, X g → X h → K g h = K' g h) → rRd K k X w → rRd K' k X w
  | 0, _, _, _, r => r
  | k + 1, X, w, e, r => by
    obtain ⟨F, h, w1, hF, r1, e1⟩ := r
    refine ⟨F, h, w1, ⟨hF.1, fun i => ⟨(hF.2 i).1, fun g hg => ?_⟩⟩, rd_congr k _ _ (fun g h p q => e g h p.1 q.1) r1, e1⟩
    rw [← e _ _ (hF.2 (i + 1)).1 (hF.2 i).1, ← e _ _ hg (hF.2 i).1]
    exact (hF.2 i).2 g hg
def RDS (n : Int32) (pl lk : Nat → Int32) (x : Int32) : Prop := ∃ k w : Nat, rRd (kq pl lk) k (X0 n pl) w ∧ x = nI w
theorem x0_b {n : Int32} {pl : Nat → Int32} : ∀ x, X0 n pl x → x < n.toNatClampNeg := fun x hx => by
  have t : n.toNatClampNeg = n.toInt.toNat := rfl
  have := hx.1
  omega
/-- the reference: who points where -/
def kk (p lk : Nat → Int32) (g a : Int32) : Int32 := 12 * wr (p g.toNatClampNeg) (lk a.toNatClampNeg) + p g.toNatClampNeg
def PTM (p t lk : Nat → Int32) (a b l : Int32) : Prop := ∀ g : Int32, 0 ≤ g → g < l → LFT p t g → kk p lk b a ≤ kk p lk g a
theorem PTM.zero {p t lk : Nat → Int32} {a b : Int32} : PTM p t lk a b 0 := fun g g0 g1 => absurd g1 (by grind)
theorem PTM.skip {p t lk : Nat → Int32} {a b l : Int32} (h : PTM p t lk a b l) (c : ¬ LFT p t l) (hl : 0 ≤ l ∧ l ≤ 100) : PTM p t lk a b (l + 1) := fun g g0 g1 y => by
  by_cases q : g = l
  · subst q; exact absurd y c
  · exact h g g0 (by clear h c y; grind) y
theorem PTM.first {n : Int32} {p t lk : Nat → Int32} {a b l : Int32} (h : PTI n p t b l) (c : b = -1) (hl : 0 ≤ l ∧ l ≤ 100) : PTM p t lk a l (l + 1) := fun g g0 g1 y => by
  by_cases q : g = l
  · subst q
    generalize kk p lk g a = z
    clear h c y
    grind
  · rcases h with h | h
    · exact absurd y (h.2 g g0 (by clear h y; grind))
    · have := h.1.1
      rw [c] at this
      exact absurd this (by decide)
theorem PTM.keep {p t lk : Nat → Int32} {a b l : Int32} (h : PTM p t lk a b l) (c : kk p lk b a ≤ kk p lk l a) (hl : 0 ≤ l ∧ l ≤ 100) : PTM p t lk a b (l + 1) := fun g g0 g1 y => by
  by_cases q : g = l
  · subst q; exact c
  · exact h g g0 (by clear h c y; grind) y
theorem PTM.take {p t lk : Nat → Int32} {a b l : Int32} (h : PTM p t lk a b l) (c : ¬ kk p lk b a ≤ kk p lk l a) (hl : 0 ≤ l ∧ l ≤ 100) : PTM p t lk a l (l + 1) := fun g g0 g1 y => by
  by_cases q : g = l
  · subst q
    generalize kk p lk g a = z
    clear h c y
    grind
  · have w := h g g0 (by clear h c y; grind) y
    clear h y
    generalize kk p lk g a = z at w
    generalize kk p lk b a = u at w c
    generalize kk p lk l a = v at c
    grind
theorem PTM.fin {p t lk : Nat → Int32} {a b l n : Int32} (h : PTM p t lk a b l) (c : n ≤ l) : PTM p t lk a b n := fun g g0 g1 y => h g g0 (by clear h y; grind) y
theorem ptm_k {p lk : Nat → Int32} {a b l x y : Int32} (e1 : x = wr (p b.toNatClampNeg) (lk a.toNatClampNeg)) (e2 : y = wr (p l.toNatClampNeg) (lk a.toNatClampNeg)) : (12 * x + p b.toNatClampNeg ≤ 12 * y + p l.toNatClampNeg) ↔ kk p lk b a ≤ kk p lk l a := by
  subst e1
  subst e2
  exact Iff.rfl
/-- least on a ring -/
def LST (f : Nat → Int32) (h : Int32) : Prop := ∀ i : Nat, h ≤ itr f i h
theorem lst_of {f : Nat → Int32} {h : Int32} {q : Nat} (e : itr f q (f h.toNatClampNeg) = h) (w : ∀ i, i < q → h < itr f i (f h.toNatClampNeg)) : LST f h := fun i => by
  induction i using Nat.strongRecOn with
  | ind i ih =>
    cases i with
    | zero =>
      show h ≤ h
      clear ih e w
      grind
    | succ j =>
      show h ≤ itr f j (f h.toNatClampNeg)
      by_cases c : j < q
      · have := w j c
        generalize itr f j (f h.toNatClampNeg) = z at this
        clear ih e w
        grind
      · have e2 : itr f j (f h.toNatClampNeg) = itr f (j - q) h := by
          have a := itr_a f (j - q) q (f h.toNatClampNeg)
          rw [e] at a
          rw [← a]
          congr 1
          omega
        rw [e2]
        exact ih (j - q) (by omega)
theorem lst_not {f : Nat → Int32} {h : Int32} {i : Nat} (e : itr f i (f h.toNatClampNeg) < h) : ¬ LST f h := fun w => by
  have a : h ≤ itr f i (f h.toNatClampNeg) := w (i + 1)
  clear w
  generalize itr f i (f h.toNatClampNeg) = z at e a
  grind
theorem rI_1 {k : Nat} (h : k < 1000) : nI k + 1 = nI (k + 1) := by
  have o : (1 : Int32).toInt = 1 := rfl
  have a := (nI_i (k := k) h).1
  have b : (nI (k + 1)).toInt = ((k + 1 : Nat) : Int) := Int32.toInt_ofNat_of_lt (by omega)
  rw [fa_eq, fb_addI (by omega) (by omega), a, b, o]
  omega
theorem rI_add {a b : Nat} (ha : a < 500) (hb : b < 500) : nI a + nI b = nI (a + b) := by
  have x := (nI_i (k := a) (by omega)).1
  have y := (nI_i (k := b) (by omega)).1
  have z := (nI_i (k := a + b) (by omega)).1
  rw [fa_eq, fb_addI (by omega) (by omega), x, y, z]
  omega
theorem ct_iy {C : Nat → Prop} {x rm l : Int32} (e : x = rm + nI (ct C l.toNatClampNeg)) (c : C l.toNatClampNeg) (hl : 0 ≤ l ∧ l ≤ 100) : x + 1 = rm + nI (ct C (l + 1).toNatClampNeg) := by
  have t := tnc hl.1
  have h2 := hl.2
  have z : (100 : Int32).toInt = 100 := rfl
  rw [fa_le, z] at h2
  have b := ct_le (X := C) l.toNatClampNeg
  rw [tn_s ⟨hl.1, by grind⟩, ct_y c, ← rI_1 (by omega), e]
  grind
theorem ct_in {C : Nat → Prop} {x rm l : Int32} (e : x = rm + nI (ct C l.toNatClampNeg)) (c : ¬ C l.toNatClampNeg) (hl : 0 ≤ l ∧ l ≤ 100) : x + 0 = rm + nI (ct C (l + 1).toNatClampNeg) := by
  rw [tn_s ⟨hl.1, by grind⟩, ct_n c, e]
  grind
theorem xt_l {n h : Int32} {p t : Nat → Int32} (h0 : 0 ≤ h) (h1 : h < n) : XT n p t h.toNatClampNeg ↔ LFT p t h := ⟨fun q => q.2, fun q => ⟨tn_n ⟨h0, h1⟩, q⟩⟩
theorem xt_nI {n : Int32} {k : Nat} (hn : n ≤ 6) (hk : (k : Int) < n.toInt) : (nI k).toNatClampNeg = k ∧ 0 ≤ nI k ∧ nI k < n := by
  have z6 : (6 : Int32).toInt = 6 := rfl
  rw [fa_le, z6] at hn
  have w := nI_i (k := k) (by omega)
  exact ⟨w.2, by rw [fa_le, z0, w.1]; omega, by rw [fa_lt, w.1]; exact hk⟩
theorem xt_ft {n : Int32} {p t lk f : Nat → Int32} (hn : n ≤ 6) (hf : ∀ h : Int32, 0 ≤ h → h < n → LFT p t h → ((0 ≤ f h.toNatClampNeg ∧ f h.toNatClampNeg < n) ∧ LFT p t (f h.toNatClampNeg)) ∧ PTM p t lk h (f h.toNatClampNeg) n) : FTG (kq p lk) (XT n p t) (nF f) := fun x hx => by
  obtain ⟨w1, w2, w3⟩ := xt_nI hn hx.1
  have q := hf (nI x) w2 w3 (by show p (nI x).toNatClampNeg ≠ -1 ∧ t (nI x).toNatClampNeg = -1; rw [w1]; exact hx.2)
  rw [w1] at q
  refine ⟨⟨tn_n q.1.1, q.1.2⟩, fun g hg => ?_⟩
  obtain ⟨v1, v2, v3⟩ := xt_nI hn hg.1
  have m := q.2 (nI g) v2 v3 (by show p (nI g).toNatClampNeg ≠ -1 ∧ t (nI g).toNatClampNeg = -1; rw [v1]; exact hg.2)
  unfold kk at m
  rw [v1, w1, fa_le] at m
  exact m
theorem xt_b {n : Int32} {p t : Nat → Int32} : ∀ x, XT n p t x → x < n.toNatClampNeg := fun x hx => by
  have e : n.toNatClampNeg = n.toInt.toNat := rfl
  have := hx.1
  omega
theorem tn_le6 {n : Int32} (hn : RB 0 6 n) : n.toNatClampNeg ≤ 6 := tn6 hn
/-- what the lengths of rings tell -/
theorem rg_on {n h r : Int32} {p t lk f : Nat → Int32} (hn : RB 0 6 n) (hr : RA 0 5 f) (ft : FTG (kq p lk) (XT n p t) (nF f)) (h0 : 0 ≤ h) (h1 : h < n) (a : LFT p t h → RG f h r) (b : ¬ LFT p t h → r = 0) : (0 < r ↔ XT n p t h.toNatClampNeg ∧ rOn (nF f) h.toNatClampNeg) ∧ (1 < r ↔ XT n p t h.toNatClampNeg ∧ rOn (nF f) h.toNatClampNeg ∧ nF f h.toNatClampNeg ≠ h.toNatClampNeg) := by
  by_cases c : LFT p t h
  · have X := (xt_l (n := n) h0 h1).mpr c
    rcases a c with w | w
    · have no : ¬ rOn (nF f) h.toNatClampNeg := fun o => by
        obtain ⟨m, mm, e⟩ := r_small (n := n.toNatClampNeg) (fun i => xt_b _ (ft_in ft X i)) o
        have := tn_le6 hn
        exact w.2 m mm.1 (by omega) ((itr_eq hr h0 h0).mpr e)
      have r0 := w.1
      exact ⟨⟨fun q => absurd q (by rw [r0]; decide), fun q => absurd q.2 no⟩, ⟨fun q => absurd q (by rw [r0]; decide), fun q => absurd q.2.1 no⟩⟩
    · obtain ⟨w1, w2, w3⟩ := w
      have t1 := tnc (x := r) (by clear w2 w3 a b; grind)
      have o1 : (1 : Int32).toInt = 1 := rfl
      have w1a := w1.1
      rw [fa_le, o1] at w1a
      have on : rOn (nF f) h.toNatClampNeg := ⟨r.toNatClampNeg, by omega, (itr_eq hr h0 h0).mp w2⟩
      refine ⟨⟨fun _ => ⟨X, on⟩, fun _ => by clear w2 w3 a b on; grind⟩, ⟨fun q => ⟨X, on, fun z => ?_⟩, fun q => ?_⟩⟩
      · rw [fa_lt, o1] at q
        exact w3 1 (Nat.le_refl 1) (by omega) ((itr_eq hr h0 h0).mpr z)
      · by_cases z : r = 1
        · subst z
          exact absurd ((itr_eq hr h0 h0 (i := 1)).mp w2) q.2.2
        · clear w2 w3 a b on q
          grind
  · have r0 := b c
    have nX : ¬ XT n p t h.toNatClampNeg := fun q => c ((xt_l h0 h1).mp q)
    exact ⟨⟨fun q => absurd q (by rw [r0]; decide), fun q => absurd q.1 nX⟩, ⟨fun q => absurd q (by rw [r0]; decide), fun q => absurd q.1 nX⟩⟩
theorem rg_c {n h r : Int32} {p t lk f : Nat → Int32} (hn : RB 0 6 n) (hr : RA 0 5 f) (ft : FTG (kq p lk) (XT n p t) (nF f)) (h0 : 0 ≤ h) (h1 : h < n) (a : LFT p t h → RG f h r) (b : ¬ LFT p t h → r = 0) : (1 < r ∧ LST f h) ↔ rC (XT n p t) (nF f) h.toNatClampNeg := by
  have w := (rg_on hn hr ft h0 h1 a b).2
  have l : LST f h ↔ ∀ i, h.toNatClampNeg ≤ rIt (nF f) i h.toNatClampNeg := by
    constructor
    · intro q i
      have := q i
      rw [← itr_n]
      have t1 := tnc h0
      have t2 := tnc (itr_nn hr h0 i)
      rw [fa_le] at this
      omega
    · intro q i
      have := q i
      rw [← itr_n] at this
      have t1 := tnc h0
      have t2 := tnc (itr_nn hr h0 i)
      rw [fa_le]
      omega
  constructor
  · intro q
    have u := w.mp q.1
    exact ⟨u.1, u.2.1, u.2.2, l.mp q.2⟩
  · intro q
    exact ⟨w.mpr ⟨q.1, q.2.1, q.2.2.1⟩, l.mpr q.2.2.2⟩
theorem rd_step {n rm : Int32} {p t t2 lk f rl : Nat → Int32} {X : Nat → Prop} (hn : RB 0 6 n) (hr : RA 0 5 f) (ft : FTG (kq p lk) (XT n p t) (nF f)) (hrl : ∀ h : Int32, 0 ≤ h → h < n → (LFT p t h → RG f h (rl h.toNatClampNeg)) ∧ (¬ LFT p t h → rl h.toNatClampNeg = 0)) (ht : ∀ k : Nat, (k : Int) < n.toInt → t2 k = if 0 < rl k then p (f k).toNatClampNeg else t k) (V : ∃ r : Nat, r < 400 ∧ rm = nI r ∧ r + ct (XT n p t) n.toNatClampNeg ≤ 6 ∧ ∀ k w, rRd (kq p lk) k (XT n p t) w → ∃ k', rRd (kq p lk) k' X (w + r)) : ∃ r : Nat, r < 400 ∧ rm + nI (ct (rC (XT n p t) (nF f)) n.toNatClampNeg) = nI r ∧ r + ct (XT n p t2) n.toNatClampNeg ≤ 6 ∧ ∀ k w, rRd (kq p lk) k (XT n p t2) w → ∃ k', rRd (kq p lk) k' X (w + r) := by
  obtain ⟨r, r4, e, rc, V⟩ := V
  have y : ∀ x, XT n p t2 x ↔ XT n p t x ∧ ¬ rOn (nF f) x := fun x => by
    by_cases c : (x : Int) < n.toInt
    · obtain ⟨w1, w2, w3⟩ := xt_nI hn.2 c
      have h := hrl (nI x) w2 w3
      have w := (rg_on hn hr ft w2 w3 h.1 h.2).1
      rw [w1] at w
      have e2 := ht x c
      constructor
      · intro q
        by_cases d : 0 < rl x
        · rw [if_pos d] at e2
          have u := w.mp d
          have fx := (ft x u.1).1
          exact absurd (e2.symm.trans q.2.2) fx.2.1
        · rw [if_neg d] at e2
          have xt : XT n p t x := ⟨c, q.2.1, by rw [← e2]; exact q.2.2⟩
          exact ⟨xt, fun o => d (w.mpr ⟨xt, o⟩)⟩
      · intro q
        have d : ¬ 0 < rl x := fun z => q.2 (w.mp z).2
        rw [if_neg d] at e2
        exact ⟨c, q.1.2.1, by rw [e2]; exact q.1.2.2⟩
    · exact ⟨fun q => absurd q.1 c, fun q => absurd q.1.1 c⟩
  have cc : ct (rC (XT n p t) (nF f)) n.toNatClampNeg + ct (XT n p t2) n.toNatClampNeg ≤ ct (XT n p t) n.toNatClampNeg := by
    have gen : ∀ m : Nat, ct (rC (XT n p t) (nF f)) m + ct (XT n p t2) m ≤ ct (XT n p t) m := fun m => by
      induction m with
      | zero => exact Nat.le_refl 0
      | succ m ih =>
        by_cases c1 : rC (XT n p t) (nF f) m
        · have c2 : ¬ XT n p t2 m := fun z => ((y m).mp z).2 c1.2.1
          rw [ct_y c1, ct_n c2, ct_y c1.1]; omega
        · rw [ct_n c1]
          by_cases c2 : XT n p t2 m
          · rw [ct_y c2, ct_y ((y m).mp c2).1]; omega
          · rw [ct_n c2]
            by_cases c3 : XT n p t m
            · rw [ct_y c3]; omega
            · rw [ct_n c3]; exact ih
    exact gen _
  refine ⟨r + ct (rC (XT n p t) (nF f)) n.toNatClampNeg, by omega, ?_, by omega, fun k w q => ?_⟩
  · rw [e]
    exact rI_add (by omega) (by omega)
  · obtain ⟨k', q'⟩ := r_rnd xt_b ft y q
    obtain ⟨k2, q2⟩ := V k' _ q'
    refine ⟨k2, ?_⟩
    have ee : w + (r + ct (rC (XT n p t) (nF f)) n.toNatClampNeg) = w + ct (rC (XT n p t) (nF f)) n.toNatClampNeg + r := by omega
    rw [ee]
    exact q2
theorem rd_end {n rm : Int32} {p t lk : Nat → Int32} (V : ∃ r : Nat, r < 400 ∧ rm = nI r ∧ r + ct (XT n p t) n.toNatClampNeg ≤ 6 ∧ ∀ k w, rRd (kq p lk) k (XT n p t) w → ∃ k', rRd (kq p lk) k' (X0 n p) (w + r)) (c : cl p t n.toNatClampNeg = 0) : RDS n p lk rm := by
  obtain ⟨r, _, e, _, V⟩ := V
  have no : ∀ x, ¬ XT n p t x := fun x hx => by
    have gen : ∀ m, cl p t m = 0 → ∀ y, y < m → ¬ (p y ≠ -1 ∧ t y = -1) := fun m => by
      induction m with
      | zero => intro _ y hy; exact absurd hy (Nat.not_lt_zero _)
      | succ m ih =>
        intro h y hy
        unfold cl at h
        by_cases d : p m ≠ -1 ∧ t m = -1
        · rw [if_pos d] at h; omega
        · rw [if_neg d] at h
          by_cases z : y = m
          · rw [z]; exact d
          · exact ih h y (by omega)
    exact gen _ c x (xt_b x hx) hx.2
  obtain ⟨k', q⟩ := V 0 0 ⟨no, rfl⟩
  rw [Nat.zero_add] at q
  exact ⟨k', r, q, e⟩
theorem rd_ini {n : Int32} {p t lk : Nat → Int32} (hn : RB 0 6 n) (h : ∀ k : Nat, k < 6 → t k = -1) : ∃ r : Nat, r < 400 ∧ (0 : Int32) = nI r ∧ r + ct (XT n p t) n.toNatClampNeg ≤ 6 ∧ ∀ k w, rRd (kq p lk) k (XT n p t) w → ∃ k', rRd (kq p lk) k' (X0 n p) (w + r) := by
  have e : XT n p t = X0 n p := funext fun x => propext ⟨fun q => ⟨q.1, q.2.1⟩, fun q => ⟨q.1, q.2, h x (by
    have n2 := hn.2
    have z6 : (6 : Int32).toInt = 6 := rfl
    rw [fa_le, z6] at n2
    have := q.1
    omega)⟩⟩
  have b := ct_le (X := XT n p t) n.toNatClampNeg
  have b2 := tn_le6 hn
  refine ⟨0, by omega, rfl, by omega, fun k w q => ⟨k, ?_⟩⟩
  rw [← e]
  exact q
/-- the class -/
theorem vn0 : vp_nar .boolean (0 : Int32) = 0 := by decide
theorem vn1 : vp_nar .boolean (1 : Int32) = 1 := by decide
def NL (n : Int32) (il : Nat → Int32) : Prop := ∀ k : Nat, (k : Int) < n.toInt → il k = 0
theorem nl_0 {il : Nat → Int32} : NL 0 il := fun k hk => absurd hk (by rw [z0]; omega)
theorem nl_s {il : Nat → Int32} {l : Int32} (h : NL l il) (c : il l.toNatClampNeg = 0) (hl : 0 ≤ l ∧ l ≤ 100) : NL (l + 1) il := fun k hk => by
  have t := tnc hl.1
  rw [add1 hl.1 (by grind)] at hk
  by_cases q : k = l.toNatClampNeg
  · rw [q]; exact c
  · exact h k (by omega)
theorem nl_e {il : Nat → Int32} {l n : Int32} (h : NL l il) (c : n ≤ l) : NL n il := fun k hk => h k (by
  rw [fa_le] at c
  omega)
def cnd (so il : Nat → Int32) (p : Int32) : Prop := so p.toNatClampNeg ≠ -1 ∧ il (so p.toNatClampNeg).toNatClampNeg ≠ 0
def NOI (so il : Nat → Int32) (a s l4 l5 l6 : Int32) : Prop := RB 0 11 a → (l4 = s ∧ l5 = 12 ∧ ∀ p : Int32, 0 ≤ p → p < l6 → ¬ cnd so il p) ∨ ∃ q : Int32, (0 ≤ q ∧ q < l6 ∧ q ≤ 11) ∧ cnd so il q ∧ l4 = so q.toNatClampNeg ∧ l5 = wr q a ∧ ∀ p : Int32, 0 ≤ p → p < l6 → cnd so il p → 12 * wr q a + q ≤ 12 * wr p a + p
def NOP (so il : Nat → Int32) (a s r : Int32) : Prop := ∃ x : Int32, NOI so il a s r x 12
theorem no_0 {so il : Nat → Int32} {a s : Int32} : NOI so il a s s 12 0 := fun _ => Or.inl ⟨rfl, rfl, fun p p0 p1 => absurd p1 (by grind)⟩
theorem no_e {so il : Nat → Int32} {a s l4 l5 l6 : Int32} (V : NOI so il a s l4 l5 l6) (c : 12 ≤ l6 ∧ l6 ≤ 12) : NOP so il a s l4 := by
  have e : l6 = 12 := by clear V; grind
  subst e
  exact ⟨l5, V⟩
theorem no_skip {so il : Nat → Int32} {a s l4 l5 l6 : Int32} (V : NOI so il a s l4 l5 l6) (c : ¬ cnd so il l6) (hl : RB 0 11 l6) : NOI so il a s l4 l5 (l6 + 1) := fun ha => by
  rcases V ha with ⟨v1, v2, v3⟩ | ⟨q, v1, v2, v3, v4, v5⟩
  · refine Or.inl ⟨v1, v2, fun p p0 p1 y => ?_⟩
    by_cases e : p = l6
    · subst e; exact c y
    · exact v3 p p0 (by clear v3 y c; grind) y
  · refine Or.inr ⟨q, ⟨v1.1, by clear v5 c; grind, v1.2.2⟩, v2, v3, v4, fun p p0 p1 y => ?_⟩
    by_cases e : p = l6
    · subst e; exact absurd y c
    · exact v5 p p0 (by clear v5 y c v2; grind) y
theorem no_far {so il : Nat → Int32} {a s l4 l5 l6 x : Int32} (V : NOI so il a s l4 l5 l6) (hl : RB 0 11 l6) (hx : RB 0 11 l6 → RB 0 11 a → x = wr l6 a) (c : l5 ≤ x) : NOI so il a s l4 l5 (l6 + 1) := fun ha => by
  have ex := hx hl ha
  have wl := wr_r hl ha
  rcases V ha with ⟨v1, v2, v3⟩ | ⟨q, v1, v2, v3, v4, v5⟩
  · exfalso
    rw [v2, ex] at c
    clear v3 hx
    grind
  · refine Or.inr ⟨q, ⟨v1.1, by clear v5; grind, v1.2.2⟩, v2, v3, v4, fun p p0 p1 y => ?_⟩
    have wq := wr_r (a := q) (b := a) ⟨v1.1, v1.2.2⟩ ha
    by_cases e : p = l6
    · subst e
      rw [ex, v4] at c
      clear v5 y v2 hx V
      generalize wr p a = u at *
      generalize wr q a = v at *
      grind
    · exact v5 p p0 (by clear v5 y v2; grind) y
theorem no_near {so il : Nat → Int32} {a s l4 l5 l6 x y : Int32} (V : NOI so il a s l4 l5 l6) (hl : RB 0 11 l6) (hx : RB 0 11 l6 → RB 0 11 a → x = wr l6 a) (hy : RB 0 11 l6 → RB 0 11 a → y = wr l6 a) (c : ¬ l5 ≤ x) (cn : cnd so il l6) : NOI so il a s (so l6.toNatClampNeg) y (l6 + 1) := fun ha => by
  have ex := hx hl ha
  have wl := wr_r hl ha
  refine Or.inr ⟨l6, ⟨hl.1, by clear V c cn hx hy; grind, hl.2⟩, cn, rfl, hy hl ha, fun p p0 p1 z => ?_⟩
  by_cases e : p = l6
  · subst e
    clear V c cn hx hy z
    generalize wr p a = u
    grind
  · have pl : p < l6 := by clear V c cn hx hy z; grind
    rcases V ha with ⟨v1, v2, v3⟩ | ⟨q, v1, v2, v3, v4, v5⟩
    · exact absurd z (v3 p p0 pl)
    · have m := v5 p p0 pl z
      have wq := wr_r (a := q) (b := a) ⟨v1.1, v1.2.2⟩ ha
      have wp := wr_r (a := p) (b := a) ⟨p0, by clear v5 z v2 hx hy V c; grind⟩ ha
      rw [ex, v4] at c
      clear v5 z v2 hx hy V cn ex v3 v4
      generalize wr p a = u1 at *
      generalize wr q a = u2 at *
      generalize wr l6 a = u3 at *
      have p11 : p ≤ 11 := by grind
      grind
def PTS (m : Int32) (il so lk f : Nat → Int32) : Prop := ∀ k : Nat, (k : Int) < m.toInt → il k ≠ 0 → NOP so il (lk k) (nI k) (f k)
theorem pts_0 {il so lk f : Nat → Int32} : PTS 0 il so lk f := fun k hk => absurd hk (by rw [z0]; omega)
theorem pts_skip {il so lk f : Nat → Int32} {l : Int32} (h : PTS l il so lk f) (c : il l.toNatClampNeg = 0) (hl : 0 ≤ l ∧ l ≤ 100) : PTS (l + 1) il so lk f := fun k hk y => by
  have t := tnc hl.1
  rw [add1 hl.1 (by grind)] at hk
  by_cases q : k = l.toNatClampNeg
  · rw [q] at y; exact absurd c y
  · exact h k (by omega) y
theorem pts_put {il so lk f : Nat → Int32} {l v : Int32} (h : PTS l il so lk f) (c : NOP so il (lk l.toNatClampNeg) l v) (hl : 0 ≤ l ∧ l ≤ 100) : PTS (l + 1) il so lk (upd f l.toNatClampNeg v) := fun k hk y => by
  have t := tnc hl.1
  rw [add1 hl.1 (by grind)] at hk
  by_cases q : k = l.toNatClampNeg
  · rw [q, pk_us, nI_tn hl.1]; exact c
  · rw [pk_un q]; exact h k (by omega) y
theorem pts_e {il so lk f : Nat → Int32} {l n : Int32} (h : PTS l il so lk f) (c : n ≤ l) : PTS n il so lk f := fun k hk => h k (by
  rw [fa_le] at c
  omega)
/-- closing a ring -/
def ONR (f : Nat → Int32) (h : Int32) : Prop := ∃ m : Nat, (1 ≤ m ∧ m ≤ 6) ∧ itr f m h = h
def NRT (f : Nat → Int32) (h l : Int32) : Prop := ∀ m : Nat, 1 ≤ m → (m : Int) ≤ l.toInt → itr f m h ≠ h
def CLD (f : Nat → Int32) (h l : Int32) (a b : Nat → Int32) : Prop := ∀ k : Nat, b k ≠ 0 ↔ a k ≠ 0 ∧ ¬ ∃ j : Nat, (j : Int) < l.toInt ∧ (itr f j h).toNatClampNeg = k
def CLO (f : Nat → Int32) (h : Int32) (a b : Nat → Int32) : Prop := ∀ k : Nat, b k ≠ 0 ↔ a k ≠ 0 ∧ ¬ ∃ j : Nat, (itr f j h).toNatClampNeg = k
theorem nrt_0 {f : Nat → Int32} {h : Int32} : NRT f h 0 := fun m h1 h2 => absurd h2 (by rw [z0]; omega)
theorem cld_0 {f a : Nat → Int32} {h : Int32} : CLD f h 0 a a := fun k => ⟨fun q => ⟨q, fun ⟨j, hj, _⟩ => absurd hj (by rw [z0]; omega)⟩, fun q => q.1⟩
theorem cld_s {f a b : Nat → Int32} {h l x v : Int32} (V : CLD f h l a b) (e : x = itr f l.toNatClampNeg h) (hv : v = 0) (hl : 0 ≤ l ∧ l ≤ 100) : CLD f h (l + 1) a (upd b x.toNatClampNeg v) := fun k => by
  have t := tnc hl.1
  have ad := add1 hl.1 (by grind)
  by_cases q : k = x.toNatClampNeg
  · rw [q, pk_us, hv]
    exact ⟨fun z => absurd rfl z, fun z => absurd ⟨l.toNatClampNeg, by omega, by rw [← e]⟩ z.2⟩
  · rw [pk_un q, V k]
    constructor
    · intro ⟨z1, z2⟩
      refine ⟨z1, fun ⟨j, hj, ej⟩ => ?_⟩
      by_cases w : j = l.toNatClampNeg
      · rw [w, ← e] at ej; exact q ej.symm
      · exact z2 ⟨j, by omega, ej⟩
    · intro ⟨z1, z2⟩
      exact ⟨z1, fun ⟨j, hj, ej⟩ => z2 ⟨j, by omega, ej⟩⟩
theorem nrt_s {f : Nat → Int32} {h l x : Int32} (V : NRT f h l) (e : x = itr f l.toNatClampNeg h) (c : ¬ f x.toNatClampNeg = h) (hl : 0 ≤ l ∧ l ≤ 100) : NRT f h (l + 1) := fun m h1 h2 => by
  have t := tnc hl.1
  rw [add1 hl.1 (by grind)] at h2
  by_cases q : m = l.toNatClampNeg + 1
  · rw [q, itr_s, ← e]; exact c
  · exact V m h1 (by omega)
theorem itr_per {f : Nat → Int32} {h : Int32} {m : Nat} (m1 : 1 ≤ m) (e : itr f m h = h) : ∀ j : Nat, ∃ i, i < m ∧ itr f i h = itr f j h := fun j => by
  induction j using Nat.strongRecOn with
  | ind j ih =>
    by_cases c : j < m
    · exact ⟨j, c, rfl⟩
    · obtain ⟨i, hi, ei⟩ := ih (j - m) (by omega)
      refine ⟨i, hi, ?_⟩
      have a := itr_a f (j - m) m h
      rw [e] at a
      rw [ei, ← a]
      congr 1
      omega
theorem clo_of {f a b : Nat → Int32} {h l x : Int32} (V : CLD f h (l + 1) a b) (e : x = itr f l.toNatClampNeg h) (c : f x.toNatClampNeg = h) (hl : 0 ≤ l ∧ l ≤ 100) : CLO f h a b := fun k => by
  have t := tnc hl.1
  have ad := add1 hl.1 (by grind)
  have r : itr f (l.toNatClampNeg + 1) h = h := by rw [itr_s, ← e]; exact c
  rw [V k]
  constructor
  · intro ⟨z1, z2⟩
    refine ⟨z1, fun ⟨j, ej⟩ => ?_⟩
    obtain ⟨i, hi, ei⟩ := itr_per (by omega) r j
    exact z2 ⟨i, by omega, by rw [ei]; exact ej⟩
  · intro ⟨z1, z2⟩
    exact ⟨z1, fun ⟨j, _, ej⟩ => z2 ⟨j, ej⟩⟩
theorem cr_1 {f a b : Nat → Int32} {h l x v g r : Int32} (V : CLD f h l a b) (e : x = itr f l.toNatClampNeg h) (c : f x.toNatClampNeg = h) (hl : 0 ≤ l ∧ l ≤ 100) (hv : v = 0) (l1 : l + 1 ≤ 1) (er : r = g) : ONR f h → CLO f h a (upd b x.toNatClampNeg v) ∧ r = g + (if f h.toNatClampNeg = h then 0 else 1) := fun _ => by
  refine ⟨clo_of (cld_s V e hv hl) e c hl, ?_⟩
  have l0 : l = 0 := by clear V e c; grind
  subst l0
  have e2 : x = h := e
  rw [e2] at c
  rw [if_pos c, er]
  grind
theorem cr_2 {f a b : Nat → Int32} {h l x v g r : Int32} (V : CLD f h l a b) (W : NRT f h l) (e : x = itr f l.toNatClampNeg h) (c : f x.toNatClampNeg = h) (hl : 0 ≤ l ∧ l ≤ 100) (hv : v = 0) (l1 : ¬ l + 1 ≤ 1) (er : r = g) : ONR f h → CLO f h a (upd b x.toNatClampNeg v) ∧ r + 1 = g + (if f h.toNatClampNeg = h then 0 else 1) := fun _ => by
  refine ⟨clo_of (cld_s V e hv hl) e c hl, ?_⟩
  have o : (1 : Int32).toInt = 1 := rfl
  have h1 : 1 ≤ l := by clear V W e c; grind
  rw [fa_le, o] at h1
  have n1 : ¬ f h.toNatClampNeg = h := W 1 (Nat.le_refl 1) (by omega)
  rw [if_neg n1, er]
theorem cr_3 {f : Nat → Int32} {h l x : Int32} {P : Prop} (W : NRT f h l) (e : x = itr f l.toNatClampNeg h) (c : ¬ f x.toNatClampNeg = h) (hl : 0 ≤ l ∧ l ≤ 100) (l1 : ¬ l + 1 < 6) : ONR f h → P := fun ⟨m, mm, em⟩ => by
  have ad := add1 hl.1 (by grind)
  have z6 : (6 : Int32).toInt = 6 := rfl
  rw [fa_lt, z6] at l1
  exact absurd em (nrt_s W e c hl m mm.1 (by omega))
/-- the class's rounds -/
def TRH (n : Int32) (pl so lk : Nat → Int32) : Prop := SOC n pl so ∧ RA (-1) 11 pl ∧ LKR n lk ∧ RB 0 6 n
def ILN (l : Int32) (pl il : Nat → Int32) : Prop := ∀ k : Nat, (k : Int) < l.toInt → (il k ≠ 0 ↔ pl k ≠ -1)
theorem iln_0 {pl il : Nat → Int32} : ILN 0 pl il := fun k hk => absurd hk (by rw [z0]; omega)
theorem iln_s {pl il : Nat → Int32} {l v : Int32} (h : ILN l pl il) (c : v ≠ 0 ↔ pl l.toNatClampNeg ≠ -1) (hl : 0 ≤ l ∧ l ≤ 100) : ILN (l + 1) pl (upd il l.toNatClampNeg v) := fun k hk => by
  have t := tnc hl.1
  rw [add1 hl.1 (by grind)] at hk
  by_cases q : k = l.toNatClampNeg
  · rw [q, pk_us]; exact c
  · rw [pk_un q]; exact h k (by omega)
def CI (n : Int32) (pl lk : Nat → Int32) (l rings : Int32) (il : Nat → Int32) : Prop := (∃ r : Nat, (r < 400 ∧ (r : Int) ≤ l.toInt) ∧ rings = nI r ∧ ∀ k w, rRd (kq pl lk) k (XL n il) w → ∃ k', rRd (kq pl lk) k' (X0 n pl) (w + r)) ∧ (∀ k : Nat, (k : Int) < n.toInt → il k ≠ 0 → pl k ≠ -1) ∧ (ct (XL n il) n.toNatClampNeg : Int) + l.toInt ≤ n.toInt
theorem ci_0 {n : Int32} {pl lk il : Nat → Int32} (hn : RB 0 6 n) (h : ILN n pl il) : CI n pl lk 0 0 il := by
  have e : XL n il = X0 n pl := funext fun x => propext ⟨fun q => ⟨q.1, (h x q.1).mp q.2⟩, fun q => ⟨q.1, (h x q.1).mpr q.2⟩⟩
  refine ⟨⟨0, ⟨by omega, by rw [z0]; omega⟩, rfl, fun k w q => ⟨k, by rw [← e]; exact q⟩⟩, fun k hk => (h k hk).mp, ?_⟩
  have b := ct_le (X := XL n il) n.toNatClampNeg
  have t := tnc hn.1
  rw [z0]
  omega
theorem xl_b {n : Int32} {il : Nat → Int32} : ∀ x, XL n il x → x < n.toNatClampNeg := fun x hx => by
  have e : n.toNatClampNeg = n.toInt.toNat := rfl
  have := hx.1
  omega
theorem ci_end {n l rings : Int32} {pl lk il : Nat → Int32} (V : CI n pl lk l rings il) (c : NL n il ∨ n ≤ l) : RDS n pl lk rings := by
  obtain ⟨⟨r, _, e, V⟩, _, u⟩ := V
  have no : ∀ x, ¬ XL n il x := fun x hx => by
    rcases c with c | c
    · exact hx.2 (c x hx.1)
    · rw [fa_le] at c
      exact ct_0 (X := XL n il) (n := n.toNatClampNeg) (by omega) x (xl_b x hx) hx
  obtain ⟨k', q⟩ := V 0 0 ⟨no, rfl⟩
  rw [Nat.zero_add] at q
  exact ⟨k', r, q, e⟩
theorem cl_ft {n : Int32} {pl so lk il f : Nat → Int32} (T : TRH n pl so lk) (hi : ∀ k : Nat, (k : Int) < n.toInt → il k ≠ 0 → pl k ≠ -1) (hf : PTS n il so lk f) : FTG (kq pl lk) (XL n il) (nF f) := fun x hx => by
  obtain ⟨S, hp, hl, hn⟩ := T
  have own : ∀ g : Nat, XL n il g → RB 0 11 (pl g) ∧ so (pl g).toNatClampNeg = nI g ∧ cnd so il (pl g) := fun g hg => by
    obtain ⟨w1, w2, w3⟩ := xt_nI hn.2 hg.1
    have r : RB 0 11 (pl g) := by
      have a := hp g
      have b := hi g hg.1 hg.2
      clear hf hi
      grind
    have s := (S.1 (pl g) (nI g) r w2 w3).mp (by rw [w1])
    refine ⟨r, s, ?_, ?_⟩
    · rw [s]
      clear hf hi hx s r
      grind
    · rw [s, w1]; exact hg.2
  have lx := hl x hx.1
  obtain ⟨y, V⟩ := hf x hx.1 hx.2
  obtain ⟨rx, sx, cx⟩ := own x hx
  rcases V lx with ⟨v1, v2, v3⟩ | ⟨q, v1, v2, v3, v4, v5⟩
  · exact absurd cx (v3 (pl x) rx.1 (by clear v3 hf hi own; grind))
  · have rq : RB 0 11 q := ⟨v1.1, v1.2.2⟩
    have sq : 0 ≤ so q.toNatClampNeg ∧ so q.toNatClampNeg < n := by
      rcases S.2 q rq with z | z
      · exact absurd z v2.1
      · exact z
    have pq : pl (so q.toNatClampNeg).toNatClampNeg = q := (S.1 q _ rq sq.1 sq.2).mpr rfl
    have ef : nF f x = (so q.toNatClampNeg).toNatClampNeg := by
      show (f x).toNatClampNeg = _
      rw [v3]
    rw [ef]
    refine ⟨⟨tn_n sq, v2.2⟩, fun g hg => ?_⟩
    obtain ⟨rg, sg, cg⟩ := own g hg
    have m := v5 (pl g) rg.1 (by clear v5 v3 hf hi own; grind) cg
    unfold kq
    rw [pq]
    rw [fa_le] at m
    exact m
theorem ci_step {n l rings rings' s y : Int32} {pl so lk il il' f : Nat → Int32} (T : TRH n pl so lk) (V : CI n pl lk l rings il) (hs : (0 ≤ s ∧ s < n) ∧ il s.toNatClampNeg ≠ 0) (hf : PTS n il so lk f) (hr : RA 0 5 f) (ey : y = itr f n.toNatClampNeg s) (cr : ONR f y → CLO f y il il' ∧ rings' = rings + (if f y.toNatClampNeg = y then 0 else 1)) (hl : 0 ≤ l ∧ l ≤ 100) : CI n pl lk (l + 1) rings' il' := by
  obtain ⟨⟨r, r4, e, V⟩, hi, u⟩ := V
  have hn := T.2.2.2
  have ft := cl_ft T hi hf
  have xs : XL n il s.toNatClampNeg := ⟨tn_n hs.1, hs.2⟩
  have bb : ∀ i, rIt (nF f) i s.toNatClampNeg < n.toNatClampNeg := fun i => xl_b _ (ft_in ft xs i)
  obtain ⟨m, mm, em⟩ := r_on bb
  have y0 : 0 ≤ y := by rw [ey]; exact itr_nn hr hs.1.1 _
  have yn : y.toNatClampNeg = rIt (nF f) n.toNatClampNeg s.toNatClampNeg := by rw [ey, itr_n]
  rw [← yn] at em
  have n6 := tn_le6 hn
  obtain ⟨c1, c2⟩ := cr ⟨m, ⟨mm.1, by omega⟩, (itr_eq hr y0 y0).mpr em⟩
  have xy : XL n il y.toNatClampNeg := by rw [yn]; exact ft_in ft xs _
  have rg : RNG (kq pl lk) (XL n il) (nF f) y.toNatClampNeg := ft_rng ft xy ⟨m, mm.1, em⟩
  have ex : XL n il' = rRm (XL n il) (nF f) y.toNatClampNeg := funext fun x => propext (by
    have k := c1 x
    constructor
    · intro q
      have z := k.mp q.2
      exact ⟨⟨q.1, z.1⟩, fun ⟨i, ei⟩ => z.2 ⟨i, by rw [itr_n]; exact ei⟩⟩
    · intro q
      exact ⟨q.1.1, k.mpr ⟨q.1.2, fun ⟨i, ei⟩ => q.2 ⟨i, by rw [← itr_n]; exact ei⟩⟩⟩)
  have ew : (if f y.toNatClampNeg = y then (0 : Int32) else 1) = nI (rWt (nF f) y.toNatClampNeg) := by
    unfold rWt
    by_cases c : f y.toNatClampNeg = y
    · have c' : nF f y.toNatClampNeg = y.toNatClampNeg := by
        show (f y.toNatClampNeg).toNatClampNeg = _
        rw [c]
      rw [if_pos c, if_pos c']
      rfl
    · have c' : ¬ nF f y.toNatClampNeg = y.toNatClampNeg := fun z => c (tn_inj (hr _).1 y0 z)
      rw [if_neg c, if_neg c']
      rfl
  have w1 : rWt (nF f) y.toNatClampNeg ≤ 1 := by
    unfold rWt
    by_cases c : nF f y.toNatClampNeg = y.toNatClampNeg
    · rw [if_pos c]; omega
    · rw [if_neg c]; omega
  have ad := add1 hl.1 (by clear V u e r4 cr c1 c2 hf; grind)
  have l2 := hl.2
  have z100 : (100 : Int32).toInt = 100 := rfl
  rw [fa_le, z100] at l2
  have lt := rm_lt xl_b rg
  refine ⟨⟨r + rWt (nF f) y.toNatClampNeg, ⟨by omega, by omega⟩, ?_, fun k w q => ?_⟩, fun k hk h => hi k hk ((c1 k).mp h).1, ?_⟩
  · rw [c2, ew, e]
    exact rI_add (by omega) (by omega)
  · rw [ex] at q
    obtain ⟨k2, q2⟩ := V (k + 1) (w + rWt (nF f) y.toNatClampNeg) ⟨nF f, y.toNatClampNeg, w, rg, q, rfl⟩
    refine ⟨k2, ?_⟩
    have ee : w + (r + rWt (nF f) y.toNatClampNeg) = w + rWt (nF f) y.toNatClampNeg + r := by omega
    rw [ee]
    exact q2
  · rw [ex]
    omega
/-- rings, on both sides -/
theorem LKR.z {lk : Nat → Int32} : LKR 0 lk := fun k hk => absurd hk (by rw [z0]; omega)
theorem gd_h {p c : Int32} (t1 : ¬ p < 12) (t2 : ¬ p = 12) (t3 : (p - 12) - (p - 12) / 3 * 3 = 2) (gg : gd_ p c) : RB 0 11 (c - 97) := by
  rcases gg with ⟨q, _⟩ | ⟨q, _⟩ | ⟨_, _, q⟩
  · exact absurd q t1
  · exact absurd q t2
  · rcases q with ⟨q, _⟩ | ⟨_, q1, q2⟩ | ⟨_, q, _⟩
    · rw [t3] at q
      exact absurd q (by decide)
    · clear t1 t2 t3
      exact ⟨by grind, by grind⟩
    · exact absurd t3 q
theorem gd_l {s : Int32} {a : Nat → Int32} (q : SQ s a) (hs : RB 0 32 s) {k : Nat} (hk : (k : Int) < ((s - 12) / 3).toInt) : RB 0 11 (a (14 + 3 * k) - 97) := by
  have h18 := q.1
  have g := q.2.2.2.1
  have m := q.2.1
  have hb : (0 : Int32) ≤ s - 12 := by clear q g m; grind
  have e := mdc (x := s - 12) (c := 3) (by decide) hb
  have z3 : (3 : Int32).toInt = 3 := rfl
  have z12 : (12 : Int32).toInt = 12 := rfl
  have z32 : (32 : Int32).toInt = 32 := rfl
  have s1 := hs.1
  have s2 := hs.2
  rw [fa_le, z0] at s1
  rw [fa_le, z32] at s2
  rw [m, z3, z0, fb_subI (by omega) (by omega), z12] at e
  have d := e.1
  have d2 := e.2
  have kb : 14 + 3 * (k : Int) < s.toInt := by omega
  have w := nI_i (k := 14 + 3 * k) (by omega)
  have gg := g (nI (14 + 3 * k)) (by rw [fa_le, z0, w.1]; omega) (by rw [fa_lt, w.1]; omega)
  rw [w.2] at gg
  have kk5 : k = 0 ∨ k = 1 ∨ k = 2 ∨ k = 3 ∨ k = 4 ∨ k = 5 := by omega
  clear g m q e d d2 w hb h18
  rcases kk5 with rfl | rfl | rfl | rfl | rfl | rfl
  · exact gd_h (p := nI (14 + 3 * 0)) (by decide) (by decide) (by decide) gg
  · exact gd_h (p := nI (14 + 3 * 1)) (by decide) (by decide) (by decide) gg
  · exact gd_h (p := nI (14 + 3 * 2)) (by decide) (by decide) (by decide) gg
  · exact gd_h (p := nI (14 + 3 * 3)) (by decide) (by decide) (by decide) gg
  · exact gd_h (p := nI (14 + 3 * 4)) (by decide) (by decide) (by decide) gg
  · exact gd_h (p := nI (14 + 3 * 5)) (by decide) (by decide) (by decide) gg
theorem lk_sq {s hs hs' : Int32} {lt lk lk' : Nat → Int32} (h : RB 0 32 s) (L : LKR hs lk) (a : SQ s lt → lk' = fl hs' (fun k => lt (14 + 3 * k) - 97) lk) (b : SQ s lt → hs' = (s - 12) / 3) (c : ¬ SQ s lt → lk' = lk ∧ hs' = hs) : LKR hs' lk' := by
  by_cases q : SQ s lt
  · intro k hk
    rw [a q]
    unfold fl
    rw [if_pos hk]
    exact gd_l q h (by rw [← b q]; exact hk)
  · rw [(c q).1, (c q).2]
    exact L
theorem rings_eq {th hs HS d r R : Int32} {kd row pl so lk PL LK : Nat → Int32} (g1 : th = hs) (g2 : hs = HS) (hn : RB 0 6 hs) (hp : RA (-1) 11 pl) (T1 : hs = 0 ∨ TWN th kd d row pl so) (T5 : N6 pl = N6 PL) (T9 : N6 lk = N6 LK) (L : LKR hs lk) (x : hs = 0 ∧ r = -103 ∨ hs ≠ 0 ∧ (TRH th pl so lk → RDS th pl lk r)) (y : HS = 0 ∧ R = -103 ∨ HS ≠ 0 ∧ RDS HS PL LK R) : r = R := by
  subst g1
  subst g2
  rcases x with ⟨x1, x2⟩ | ⟨x1, x2⟩
  · rcases y with ⟨y1, y2⟩ | ⟨y1, y2⟩
    · rw [x2, y2]
    · exact absurd x1 y1
  · rcases y with ⟨y1, y2⟩ | ⟨y1, y2⟩
    · exact absurd y1 x1
    · have S := (T1.resolve_left x1).1
      obtain ⟨k, w, q, e⟩ := x2 ⟨S, hp, L, hn⟩
      obtain ⟨k', w', q', e'⟩ := y2
      have n2 := hn.2
      have z6 : (6 : Int32).toInt = 6 := rfl
      rw [fa_le, z6] at n2
      have pe : ∀ z : Nat, (z : Int) < th.toInt → pl z = PL z := fun z hz => N6_eq T5 (by omega)
      have le : ∀ z : Nat, (z : Int) < th.toInt → lk z = LK z := fun z hz => N6_eq T9 (by omega)
      have ex : X0 th PL = X0 th pl := funext fun z => propext ⟨fun v => ⟨v.1, by rw [pe z v.1]; exact v.2⟩, fun v => ⟨v.1, by rw [← pe z v.1]; exact v.2⟩⟩
      rw [ex] at q'
      have q2 : rRd (kq pl lk) k' (X0 th pl) w' := rd_congr k' _ _ (fun g h vg vh => by
        unfold kq
        rw [pe g vg.1, le h vh.1]) q'
      have u := r_uniq k _ _ _ _ x0_b (kq_inj S hp L hn) q q2
      rw [e, e', u.2]
