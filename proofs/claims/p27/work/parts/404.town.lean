/-! PURE: a night of the town, as a function -/
def N6 (a : Nat → Int32) : Nat → Int32 := fun k => if k < 6 then a k else 0
theorem N6_at {a : Nat → Int32} {k : Nat} (h : k < 6) : N6 a k = a k := if_pos h
theorem N6_ext {a b : Nat → Int32} (h : ∀ k, k < 6 → a k = b k) : N6 a = N6 b := funext fun k => by
  unfold N6
  by_cases c : k < 6
  · rw [if_pos c, if_pos c]; exact h k c
  · rw [if_neg c, if_neg c]
theorem N6_eq {a b : Nat → Int32} (h : N6 a = N6 b) {k : Nat} (hk : k < 6) : a k = b k := by
  have := congrFun h k
  rw [N6_at hk, N6_at hk] at this
  exact this
theorem N6_N6 (a : Nat → Int32) : N6 (N6 a) = N6 a := N6_ext fun k h => N6_at h
theorem N6_cpy {a b : Nat → Int32} : N6 (va_cpy a b 0 0 6) = N6 a := N6_ext fun k h => cpy_at h
theorem N6_upd {a : Nat → Int32} {i : Nat} {v : Int32} (hi : i < 6) : N6 (upd a i v) = upd (N6 a) i v := funext fun k => by
  by_cases c : k = i
  · subst c; rw [N6_at hi, pk_us, pk_us]
  · rw [pk_un c]
    unfold N6
    rw [pk_un c]
theorem N6_rot {a : Nat → Int32} {n : Int32} (hn : n ≤ 6) : N6 (rot n a) = rot n (N6 a) := funext fun k => by
  have z6 : (6 : Int32).toInt = 6 := rfl
  rw [fa_le, z6] at hn
  unfold N6 rot
  by_cases c1 : (k : Int) + 1 < n.toInt
  · have k6 : k < 6 := by omega
    have k7 : k + 1 < 6 := by omega
    simp only [if_pos c1, if_pos k6, if_pos k7]
  · by_cases c2 : (k : Int) + 1 = n.toInt
    · have k6 : k < 6 := by omega
      have k0 : 0 < 6 := by omega
      simp only [if_neg c1, if_pos c2, if_pos k6, if_pos k0]
    · simp only [if_neg c1, if_neg c2]
theorem upd_upd {a : Nat → Int32} {i : Nat} {v w : Int32} : upd (upd a i v) i w = upd a i w := funext fun k => by
  by_cases c : k = i
  · subst c; rw [pk_us, pk_us]
  · rw [pk_un c, pk_un c, pk_un c]
theorem upd_id {a : Nat → Int32} {i : Nat} {v : Int32} (h : a i = v) : upd a i v = a := funext fun k => by
  by_cases c : k = i
  · subst c; rw [pk_us, h]
  · rw [pk_un c]
/-- search for the first free beyond a plot -/
noncomputable def sr (G : Int32 → Prop) : Nat → Int32 → Int32
  | 0, p => p
  | k + 1, p => @ite _ (G (nx p)) (Classical.propDecidable _) (nx p) (sr G k (nx p))
theorem sr_y {G : Int32 → Prop} {k : Nat} {p : Int32} (h : G (nx p)) : sr G (k + 1) p = nx p := by
  unfold sr
  exact if_pos h
theorem sr_n {G : Int32 → Prop} {k : Nat} {p : Int32} (h : ¬ G (nx p)) : sr G (k + 1) p = sr G k (nx p) := by
  conv => lhs; unfold sr
  exact if_neg h
theorem sr_first {G : Int32 → Prop} : ∀ (k s : Nat) (p : Int32), 1 ≤ s → s ≤ k → G (pos p s) → (∀ t, 1 ≤ t → t < s → ¬ G (pos p t)) → sr G k p = pos p s
  | 0, s, p, h1, h2, _, _ => by omega
  | k + 1, s, p, h1, h2, h3, h4 => by
    by_cases c : s = 1
    · subst c
      exact sr_y h3
    · obtain ⟨r, rfl⟩ : ∃ r, s = r + 1 := ⟨s - 1, by omega⟩
      have q : ¬ G (nx p) := h4 1 (by omega) (by omega)
      rw [sr_n q]
      exact sr_first k r (nx p) (by omega) (by omega) h3 (fun t t1 t2 => h4 (t + 1) (by omega) (by omega))
theorem sr_rng {G : Int32 → Prop} : ∀ (k : Nat) {p : Int32}, RB 0 11 p → RB 0 11 (sr G k p)
  | 0, p, h => h
  | k + 1, p, h => by
    have q := (nx_i h).2
    by_cases c : G (nx p)
    · rw [sr_y c]; exact q
    · rw [sr_n c]; exact sr_rng k q
theorem sr_congr {G G' : Int32 → Prop} (e : ∀ q, RB 0 11 q → (G q ↔ G' q)) : ∀ (k : Nat) {p : Int32}, RB 0 11 p → sr G k p = sr G' k p
  | 0, p, h => rfl
  | k + 1, p, h => by
    have q := (nx_i h).2
    by_cases c : G (nx p)
    · rw [sr_y c, sr_y ((e _ q).mp c)]
    · rw [sr_n c, sr_n (fun w => c ((e _ q).mpr w))]; exact sr_congr e k q
theorem sr_hit {G : Int32 → Prop} : ∀ (k s : Nat) {p : Int32}, 1 ≤ s → s ≤ k → G (pos p s) → G (sr G k p)
  | 0, s, p, h1, h2, _ => by omega
  | k + 1, s, p, h1, h2, h3 => by
    by_cases c : G (nx p)
    · rw [sr_y c]; exact c
    · rw [sr_n c]
      by_cases q : s = 1
      · subst q; exact absurd h3 c
      · obtain ⟨r, rfl⟩ : ∃ r, s = r + 1 := ⟨s - 1, by omega⟩
        exact sr_hit k r (by omega) (by omega) h3
theorem sr_more {G : Int32 → Prop} : ∀ (k j s : Nat) {p : Int32}, 1 ≤ s → s ≤ k → G (pos p s) → sr G (k + j) p = sr G k p
  | 0, j, s, p, h1, h2, _ => by omega
  | k + 1, j, s, p, h1, h2, h3 => by
    have e : k + 1 + j = (k + j) + 1 := by omega
    rw [e]
    by_cases c : G (nx p)
    · rw [sr_y c, sr_y c]
    · rw [sr_n c, sr_n c]
      by_cases q : s = 1
      · subst q; exact absurd h3 c
      · obtain ⟨r, rfl⟩ : ∃ r, s = r + 1 := ⟨s - 1, by omega⟩
        exact sr_more k j r (by omega) (by omega) h3
theorem pos_eq {a l : Int32} (h : RB 0 11 a) (hl : 0 ≤ l ∧ l ≤ 1000) : (a + l) - (a + l) / 12 * 12 = pos a l.toNatClampNeg := by
  have e := (mdc (x := a + l) (c := 12) (by decide) (by grind)).1
  have r := (pos_i l.toNatClampNeg h).1
  have t := tnc hl.1
  have z : (12 : Int32).toInt = 12 := rfl
  have h1 := h.1
  have h2 := h.2
  have l1 := hl.1
  have l2 := hl.2
  have z11 : (11 : Int32).toInt = 11 := rfl
  have zk : (1000 : Int32).toInt = 1000 := rfl
  rw [fa_le, z0] at h1 l1
  rw [fa_le, z11] at h2
  rw [fa_le, zk] at l2
  rw [fb_addI (by omega) (by omega), z] at e
  rw [fa_eq, e, r, t]
/-- a house moved: where to -/
noncomputable def mvq (n : Int32) (kd : Nat → Int32) (f : Int32) (row pl : Nat → Int32) : Int32 := if kd (row 0).toNatClampNeg = 3 then sr (FR n pl) 11 (sr (FR n pl) 11 f) else sr (FR n pl) 11 f
theorem mvq_r {n f : Int32} {kd row pl : Nat → Int32} (h : RB 0 11 f) : RB 0 11 (mvq n kd f row pl) := by
  unfold mvq
  by_cases c : kd (row 0).toNatClampNeg = 3
  · rw [if_pos c]; exact sr_rng _ (sr_rng _ h)
  · rw [if_neg c]; exact sr_rng _ h
theorem fr_free {n f : Int32} {pl : Nat → Int32} (h : RB 0 11 f) (hn : n ≤ 6) : FR n pl (sr (FR n pl) 11 f) := by
  obtain ⟨s, s1, s2, s3⟩ := free_in (n := n) (a := pl) h hn
  exact sr_hit 11 s s1 (by omega) s3
theorem mvq_free {n f : Int32} {kd row pl : Nat → Int32} (h : RB 0 11 f) (hn : n ≤ 6) : FR n pl (mvq n kd f row pl) := by
  unfold mvq
  by_cases c : kd (row 0).toNatClampNeg = 3
  · rw [if_pos c]; exact fr_free (sr_rng _ h) hn
  · rw [if_neg c]; exact fr_free h hn
/-- who stands where -/
def SOC (n : Int32) (pl so : Nat → Int32) : Prop := (∀ p h : Int32, RB 0 11 p → 0 ≤ h → h < n → (pl h.toNatClampNeg = p ↔ so p.toNatClampNeg = h)) ∧ ∀ p : Int32, RB 0 11 p → so p.toNatClampNeg = -1 ∨ (0 ≤ so p.toNatClampNeg ∧ so p.toNatClampNeg < n)
theorem SOC.fr {n : Int32} {pl so : Nat → Int32} (h : SOC n pl so) (q : Int32) (hq : RB 0 11 q) : so q.toNatClampNeg = -1 ↔ FR n pl q := by
  constructor
  · intro e x x0 x1 w
    have := (h.1 q x hq x0 x1).mp w
    rw [e] at this
    rw [← this] at x0
    exact absurd x0 (by decide)
  · intro w
    rcases h.2 q hq with e | e
    · exact e
    · exact absurd ((h.1 q _ hq e.1 e.2).mpr rfl) (w _ e.1 e.2)
theorem tn12 {p : Int32} (h : RB 0 11 p) : p.toNatClampNeg < 12 := by
  have t := tnc h.1
  have h2 := h.2
  have z11 : (11 : Int32).toInt = 11 := rfl
  rw [fa_le, z11] at h2
  omega
theorem soc_leave {n h : Int32} {pl so : Nat → Int32} (S : SOC n pl so) (hp : RA (-1) 11 pl) (hh : 0 ≤ h ∧ h < n) (c : ¬ pl h.toNatClampNeg = -1) : SOC n (upd pl h.toNatClampNeg (-1)) (upd so (pl h.toNatClampNeg).toNatClampNeg (-1)) := by
  have hr : RB 0 11 (pl h.toNatClampNeg) := by have := hp h.toNatClampNeg; grind
  have e0 := (S.1 (pl h.toNatClampNeg) h hr hh.1 hh.2).mp rfl
  refine ⟨fun p x hp2 x0 x1 => ?_, fun p hp2 => ?_⟩
  · by_cases q : p = pl h.toNatClampNeg
    · subst q
      rw [pk_us]
      by_cases w : x = h
      · subst w
        rw [pk_us]
        constructor
        · intro z; exact absurd z.symm c
        · intro z; rw [← z] at x0; exact absurd x0 (by decide)
      · rw [pk_un (fun z => w (tn_inj x0 hh.1 z))]
        constructor
        · intro z
          have := (S.1 _ x hp2 x0 x1).mp z
          rw [e0] at this
          exact absurd this.symm w
        · intro z; rw [← z] at x0; exact absurd x0 (by decide)
    · rw [pk_un (fun z => q (tn_inj hp2.1 hr.1 z))]
      by_cases w : x = h
      · subst w
        rw [pk_us]
        constructor
        · intro z; rw [← z] at hp2; exact absurd hp2.1 (by decide)
        · intro z
          have := (S.1 p x hp2 x0 x1).mpr z
          exact absurd this.symm q
      · rw [pk_un (fun z => w (tn_inj x0 hh.1 z))]
        exact S.1 p x hp2 x0 x1
  · by_cases q : p = pl h.toNatClampNeg
    · subst q; rw [pk_us]; exact Or.inl rfl
    · rw [pk_un (fun z => q (tn_inj hp2.1 hr.1 z))]; exact S.2 p hp2
theorem soc_put {n h q : Int32} {pl so : Nat → Int32} (S : SOC n pl so) (hh : 0 ≤ h ∧ h < n) (hq : RB 0 11 q) (c : pl h.toNatClampNeg = -1) (f : so q.toNatClampNeg = -1) : SOC n (upd pl h.toNatClampNeg q) (upd so q.toNatClampNeg h) := by
  have ff := (S.fr q hq).mp f
  refine ⟨fun p x hp2 x0 x1 => ?_, fun p hp2 => ?_⟩
  · by_cases e : p = q
    · subst e
      rw [pk_us]
      by_cases w : x = h
      · subst w; rw [pk_us]; exact ⟨fun _ => rfl, fun _ => rfl⟩
      · rw [pk_un (fun z => w (tn_inj x0 hh.1 z))]
        constructor
        · intro z; exact absurd z (ff x x0 x1)
        · intro z; exact absurd z.symm w
    · rw [pk_un (fun z => e (tn_inj hp2.1 hq.1 z))]
      by_cases w : x = h
      · subst w
        rw [pk_us]
        constructor
        · intro z; exact absurd z.symm e
        · intro z
          have := (S.1 p x hp2 x0 x1).mpr z
          rw [c] at this
          rw [← this] at hp2
          exact absurd hp2.1 (by decide)
      · rw [pk_un (fun z => w (tn_inj x0 hh.1 z))]
        exact S.1 p x hp2 x0 x1
  · by_cases e : p = q
    · subst e; rw [pk_us]; exact Or.inr hh
    · rw [pk_un (fun z => e (tn_inj hp2.1 hq.1 z))]; exact S.2 p hp2
/-- the row's houses -/
def RH (n : Int32) (row : Nat → Int32) : Prop := ∀ k : Nat, (k : Int) < n.toInt → 0 ≤ row k ∧ row k < n
theorem RH.rot' {n : Int32} {row : Nat → Int32} (h : RH n row) (h1 : 1 ≤ n) : RH n (rot n row) := fun k hk => by
  have o : (1 : Int32).toInt = 1 := rfl
  rw [fa_le, o] at h1
  unfold rot
  by_cases c1 : (k : Int) + 1 < n.toInt
  · rw [if_pos c1]; exact h (k + 1) (by omega)
  · rw [if_neg c1]
    by_cases c2 : (k : Int) + 1 = n.toInt
    · rw [if_pos c2]; exact h 0 (by omega)
    · rw [if_neg c2]; exact h k hk
theorem RH.h0 {n : Int32} {row : Nat → Int32} (h : RH n row) (h1 : 1 ≤ n) : 0 ≤ row 0 ∧ row 0 < n := h 0 (by
  have o : (1 : Int32).toInt = 1 := rfl
  rw [fa_le, o] at h1
  omega)
/-- one night -/
noncomputable def tnM (kd : Nat → Int32) (d : Int32) (row : Nat → Int32) : Int32 := if 1 < d then 0 else if d = 1 then 1 else if kd (row 0).toNatClampNeg = 2 then 2 else 1
noncomputable def mvS (n : Int32) (kd : Nat → Int32) (s : Int32 × (Nat → Int32) × (Nat → Int32)) : Int32 × (Nat → Int32) × (Nat → Int32) := (mvq n kd s.1 s.2.1 s.2.2, rot n s.2.1, upd s.2.2 (s.2.1 0).toNatClampNeg (mvq n kd s.1 s.2.1 s.2.2))
noncomputable def tnS (n : Int32) (kd : Nat → Int32) (s : Int32 × Int32 × (Nat → Int32) × (Nat → Int32)) : Int32 × Int32 × (Nat → Int32) × (Nat → Int32) :=
  if 1 < s.2.1 then (s.1, s.2.1 - 1, s.2.2.1, s.2.2.2)
  else if s.2.1 = 1 then ((mvS n kd (s.1, s.2.2)).1, 0, (mvS n kd (s.1, s.2.2)).2)
  else if kd (s.2.2.1 0).toNatClampNeg = 1 then (s.1, 1, s.2.2.1, upd s.2.2.2 (s.2.2.1 0).toNatClampNeg (-1))
  else if kd (s.2.2.1 0).toNatClampNeg = 4 then (s.1, 2, s.2.2.1, upd s.2.2.2 (s.2.2.1 0).toNatClampNeg (-1))
  else if kd (s.2.2.1 0).toNatClampNeg = 2 then ((mvS n kd (mvS n kd (s.1, s.2.2))).1, 0, (mvS n kd (mvS n kd (s.1, s.2.2))).2)
  else ((mvS n kd (s.1, s.2.2)).1, 0, (mvS n kd (s.1, s.2.2)).2)
theorem fb_end {so : Nat → Int32} {a l x y : Int32} (e : ∀ t : Nat, 1 ≤ t → (t : Int) < l.toInt → ¬ so (pos a t).toNatClampNeg = -1) (c : 12 ≤ l) : (∃ s : Nat, 1 ≤ s ∧ s ≤ 7 ∧ so (pos a s).toNatClampNeg = -1) → x = y := fun ⟨s, s1, s2, s3⟩ => by
  have z : (12 : Int32).toInt = 12 := rfl
  rw [fa_le, z] at c
  exact absurd s3 (e s s1 (by omega))
theorem fb_hit {so : Nat → Int32} {a l : Int32} (ha : RB 0 11 a) (hl : 1 ≤ l ∧ l < 12) (e : ∀ t : Nat, 1 ≤ t → (t : Int) < l.toInt → ¬ so (pos a t).toNatClampNeg = -1) (c : so ((a + l) - (a + l) / 12 * 12).toNatClampNeg = -1) : (a + l) - (a + l) / 12 * 12 = sr (fun q => so q.toNatClampNeg = -1) 11 a := by
  have h0 : (0 : Int32) ≤ l := by grind
  rw [pos_eq ha ⟨h0, by grind⟩] at c ⊢
  have t := tnc h0
  have l1 := hl.1
  have l2 := hl.2
  have o : (1 : Int32).toInt = 1 := rfl
  have z : (12 : Int32).toInt = 12 := rfl
  rw [fa_le, o] at l1
  rw [fa_lt, z] at l2
  exact (sr_first 11 l.toNatClampNeg a (by omega) (by omega) c (fun t t1 t2 => e t t1 (by omega))).symm
theorem fb_step {so : Nat → Int32} {a l : Int32} (ha : RB 0 11 a) (hl : 1 ≤ l ∧ l < 12) (e : ∀ t : Nat, 1 ≤ t → (t : Int) < l.toInt → ¬ so (pos a t).toNatClampNeg = -1) (c : ¬ so ((a + l) - (a + l) / 12 * 12).toNatClampNeg = -1) : ∀ t : Nat, 1 ≤ t → (t : Int) < (l + 1).toInt → ¬ so (pos a t).toNatClampNeg = -1 := fun t t1 t2 => by
  have h0 : (0 : Int32) ≤ l := by clear e c; grind
  rw [pos_eq ha ⟨h0, by clear e c; grind⟩] at c
  have tt := tnc h0
  rw [add1 h0 (by clear e c; grind)] at t2
  by_cases q : t = l.toNatClampNeg
  · subst q; exact c
  · exact e t t1 (by omega)
theorem soc_ex {n f : Int32} {pl so : Nat → Int32} (S : SOC n pl so) (hf : RB 0 11 f) (hn : n ≤ 6) : ∃ s : Nat, 1 ≤ s ∧ s ≤ 7 ∧ so (pos f s).toNatClampNeg = -1 := by
  obtain ⟨s, s1, s2, s3⟩ := free_in (n := n) (a := pl) hf hn
  exact ⟨s, s1, s2, (S.fr _ (pos_i s hf).2).mpr s3⟩
theorem mv_one {n f x : Int32} {kd row pl so : Nat → Int32} (S : SOC n pl so) (hf : RB 0 11 f) (hn : n ≤ 6) (c : ¬ kd (row 0).toNatClampNeg = 3) (h1 : (∃ s : Nat, 1 ≤ s ∧ s ≤ 7 ∧ so (pos f s).toNatClampNeg = -1) → x = sr (fun q => so q.toNatClampNeg = -1) 11 f) : x = mvq n kd f row pl := by
  unfold mvq
  rw [if_neg c, h1 (soc_ex S hf hn)]
  exact sr_congr (fun q hq => S.fr q hq) 11 hf
theorem mv_shop {n f x y : Int32} {kd row pl so : Nat → Int32} (S : SOC n pl so) (hf : RB 0 11 f) (hx : RB 0 11 x) (hn : n ≤ 6) (c : kd (row 0).toNatClampNeg = 3) (h1 : (∃ s : Nat, 1 ≤ s ∧ s ≤ 7 ∧ so (pos f s).toNatClampNeg = -1) → x = sr (fun q => so q.toNatClampNeg = -1) 11 f) (h2 : (∃ s : Nat, 1 ≤ s ∧ s ≤ 7 ∧ so (pos x s).toNatClampNeg = -1) → y = sr (fun q => so q.toNatClampNeg = -1) 11 x) : y = mvq n kd f row pl := by
  unfold mvq
  rw [if_pos c, h2 (soc_ex S hx hn)]
  have e := h1 (soc_ex S hf hn)
  rw [sr_congr (fun q hq => S.fr q hq) 11 hx, e, sr_congr (fun q hq => S.fr q hq) 11 hf]
theorem mv_fin {n l1 l2 f : Int32} {kd row pl so p' s' : Nat → Int32} (S : SOC n pl so) (R : RH n row) (hp : RA (-1) 11 pl) (hn : RB 1 6 n) (hf : RB 0 11 f) (e0 : l1 = row 0) (el : SOC n pl so → l2 = mvq n kd f row pl) (hx : pl l1.toNatClampNeg = -1 ∧ p' = pl ∧ s' = so ∨ ¬ pl l1.toNatClampNeg = -1 ∧ p' = upd pl l1.toNatClampNeg (-1) ∧ s' = upd so (pl l1.toNatClampNeg).toNatClampNeg (-1)) : l2 = mvq n kd f row pl ∧ upd p' l1.toNatClampNeg l2 = upd pl (row 0).toNatClampNeg l2 ∧ SOC n (upd p' l1.toNatClampNeg l2) (upd s' l2.toNatClampNeg l1) := by
  have e := el S
  subst e0
  have hh := R.h0 hn.1
  have hq : RB 0 11 l2 := by rw [e]; exact mvq_r hf
  have fr : FR n pl l2 := by rw [e]; exact mvq_free hf hn.2
  have sf := (S.fr l2 hq).mpr fr
  refine ⟨e, ?_, ?_⟩
  · rcases hx with hx | hx
    · rw [hx.2.1]
    · rw [hx.2.1, upd_upd]
  · rcases hx with hx | hx
    · rw [hx.2.1, hx.2.2]
      exact soc_put S hh hq hx.1 sf
    · rw [hx.2.1, hx.2.2]
      have S2 := soc_leave S hp hh hx.1
      refine soc_put S2 hh hq pk_us ?_
      have hr : RB 0 11 (pl (row 0).toNatClampNeg) := by
        have := hp (row 0).toNatClampNeg
        have := hx.1
        clear hx
        grind
      by_cases w : l2 = pl (row 0).toNatClampNeg
      · rw [w, pk_us]
      · rw [pk_un (fun z => w (tn_inj hq.1 hr.1 z))]; exact sf
/-- a town that is sound -/
def TWN (n : Int32) (kd : Nat → Int32) (d : Int32) (row pl so : Nat → Int32) : Prop := SOC n pl so ∧ RH n row ∧ (0 < d → (kd (row 0).toNatClampNeg = 1 ∨ kd (row 0).toNatClampNeg = 4) ∧ pl (row 0).toNatClampNeg = -1) ∧ (0 ≤ d ∧ d ≤ 2)
theorem tn_wait {n d f : Int32} {kd row pl so : Nat → Int32} (T : TWN n kd d row pl so) (c : ¬ d ≤ 1) : (0 : Int32) = tnM kd d row ∧ (f, d - 1, row, pl) = tnS n kd (f, d, row, pl) ∧ TWN n kd (d - 1) row pl so := by
  have c2 : 1 < d := by grind
  have hd := T.2.2.2
  refine ⟨?_, ?_, T.1, T.2.1, fun _ => T.2.2.1 (by grind), by grind⟩
  · unfold tnM; rw [if_pos c2]
  · unfold tnS
    show _ = if 1 < d then _ else _
    rw [if_pos c2]
theorem tn_down {n d f d' : Int32} {kd row pl so p' s' : Nat → Int32} (T : TWN n kd d row pl so) (hp : RA (-1) 11 pl) (hn : RB 1 6 n) (c0 : d = 0) (c1 : kd (row 0).toNatClampNeg = 4 ∧ d' = 2 ∨ kd (row 0).toNatClampNeg = 1 ∧ d' = 1) (hx : pl (row 0).toNatClampNeg = -1 ∧ p' = pl ∧ s' = so ∨ ¬ pl (row 0).toNatClampNeg = -1 ∧ p' = upd pl (row 0).toNatClampNeg (-1) ∧ s' = upd so (pl (row 0).toNatClampNeg).toNatClampNeg (-1)) : (1 : Int32) = tnM kd d row ∧ (f, d', row, p') = tnS n kd (f, d, row, pl) ∧ TWN n kd d' row p' s' := by
  subst c0
  have e : p' = upd pl (row 0).toNatClampNeg (-1) := by
    rcases hx with hx | hx
    · rw [hx.2.1, upd_id hx.1]
    · exact hx.2.1
  have S : SOC n p' s' := by
    rcases hx with hx | hx
    · rw [hx.2.1, hx.2.2]; exact T.1
    · rw [hx.2.1, hx.2.2]; exact soc_leave T.1 hp (T.2.1.h0 hn.1) hx.1
  refine ⟨?_, ?_, S, T.2.1, fun _ => ?_, ?_⟩
  · unfold tnM
    rw [if_neg (by decide), if_neg (by decide), if_neg]
    rcases c1 with c1 | c1
    · rw [c1.1]; decide
    · rw [c1.1]; decide
  · unfold tnS
    show _ = if (1 : Int32) < 0 then _ else if (0 : Int32) = 1 then _ else if kd (row 0).toNatClampNeg = 1 then (f, 1, row, upd pl (row 0).toNatClampNeg (-1)) else if kd (row 0).toNatClampNeg = 4 then (f, 2, row, upd pl (row 0).toNatClampNeg (-1)) else _
    rw [if_neg (by decide), if_neg (by decide)]
    rcases c1 with c1 | c1
    · rw [if_neg (by rw [c1.1]; decide), if_pos c1.1, e, c1.2]
    · rw [if_pos c1.1, e, c1.2]
  · refine ⟨?_, by rw [e, pk_us]⟩
    rcases c1 with c1 | c1
    · exact Or.inr c1.1
    · exact Or.inl c1.1
  · rcases c1 with c1 | c1
    · rw [c1.2]; decide
    · rw [c1.2]; decide
theorem tn_mv1 {n d f x1 : Int32} {kd row pl so xr xs xp : Nat → Int32} (T : TWN n kd d row pl so) (hn : RB 1 6 n) (c : d ≤ 1 ∧ (d = 0 → ¬ kd (row 0).toNatClampNeg = 1 ∧ ¬ kd (row 0).toNatClampNeg = 4)) (c2 : ¬ kd (row 0).toNatClampNeg = 2) (hr : xr = rot n row) (hm : SOC n pl so → RH n row → x1 = mvq n kd f row pl ∧ xp = upd pl (row 0).toNatClampNeg x1 ∧ SOC n xp xs) : (1 : Int32) = tnM kd d row ∧ (x1, (0 : Int32), xr, xp) = tnS n kd (f, d, row, pl) ∧ TWN n kd 0 xr xp xs := by
  obtain ⟨m1, m2, m3⟩ := hm T.1 T.2.1
  have hd := T.2.2.2
  have n1 : ¬ 1 < d := by have := c.1; clear c hm; grind
  refine ⟨?_, ?_, m3, by rw [hr]; exact T.2.1.rot' hn.1, fun q => absurd q (by decide), by decide⟩
  · unfold tnM
    rw [if_neg n1]
    by_cases q : d = 1
    · rw [if_pos q]
    · rw [if_neg q, if_neg c2]
  · unfold tnS mvS
    show _ = if 1 < d then _ else if d = 1 then (mvq n kd f row pl, 0, rot n row, upd pl (row 0).toNatClampNeg (mvq n kd f row pl)) else if kd (row 0).toNatClampNeg = 1 then _ else if kd (row 0).toNatClampNeg = 4 then _ else if kd (row 0).toNatClampNeg = 2 then _ else (mvq n kd f row pl, 0, rot n row, upd pl (row 0).toNatClampNeg (mvq n kd f row pl))
    rw [if_neg n1]
    by_cases q : d = 1
    · rw [if_pos q, hr, m2, m1]
    · have d0 : d = 0 := by have := c.1; clear c hm; grind
      rw [if_neg q, if_neg (c.2 d0).1, if_neg (c.2 d0).2, if_neg c2, hr, m2, m1]
theorem tn_mv2 {n d f x1 y1 : Int32} {kd row pl so xr xs xp yr ys yp : Nat → Int32} (T : TWN n kd d row pl so) (hn : RB 1 6 n) (c : d ≤ 1 ∧ (d = 0 → ¬ kd (row 0).toNatClampNeg = 1 ∧ ¬ kd (row 0).toNatClampNeg = 4)) (c2 : kd (row 0).toNatClampNeg = 2) (hr : xr = rot n row) (hm : SOC n pl so → RH n row → x1 = mvq n kd f row pl ∧ xp = upd pl (row 0).toNatClampNeg x1 ∧ SOC n xp xs) (gr : yr = rot n xr) (gm : SOC n xp xs → RH n xr → y1 = mvq n kd x1 xr xp ∧ yp = upd xp (xr 0).toNatClampNeg y1 ∧ SOC n yp ys) : (2 : Int32) = tnM kd d row ∧ (y1, (0 : Int32), yr, yp) = tnS n kd (f, d, row, pl) ∧ TWN n kd 0 yr yp ys := by
  obtain ⟨m1, m2, m3⟩ := hm T.1 T.2.1
  have R2 : RH n xr := by rw [hr]; exact T.2.1.rot' hn.1
  obtain ⟨w1, w2, w3⟩ := gm m3 R2
  have hd := T.2.2.2
  have d0 : d = 0 := by
    by_cases q : 0 < d
    · have := (T.2.2.1 q).1
      rw [c2] at this
      exact absurd this (by decide)
    · clear hm gm c; grind
  refine ⟨?_, ?_, w3, by rw [gr]; exact R2.rot' hn.1, fun q => absurd q (by decide), by decide⟩
  · unfold tnM
    rw [if_neg (by rw [d0]; decide), if_neg (by rw [d0]; decide), if_pos c2]
  · subst d0
    unfold tnS mvS
    show _ = if (1 : Int32) < 0 then _ else if (0 : Int32) = 1 then _ else if kd (row 0).toNatClampNeg = 1 then _ else if kd (row 0).toNatClampNeg = 4 then _ else if kd (row 0).toNatClampNeg = 2 then (mvq n kd (mvq n kd f row pl) (rot n row) (upd pl (row 0).toNatClampNeg (mvq n kd f row pl)), 0, rot n (rot n row), upd (upd pl (row 0).toNatClampNeg (mvq n kd f row pl)) ((rot n row) 0).toNatClampNeg (mvq n kd (mvq n kd f row pl) (rot n row) (upd pl (row 0).toNatClampNeg (mvq n kd f row pl)))) else _
    rw [if_neg (by decide), if_neg (by decide), if_neg (by rw [c2]; decide), if_neg (by rw [c2]; decide), if_pos c2, gr, w2, w1, m2, m1, hr]
/-- the reference's night -/
theorem tr_wait {n d f : Int32} {kd row pl : Nat → Int32} (hd : 0 ≤ d ∧ d ≤ 2) (c : ¬ d - 1 ≤ 0) : (0 : Int32) = tnM kd d row ∧ (f, d - 1, row, pl) = tnS n kd (f, d, row, pl) ∧ (0 ≤ d - 1 ∧ d - 1 ≤ 2) := by
  have c2 : 1 < d := by grind
  refine ⟨?_, ?_, by grind⟩
  · unfold tnM; rw [if_pos c2]
  · unfold tnS
    show _ = if 1 < d then _ else _
    rw [if_pos c2]
theorem tr_up {n d f x1 : Int32} {kd row pl xr xp : Nat → Int32} (hd : 0 ≤ d ∧ d ≤ 2) (c0 : ¬ d ≤ 0) (c : d - 1 ≤ 0) (hr : xr = rot n row) (hm : x1 = mvq n kd f row pl ∧ xp = upd pl (row 0).toNatClampNeg x1) : (1 : Int32) = tnM kd d row ∧ (x1, d - 1, xr, xp) = tnS n kd (f, d, row, pl) ∧ (0 ≤ d - 1 ∧ d - 1 ≤ 2) := by
  have d1 : d = 1 := by grind
  subst d1
  refine ⟨?_, ?_, by decide⟩
  · unfold tnM; rw [if_neg (by decide), if_pos rfl]
  · unfold tnS mvS
    show _ = if (1 : Int32) < 1 then _ else if (1 : Int32) = 1 then (mvq n kd f row pl, 0, rot n row, upd pl (row 0).toNatClampNeg (mvq n kd f row pl)) else _
    rw [if_neg (by decide), if_pos rfl, hr, hm.2, hm.1]
    rfl
theorem tr_down1 {n d f : Int32} {kd row pl : Nat → Int32} (hd : 0 ≤ d ∧ d ≤ 2) (c0 : d ≤ 0) (c1 : kd (row 0).toNatClampNeg = 1) : (1 : Int32) = tnM kd d row ∧ (f, (1 : Int32), row, upd pl (row 0).toNatClampNeg (-1)) = tnS n kd (f, d, row, pl) ∧ (0 ≤ (1 : Int32) ∧ (1 : Int32) ≤ 2) := by
  have d0 : d = 0 := by grind
  subst d0
  refine ⟨?_, ?_, by decide⟩
  · unfold tnM; rw [if_neg (by decide), if_neg (by decide), if_neg (by rw [c1]; decide)]
  · unfold tnS
    show _ = if (1 : Int32) < 0 then _ else if (0 : Int32) = 1 then _ else if kd (row 0).toNatClampNeg = 1 then (f, 1, row, upd pl (row 0).toNatClampNeg (-1)) else _
    rw [if_neg (by decide), if_neg (by decide), if_pos c1]
theorem tr_down4 {n d f : Int32} {kd row pl : Nat → Int32} (hd : 0 ≤ d ∧ d ≤ 2) (c0 : d ≤ 0) (c1 : kd (row 0).toNatClampNeg = 4) : (1 : Int32) = tnM kd d row ∧ (f, (2 : Int32), row, upd pl (row 0).toNatClampNeg (-1)) = tnS n kd (f, d, row, pl) ∧ (0 ≤ (2 : Int32) ∧ (2 : Int32) ≤ 2) := by
  have d0 : d = 0 := by grind
  subst d0
  refine ⟨?_, ?_, by decide⟩
  · unfold tnM; rw [if_neg (by decide), if_neg (by decide), if_neg (by rw [c1]; decide)]
  · unfold tnS
    show _ = if (1 : Int32) < 0 then _ else if (0 : Int32) = 1 then _ else if kd (row 0).toNatClampNeg = 1 then _ else if kd (row 0).toNatClampNeg = 4 then (f, 2, row, upd pl (row 0).toNatClampNeg (-1)) else _
    rw [if_neg (by decide), if_neg (by decide), if_neg (by rw [c1]; decide), if_pos c1]
theorem tr_one {n d f x1 : Int32} {kd row pl xr xp : Nat → Int32} (hd : 0 ≤ d ∧ d ≤ 2) (c0 : d ≤ 0) (c1 : ¬ kd (row 0).toNatClampNeg = 1) (c4 : ¬ kd (row 0).toNatClampNeg = 4) (c2 : ¬ kd (row 0).toNatClampNeg = 2) (hr : xr = rot n row) (hm : x1 = mvq n kd f row pl ∧ xp = upd pl (row 0).toNatClampNeg x1) : (1 : Int32) = tnM kd d row ∧ (x1, d, xr, xp) = tnS n kd (f, d, row, pl) ∧ (0 ≤ d ∧ d ≤ 2) := by
  have d0 : d = 0 := by grind
  subst d0
  refine ⟨?_, ?_, by decide⟩
  · unfold tnM; rw [if_neg (by decide), if_neg (by decide), if_neg c2]
  · unfold tnS mvS
    show _ = if (1 : Int32) < 0 then _ else if (0 : Int32) = 1 then _ else if kd (row 0).toNatClampNeg = 1 then _ else if kd (row 0).toNatClampNeg = 4 then _ else if kd (row 0).toNatClampNeg = 2 then _ else (mvq n kd f row pl, 0, rot n row, upd pl (row 0).toNatClampNeg (mvq n kd f row pl))
    rw [if_neg (by decide), if_neg (by decide), if_neg c1, if_neg c4, if_neg c2, hr, hm.2, hm.1]
theorem tr_two {n d f x1 y1 : Int32} {kd row pl xr xp yr yp : Nat → Int32} (hd : 0 ≤ d ∧ d ≤ 2) (c0 : d ≤ 0) (c2 : kd (row 0).toNatClampNeg = 2) (hr : xr = rot n row) (hm : x1 = mvq n kd f row pl ∧ xp = upd pl (row 0).toNatClampNeg x1) (gr : yr = rot n xr) (gm : y1 = mvq n kd x1 xr xp ∧ yp = upd xp (xr 0).toNatClampNeg y1) : (2 : Int32) = tnM kd d row ∧ (y1, d, yr, yp) = tnS n kd (f, d, row, pl) ∧ (0 ≤ d ∧ d ≤ 2) := by
  have d0 : d = 0 := by grind
  subst d0
  refine ⟨?_, ?_, by decide⟩
  · unfold tnM; rw [if_neg (by decide), if_neg (by decide), if_pos c2]
  · unfold tnS mvS
    show _ = if (1 : Int32) < 0 then _ else if (0 : Int32) = 1 then _ else if kd (row 0).toNatClampNeg = 1 then _ else if kd (row 0).toNatClampNeg = 4 then _ else if kd (row 0).toNatClampNeg = 2 then (mvq n kd (mvq n kd f row pl) (rot n row) (upd pl (row 0).toNatClampNeg (mvq n kd f row pl)), 0, rot n (rot n row), upd (upd pl (row 0).toNatClampNeg (mvq n kd f row pl)) ((rot n row) 0).toNatClampNeg (mvq n kd (mvq n kd f row pl) (rot n row) (upd pl (row 0).toNatClampNeg (mvq n kd f row pl)))) else _
    rw [if_neg (by decide), if_neg (by decide), if_neg (by rw [c2]; decide), if_neg (by rw [c2]; decide), if_pos c2, gr, gm.2, gm.1, hm.2, hm.1, hr]
theorem tnM_N6 {d : Int32} {kd row : Nat → Int32} (h : 0 ≤ row 0 ∧ row 0 ≤ 5) : tnM (N6 kd) d (N6 row) = tnM kd d row := by
  unfold tnM
  rw [N6_at (a := row) (by decide : 0 < 6), N6_at (tn_lt6 (n := 6) ⟨h.1, by grind⟩ (by decide))]
theorem mvq_N6 {n f : Int32} {kd row pl : Nat → Int32} (hn : n ≤ 6) (hf : RB 0 11 f) (h : 0 ≤ row 0 ∧ row 0 ≤ 5) : mvq n (N6 kd) f (N6 row) (N6 pl) = mvq n kd f row pl := by
  have e : ∀ q, RB 0 11 q → (FR n (N6 pl) q ↔ FR n pl q) := fun q _ => by
    constructor
    · intro w x x0 x1
      have := w x x0 x1
      rw [N6_at (tn_lt6 ⟨x0, x1⟩ hn)] at this
      exact this
    · intro w x x0 x1
      rw [N6_at (tn_lt6 ⟨x0, x1⟩ hn)]
      exact w x x0 x1
  unfold mvq
  rw [N6_at (a := row) (by decide : 0 < 6), N6_at (tn_lt6 (n := 6) ⟨h.1, by grind⟩ (by decide)), sr_congr e 11 hf, sr_congr e 11 (sr_rng 11 hf)]
theorem mvS_N6 {n f : Int32} {kd row pl : Nat → Int32} (hn : n ≤ 6) (hf : RB 0 11 f) (h : 0 ≤ row 0 ∧ row 0 ≤ 5) : mvS n (N6 kd) (f, N6 row, N6 pl) = ((mvS n kd (f, row, pl)).1, N6 (mvS n kd (f, row, pl)).2.1, N6 (mvS n kd (f, row, pl)).2.2) := by
  unfold mvS
  show (mvq n (N6 kd) f (N6 row) (N6 pl), rot n (N6 row), upd (N6 pl) ((N6 row) 0).toNatClampNeg (mvq n (N6 kd) f (N6 row) (N6 pl))) = (mvq n kd f row pl, N6 (rot n row), N6 (upd pl (row 0).toNatClampNeg (mvq n kd f row pl)))
  rw [mvq_N6 hn hf h, N6_rot hn, N6_at (a := row) (by decide : 0 < 6), N6_upd (tn_lt6 (n := 6) ⟨h.1, by grind⟩ (by decide))]
theorem rot_ra {n : Int32} {a : Nat → Int32} {lo hi : Int32} (h : RA lo hi a) : RA lo hi (rot n a) := fun k => by
  unfold rot
  by_cases c1 : (k : Int) + 1 < n.toInt
  · rw [if_pos c1]; exact h _
  · rw [if_neg c1]
    by_cases c2 : (k : Int) + 1 = n.toInt
    · rw [if_pos c2]; exact h _
    · rw [if_neg c2]; exact h _
/-- a night, of the first six cells alone -/
theorem tnS_N6 {n f d : Int32} {kd row pl : Nat → Int32} (hn : n ≤ 6) (hf : RB 0 11 f) (hr : RA 0 5 row) : tnS n (N6 kd) (f, d, N6 row, N6 pl) = ((tnS n kd (f, d, row, pl)).1, (tnS n kd (f, d, row, pl)).2.1, N6 (tnS n kd (f, d, row, pl)).2.2.1, N6 (tnS n kd (f, d, row, pl)).2.2.2) := by
  have h := hr 0
  have k1 : (N6 row) 0 = row 0 := N6_at (by decide)
  have k2 : (row 0).toNatClampNeg < 6 := tn_lt6 (n := 6) ⟨h.1, by grind⟩ (by decide)
  have k3 : (N6 kd) (row 0).toNatClampNeg = kd (row 0).toNatClampNeg := N6_at k2
  have m1 := mvS_N6 (kd := kd) (pl := pl) hn hf h
  have hf2 : RB 0 11 (mvS n kd (f, row, pl)).1 := mvq_r hf
  have m2 := mvS_N6 (kd := kd) (row := (mvS n kd (f, row, pl)).2.1) (pl := (mvS n kd (f, row, pl)).2.2) hn hf2 (rot_ra hr 0)
  unfold tnS
  show (if 1 < d then _ else if d = 1 then _ else if (N6 kd) ((N6 row) 0).toNatClampNeg = 1 then _ else if (N6 kd) ((N6 row) 0).toNatClampNeg = 4 then _ else if (N6 kd) ((N6 row) 0).toNatClampNeg = 2 then _ else _) = _
  rw [k1, k3]
  show (if 1 < d then (f, d - 1, N6 row, N6 pl) else if d = 1 then ((mvS n (N6 kd) (f, N6 row, N6 pl)).1, 0, (mvS n (N6 kd) (f, N6 row, N6 pl)).2) else if kd (row 0).toNatClampNeg = 1 then (f, 1, N6 row, upd (N6 pl) (row 0).toNatClampNeg (-1)) else if kd (row 0).toNatClampNeg = 4 then (f, 2, N6 row, upd (N6 pl) (row 0).toNatClampNeg (-1)) else if kd (row 0).toNatClampNeg = 2 then ((mvS n (N6 kd) (mvS n (N6 kd) (f, N6 row, N6 pl))).1, 0, (mvS n (N6 kd) (mvS n (N6 kd) (f, N6 row, N6 pl))).2) else ((mvS n (N6 kd) (f, N6 row, N6 pl)).1, 0, (mvS n (N6 kd) (f, N6 row, N6 pl)).2)) = ((if 1 < d then (f, d - 1, row, pl) else if d = 1 then ((mvS n kd (f, row, pl)).1, 0, (mvS n kd (f, row, pl)).2) else if kd (row 0).toNatClampNeg = 1 then (f, 1, row, upd pl (row 0).toNatClampNeg (-1)) else if kd (row 0).toNatClampNeg = 4 then (f, 2, row, upd pl (row 0).toNatClampNeg (-1)) else if kd (row 0).toNatClampNeg = 2 then ((mvS n kd (mvS n kd (f, row, pl))).1, 0, (mvS n kd (mvS n kd (f, row, pl))).2) else ((mvS n kd (f, row, pl)).1, 0, (mvS n kd (f, row, pl)).2)).1, _, N6 _, N6 _)
  rw [m1, m2, ← N6_upd k2]
  by_cases c1 : 1 < d
  · simp only [if_pos c1]
  · simp only [if_neg c1]
    by_cases c2 : d = 1
    · simp only [if_pos c2]
    · simp only [if_neg c2]
      by_cases c3 : kd (row 0).toNatClampNeg = 1
      · simp only [if_pos c3]
      · simp only [if_neg c3]
        by_cases c4 : kd (row 0).toNatClampNeg = 4
        · simp only [if_pos c4]
        · simp only [if_neg c4]
          by_cases c5 : kd (row 0).toNatClampNeg = 2
          · simp only [if_pos c5]
          · simp only [if_neg c5]
/-- sums -/
def sm (f : Nat → Int32) : Nat → Int32
  | 0 => 0
  | n + 1 => sm f n + f n
theorem sm_step {f : Nat → Int32} {x y l : Int32} (e : x = sm f l.toNatClampNeg) (hy : y = f l.toNatClampNeg) (hl : 0 ≤ l ∧ l ≤ 100) : x + y = sm f (l + 1).toNatClampNeg := by
  rw [tn_s ⟨hl.1, by grind⟩, e, hy]
  rfl
theorem sm_step0 {f : Nat → Int32} {x l : Int32} (e : x = sm f l.toNatClampNeg) (hy : f l.toNatClampNeg = 0) (hl : 0 ≤ l ∧ l ≤ 100) : x = sm f (l + 1).toNatClampNeg := by
  rw [tn_s ⟨hl.1, by grind⟩, e]
  show _ = sm f l.toNatClampNeg + f l.toNatClampNeg
  rw [hy]
  grind
theorem sm_end {f : Nat → Int32} {x l n : Int32} (e : x = sm f l.toNatClampNeg) (q : l ≤ n ∧ n ≤ l) : x = sm f n.toNatClampNeg := by
  have q2 : l = n := by grind
  rw [e, q2]
theorem sm_congr {f g : Nat → Int32} : ∀ {n : Nat}, (∀ k, k < n → f k = g k) → sm f n = sm g n
  | 0, _ => rfl
  | n + 1, h => by
    show sm f n + f n = sm g n + g n
    rw [sm_congr (n := n) (fun k hk => h k (by omega)), h n (by omega)]
def wu (w : Nat → Int32) (p : Int32) : Int32 := if p = -1 then 0 else w p.toNatClampNeg
def hdp (l : Int32) (w pl had : Nat → Int32) : Nat → Int32 := fun k => if (k : Int) < l.toInt then had k + wu w (pl k) else had k
theorem hdp_0 (w pl had : Nat → Int32) : had = hdp 0 w pl had := funext fun k => by
  unfold hdp
  rw [if_neg (by rw [z0]; omega)]
theorem hdp_step {w pl had a : Nat → Int32} {l y : Int32} (e : a = hdp l w pl had) (hy : y = wu w (pl l.toNatClampNeg)) (hl : 0 ≤ l ∧ l ≤ 100) : upd a l.toNatClampNeg (a l.toNatClampNeg + y) = hdp (l + 1) w pl had := by
  subst e
  have t := tnc hl.1
  have ad := add1 hl.1 (by grind)
  funext k
  by_cases q : k = l.toNatClampNeg
  · subst q
    rw [pk_us]
    unfold hdp
    rw [if_neg (by omega), if_pos (by omega), hy]
  · rw [pk_un q]
    unfold hdp
    by_cases c : (k : Int) < l.toInt
    · rw [if_pos c, if_pos (by omega)]
    · rw [if_neg c, if_neg (by omega)]
theorem hdp_end {w pl had a : Nat → Int32} {l n : Int32} (e : a = hdp l w pl had) (q : l ≤ n ∧ n ≤ l) : a = hdp n w pl had := by
  have q2 : l = n := by grind
  rw [e, q2]
def asF (h k n own : Int32) : Int32 := if ¬ (0 ≤ h ∧ h < n) then -101 else if ¬ (0 ≤ k ∧ k < 5) then -102 else if k = 0 ∨ k = own ∨ (k = 1 ∧ own = 4) then h else -1
theorem sw_at {a : Nat → Int32} {i j : Nat} : i ≠ j → (upd (upd a i (a j)) j (a i)) i = a j ∧ (upd (upd a i (a j)) j (a i)) j = a i := fun h => by
  refine ⟨?_, pk_us⟩
  rw [pk_un h, pk_us]
theorem tn_ne {a b : Int32} : 0 ≤ a → 0 ≤ b → a ≠ b → a.toNatClampNeg ≠ b.toNatClampNeg := fun h g e q => e (tn_inj h g q)
theorem night_r {n f d r f' d' : Int32} {kd row pl rT pT rT' pT' row' pl' a b c e : Nat → Int32} (hn : RB 1 6 n) (hf : RB 0 11 f) (hr : RA 0 5 rT) (e1 : rT = va_cpy row a 0 0 6) (e2 : pT = va_cpy pl b 0 0 6) (g : r = tnM kd d rT ∧ (f', d', rT', pT') = tnS n kd (f, d, rT, pT) ∧ (0 ≤ d' ∧ d' ≤ 2)) (t1 : row' = va_cpy rT' c 0 0 6) (t2 : pl' = va_cpy pT' e 0 0 6) : r = tnM (N6 kd) d (N6 row) ∧ (f', d', N6 row', N6 pl') = tnS n (N6 kd) (f, d, N6 row, N6 pl) ∧ (0 ≤ d' ∧ d' ≤ 2) := by
  obtain ⟨g1, g2, g3⟩ := g
  have n1 : N6 rT = N6 row := by rw [e1]; exact N6_cpy
  have n2 : N6 pT = N6 pl := by rw [e2]; exact N6_cpy
  refine ⟨?_, ?_, g3⟩
  · rw [g1, ← n1, tnM_N6 (hr 0)]
  · rw [t1, t2, N6_cpy, N6_cpy, ← n1, ← n2, tnS_N6 hn.2 hf hr, ← g2]
/-- filling -/
def fl (l : Int32) (g a : Nat → Int32) : Nat → Int32 := fun k => if (k : Int) < l.toInt then g k else a k
theorem fl_0 (g a : Nat → Int32) : a = fl 0 g a := funext fun k => by
  unfold fl
  rw [if_neg (by rw [z0]; omega)]
theorem fl_step {g a b : Nat → Int32} {l v : Int32} (e : b = fl l g a) (hv : v = g l.toNatClampNeg) (hl : 0 ≤ l ∧ l ≤ 100) : upd b l.toNatClampNeg v = fl (l + 1) g a := by
  subst e
  have t := tnc hl.1
  have ad := add1 hl.1 (by grind)
  funext k
  by_cases q : k = l.toNatClampNeg
  · subst q
    rw [pk_us]
    unfold fl
    rw [if_pos (by omega), hv]
  · rw [pk_un q]
    unfold fl
    by_cases c : (k : Int) < l.toInt
    · rw [if_pos c, if_pos (by omega)]
    · rw [if_neg c, if_neg (by omega)]
theorem fl_end {g a b : Nat → Int32} {l n : Int32} (e : b = fl l g a) (q : l ≤ n ∧ n ≤ l) : b = fl n g a := by
  have q2 : l = n := by grind
  rw [e, q2]
theorem ix3 {l : Int32} (h : 0 ≤ l ∧ l ≤ 5) : ((12 + 3 * l) + 1).toNatClampNeg = 13 + 3 * l.toNatClampNeg ∧ ((12 + 3 * l) + 2).toNatClampNeg = 14 + 3 * l.toNatClampNeg ∧ (13 + 3 * l).toNatClampNeg = 13 + 3 * l.toNatClampNeg ∧ (14 + 3 * l).toNatClampNeg = 14 + 3 * l.toNatClampNeg := by
  rcases rb5 h with rfl | rfl | rfl | rfl | rfl | rfl <;> exact ⟨rfl, rfl, rfl, rfl⟩
theorem bn_ix {l : Int32} (h : 0 ≤ l ∧ l ≤ 5) : (bn l.toNatClampNeg).toNatClampNeg = l.toNatClampNeg ∧ bn l.toNatClampNeg = nI l.toNatClampNeg ∧ l = nI l.toNatClampNeg := by
  rcases rb5 h with rfl | rfl | rfl | rfl | rfl | rfl <;> exact ⟨rfl, rfl, rfl⟩
theorem nI_i {k : Nat} (h : k < 1000) : (nI k).toInt = k ∧ (nI k).toNatClampNeg = k := by
  have e : (nI k).toInt = k := Int32.toInt_ofNat_of_lt (by omega)
  have t : (nI k).toNatClampNeg = (nI k).toInt.toNat := rfl
  exact ⟨e, by omega⟩
theorem soc_new {n : Int32} {pl so : Nat → Int32} (hn : RB 1 6 n) : SOC n (fl n (fun k => nI k) pl) (fl n (fun k => nI k) (fl 12 (fun _ => -1) so)) := by
  have n2 := hn.2
  have z6 : (6 : Int32).toInt = 6 := rfl
  have z11 : (11 : Int32).toInt = 11 := rfl
  have z12 : (12 : Int32).toInt = 12 := rfl
  rw [fa_le, z6] at n2
  have sv : ∀ p : Int32, RB 0 11 p → (fl n (fun k => nI k) (fl 12 (fun _ => -1) so)) p.toNatClampNeg = if p < n then p else -1 := fun p hp => by
    have t := tnc hp.1
    have p2 := hp.2
    rw [fa_le, z11] at p2
    unfold fl
    by_cases c : p < n
    · rw [if_pos c]
      rw [fa_lt] at c
      rw [if_pos (by omega)]
      exact nI_tn hp.1
    · rw [if_neg c]
      rw [fa_lt] at c
      rw [if_neg (by omega), if_pos (by omega)]
  have pv : ∀ h : Int32, 0 ≤ h → h < n → (fl n (fun k => nI k) pl) h.toNatClampNeg = h := fun h h0 h1 => by
    have t := tnc h0
    rw [fa_lt] at h1
    unfold fl
    rw [if_pos (by omega)]
    exact nI_tn h0
  refine ⟨fun p h hp h0 h1 => ?_, fun p hp => ?_⟩
  · rw [sv p hp, pv h h0 h1]
    by_cases c : p < n
    · rw [if_pos c]; exact ⟨fun q => q.symm, fun q => q.symm⟩
    · rw [if_neg c]
      constructor
      · intro q; rw [q] at h1; exact absurd h1 c
      · intro q; rw [← q] at h0; exact absurd h0 (by decide)
  · rw [sv p hp]
    by_cases c : p < n
    · rw [if_pos c]; exact Or.inr ⟨hp.1, c⟩
    · rw [if_neg c]; exact Or.inl rfl
theorem rh_new {n : Int32} {row : Nat → Int32} (hn : RB 1 6 n) : RH n (fl n (fun k => nI k) row) := fun k hk => by
  have n2 := hn.2
  have z6 : (6 : Int32).toInt = 6 := rfl
  rw [fa_le, z6] at n2
  have e := nI_i (k := k) (by omega)
  unfold fl
  rw [if_pos hk, fa_le, fa_lt, z0, e.1]
  omega
theorem twn_new {n : Int32} {kd row pl so : Nat → Int32} (hn : RB 1 6 n) : TWN n kd 0 (fl n (fun k => nI k) row) (fl n (fun k => nI k) pl) (fl n (fun k => nI k) (fl 12 (fun _ => -1) so)) := ⟨soc_new hn, rh_new hn, fun q => absurd q (by decide), by decide⟩
theorem twn_cong {n d : Int32} {kd kd' row row' pl pl' so so' : Nat → Int32} (hn : RB 1 6 n) (e1 : N6 kd' = N6 kd) (e2 : N6 row' = N6 row) (e3 : N6 pl' = N6 pl) (e4 : ∀ k : Nat, k < 12 → so' k = so k) (T : TWN n kd d row pl so) : TWN n kd' d row' pl' so' := by
  obtain ⟨S, R, D, dd⟩ := T
  have n2 := hn.2
  have z6 : (6 : Int32).toInt = 6 := rfl
  have n3 := hn.2
  rw [fa_le, z6] at n3
  have r0 : row' 0 = row 0 := N6_eq e2 (by decide)
  have h0 := R.h0 hn.1
  have k0 : (row 0).toNatClampNeg < 6 := tn_lt6 h0 n2
  refine ⟨⟨fun p h hp h0 h1 => ?_, fun p hp => ?_⟩, fun k hk => ?_, fun q => ?_, dd⟩
  · rw [N6_eq e3 (tn_lt6 ⟨h0, h1⟩ n2), e4 _ (tn12 hp)]; exact S.1 p h hp h0 h1
  · rw [e4 _ (tn12 hp)]; exact S.2 p hp
  · rw [N6_eq e2 (by omega)]; exact R k hk
  · rw [r0, N6_eq e1 k0, N6_eq e3 k0]; exact D q
theorem twn_kd {n d a k : Int32} {kd row pl so : Nat → Int32} (hn : RB 1 6 n) (T : TWN n kd d row pl so) (ha : 0 ≤ a ∧ a < n) (c : ¬ pl a.toNatClampNeg = -1) : TWN n (upd kd a.toNatClampNeg k) d row pl so := by
  refine ⟨T.1, T.2.1, fun q => ?_, T.2.2.2⟩
  have h0 := T.2.1.h0 hn.1
  have w := T.2.2.1 q
  rw [pk_un (fun z => c (by rw [← z]; exact w.2))]
  exact w
theorem soc_swap {n a b : Int32} {pl so : Nat → Int32} (S : SOC n pl so) (hp : RA (-1) 11 pl) (ha : 0 ≤ a ∧ a < n) (hb : 0 ≤ b ∧ b < n) (ne : a ≠ b) (ca : ¬ pl a.toNatClampNeg = -1) (cb : ¬ pl b.toNatClampNeg = -1) : SOC n (upd (upd pl a.toNatClampNeg (pl b.toNatClampNeg)) b.toNatClampNeg (pl a.toNatClampNeg)) (upd (upd so (pl b.toNatClampNeg).toNatClampNeg a) (pl a.toNatClampNeg).toNatClampNeg b) := by
  have ra : RB 0 11 (pl a.toNatClampNeg) := by have := hp a.toNatClampNeg; grind
  have rb : RB 0 11 (pl b.toNatClampNeg) := by have := hp b.toNatClampNeg; grind
  have sa := (S.1 _ a ra ha.1 ha.2).mp rfl
  have sb := (S.1 _ b rb hb.1 hb.2).mp rfl
  have nab : pl a.toNatClampNeg ≠ pl b.toNatClampNeg := fun q => ne (by rw [← sa, ← sb, q])
  have tab : a.toNatClampNeg ≠ b.toNatClampNeg := tn_ne ha.1 hb.1 ne
  refine ⟨fun p h hp2 h0 h1 => ?_, fun p hp2 => ?_⟩
  · by_cases p1 : p = pl a.toNatClampNeg
    · subst p1
      rw [pk_us]
      by_cases x : h = b
      · subst x; rw [pk_us]; exact ⟨fun _ => rfl, fun _ => rfl⟩
      · rw [pk_un (tn_ne h0 hb.1 x)]
        by_cases y : h = a
        · subst y; rw [pk_us]; exact ⟨fun q => absurd q.symm nab, fun q => absurd q ne.symm⟩
        · rw [pk_un (tn_ne h0 ha.1 y)]
          constructor
          · intro q
            have := (S.1 _ h ra h0 h1).mp q
            rw [sa] at this
            exact absurd this.symm y
          · intro q; exact absurd q.symm x
    · rw [pk_un (tn_ne hp2.1 ra.1 p1)]
      by_cases p2 : p = pl b.toNatClampNeg
      · subst p2
        rw [pk_us]
        by_cases x : h = b
        · subst x; rw [pk_us]; exact ⟨fun q => absurd q nab, fun q => absurd q ne⟩
        · rw [pk_un (tn_ne h0 hb.1 x)]
          by_cases y : h = a
          · subst y; rw [pk_us]; exact ⟨fun _ => rfl, fun _ => rfl⟩
          · rw [pk_un (tn_ne h0 ha.1 y)]
            constructor
            · intro q
              have := (S.1 _ h rb h0 h1).mp q
              rw [sb] at this
              exact absurd this.symm x
            · intro q; exact absurd q.symm y
      · rw [pk_un (tn_ne hp2.1 rb.1 p2)]
        by_cases x : h = b
        · subst x
          rw [pk_us]
          constructor
          · intro q; exact absurd q.symm p1
          · intro q
            have := (S.1 p h hp2 h0 h1).mpr q
            exact absurd this.symm p2
        · rw [pk_un (tn_ne h0 hb.1 x)]
          by_cases y : h = a
          · subst y
            rw [pk_us]
            constructor
            · intro q; exact absurd q.symm p2
            · intro q
              have := (S.1 p h hp2 h0 h1).mpr q
              exact absurd this.symm p1
          · rw [pk_un (tn_ne h0 ha.1 y)]; exact S.1 p h hp2 h0 h1
  · by_cases p1 : p = pl a.toNatClampNeg
    · subst p1; rw [pk_us]; exact Or.inr hb
    · rw [pk_un (tn_ne hp2.1 ra.1 p1)]
      by_cases p2 : p = pl b.toNatClampNeg
      · subst p2; rw [pk_us]; exact Or.inr ha
      · rw [pk_un (tn_ne hp2.1 rb.1 p2)]; exact S.2 p hp2
theorem twn_swap {n d a b : Int32} {kd row pl so : Nat → Int32} (hn : RB 1 6 n) (hp : RA (-1) 11 pl) (T : TWN n kd d row pl so) (ha : 0 ≤ a ∧ a < n) (hb : 0 ≤ b ∧ b < n) (ne : a ≠ b) (ca : ¬ pl a.toNatClampNeg = -1) (cb : ¬ pl b.toNatClampNeg = -1) : TWN n kd d row (upd (upd pl a.toNatClampNeg (pl b.toNatClampNeg)) b.toNatClampNeg (pl a.toNatClampNeg)) (upd (upd so (pl b.toNatClampNeg).toNatClampNeg a) (pl a.toNatClampNeg).toNatClampNeg b) := by
  refine ⟨soc_swap T.1 hp ha hb ne ca cb, T.2.1, fun q => ?_, T.2.2.2⟩
  have w := T.2.2.1 q
  refine ⟨w.1, ?_⟩
  rw [pk_un (fun z => cb (by rw [← z]; exact w.2)), pk_un (fun z => ca (by rw [← z]; exact w.2))]
  exact w.2
