theorem dX3_houses_0 : decode cX3_houses 0 = .ok (.aload_n 0, 1) := by decide +kernel
theorem dX3_houses_1 : decode cX3_houses 1 = .ok (.getfield 15, 3) := by decide +kernel
theorem dX3_houses_4 : decode cX3_houses 4 = .ok (.bipush 12, 2) := by decide +kernel
theorem dX3_houses_6 : decode cX3_houses 6 = .ok (.isub, 1) := by decide +kernel
theorem dX3_houses_7 : decode cX3_houses 7 = .ok (.iconst 3, 1) := by decide +kernel
theorem dX3_houses_8 : decode cX3_houses 8 = .ok (.idiv, 1) := by decide +kernel
theorem dX3_houses_9 : decode cX3_houses 9 = .ok (.bipush 6, 2) := by decide +kernel
theorem dX3_houses_11 : decode cX3_houses 11 = .ok (.invokestatic 27, 3) := by decide +kernel
theorem dX3_houses_14 : decode cX3_houses 14 = .ok (.ireturn, 1) := by decide +kernel
abbrev kwX3_houses (cI cZ cG : ClassId) (q q_letters : Nat) (v_size : Int32) : va_W := [(q, .inr (3, [.ref q_letters, .int v_size]))]
noncomputable def fX3_houses (N : Nat) (v_size : Int32)   : Option (Int32) := some (if (6 : Int32) < ((v_size - (12 : Int32)) / (3 : Int32)) then (6 : Int32) else ((v_size - (12 : Int32)) / (3 : Int32)))
set_option maxHeartbeats 4000000 in
set_option maxRecDepth 100000 in
theorem wX3_houses {p : Program} {l : Launch} {e : Env} {R : Room} {s : State} {m : MethodId} {args : Array Value} {below : List Frame} {meth : Method} {c : Code} {cells slots : Nat} {Q : State → Prop} {D : va_G} {A : Nat → Prop} {cI cZ cG : ClassId} {q q_letters : Nat} {v_size : Int32} {N : Nat} {ρ : Int32} (X : CX p s m args c cX3_houses 1 RX3 D (TY cI cZ cG) A) (hrm : RM R 1 21 cells slots) (ret : ∀ (pc : Nat) (H : Heap) (locs : List Loc) (ls : Array Slot), decode cX3_houses pc = .ok (.ireturn, 1) → WD D A (kwX3_houses cI cZ cG q q_letters v_size) s.heap H locs → W p l e R s m args below meth c H locs cells slots Q (F0 m pc ls [.int ρ])) (h : fX3_houses N v_size   = some ρ) (H : Heap) (locs : List Loc) (ls : Array Slot) (hw : WD D A (kwX3_houses cI cZ cG q q_letters v_size) s.heap H locs) (hl : lv_has ls 1 [(0, .ref q)]) : W p l e R s m args below meth c H locs cells slots Q (F0 m 0 ls []) := by
  have hx := X.1.1
  have hb := X.1.2.1
  unfold fX3_houses at h
  refine lv_aload_n hx hb dX3_houses_0 rfl (lv_at hl 0 rfl) ?_
  refine kget (ci := 3) (v := .int v_size) X hw iX3 0 rfl rfl 1 (by decide) tw_85 rfl dX3_houses_1 ?_
  refine lv_bipush (v := (12 : Int32)) hx hb dX3_houses_4 (by decide) ?_
  refine lv_isub hx hb dX3_houses_6 ?_
  refine lv_iconst (v := (3 : Int32)) hx hb dX3_houses_7 (by decide) ?_
  refine lv_idiv hx hb dX3_houses_8 (by decide) ?_
  refine lv_bipush (v := (6 : Int32)) hx hb dX3_houses_9 (by decide) ?_
  refine kmin X hl.1 tw_86 tw_87 tw_88 tw_89 (Nat.le_trans (by decide) hrm.1) (Nat.le_trans (Nat.le_of_ble_eq_true rfl) hrm.2.1) ⟨hrm.2.2.1, hrm.2.2.2⟩ dX3_houses_11 ?_
  obtain rfl := Option.some.inj h
  exact ret _ _ _ _ dX3_houses_14 hw
set_option maxHeartbeats 4000000 in
set_option maxRecDepth 100000 in
theorem cX3_houses_ct (l : Launch) (D : va_G) (cI cZ cG : ClassId) (q q_letters : Nat)  (v_size : Int32)  (N : Nat) (ρ : Int32) (h : fX3_houses N v_size   = some ρ) (sz : Nat) : Met l yX3_houses (wz yX3_houses cX3_houses 1 (some .int)) (cRm 1 21) (cPre D (TY cI cZ cG) [.ref q] (kwX3_houses cI cZ cG q q_letters v_size) sz) (cQi D (ρ) (kwX3_houses cI cZ cG q q_letters v_size) (kwX3_houses cI cZ cG q q_letters v_size) sz) 0 0 (va_A (kwX3_houses cI cZ cG q q_letters v_size) sz) :=
  mk_i (by decide) (Nat.le_of_ble_eq_true rfl) (fun X hrm ret hw hl => wX3_houses X hrm ret h _ _ _ hw hl)
theorem dX3_worthWritten_0 : decode cX3_worthWritten 0 = .ok (.aload_n 0, 1) := by decide +kernel
theorem dX3_worthWritten_1 : decode cX3_worthWritten 1 = .ok (.getfield 9, 3) := by decide +kernel
theorem dX3_worthWritten_4 : decode cX3_worthWritten 4 = .ok (.iload_n 1, 1) := by decide +kernel
theorem dX3_worthWritten_5 : decode cX3_worthWritten 5 = .ok (.iaload, 1) := by decide +kernel
theorem dX3_worthWritten_6 : decode cX3_worthWritten 6 = .ok (.bipush 48, 2) := by decide +kernel
theorem dX3_worthWritten_8 : decode cX3_worthWritten 8 = .ok (.isub, 1) := by decide +kernel
theorem dX3_worthWritten_9 : decode cX3_worthWritten 9 = .ok (.ireturn, 1) := by decide +kernel
abbrev kwX3_worthWritten (cI cZ cG : ClassId) (q q_letters : Nat) (v_size : Int32) (v_letters : (Nat → Int32)) : va_W := [(q, .inr (3, [.ref q_letters, .int v_size])), (q_letters, .inl (cI, 32, .inl v_letters))]
noncomputable def fX3_worthWritten (N : Nat) (v_letters : (Nat → Int32)) (a1 : Int32)   : Option (Int32) := if a1 < 0 ∨ 32 ≤ (a1).toNatClampNeg then none else (some ((v_letters (a1).toNatClampNeg) - (48 : Int32)))
set_option maxHeartbeats 4000000 in
set_option maxRecDepth 100000 in
theorem wX3_worthWritten {p : Program} {l : Launch} {e : Env} {R : Room} {s : State} {m : MethodId} {args : Array Value} {below : List Frame} {meth : Method} {c : Code} {cells slots : Nat} {Q : State → Prop} {D : va_G} {A : Nat → Prop} {cI cZ cG : ClassId} {q q_letters : Nat} {v_size : Int32} {v_letters : (Nat → Int32)} {a1 : Int32} {N : Nat} {ρ : Int32} (X : CX p s m args c cX3_worthWritten 2 RX3 D (TY cI cZ cG) A) (hrm : RM R 0 0 cells slots) (ret : ∀ (pc : Nat) (H : Heap) (locs : List Loc) (ls : Array Slot), decode cX3_worthWritten pc = .ok (.ireturn, 1) → WD D A (kwX3_worthWritten cI cZ cG q q_letters v_size v_letters) s.heap H locs → W p l e R s m args below meth c H locs cells slots Q (F0 m pc ls [.int ρ])) (h : fX3_worthWritten N v_letters a1   = some ρ) (H : Heap) (locs : List Loc) (ls : Array Slot) (hw : WD D A (kwX3_worthWritten cI cZ cG q q_letters v_size v_letters) s.heap H locs) (hl : lv_has ls 2 [(0, .ref q), (1, .int a1)]) : W p l e R s m args below meth c H locs cells slots Q (F0 m 0 ls []) := by
  have hx := X.1.1
  have hb := X.1.2.1
  unfold fX3_worthWritten at h
  refine lv_aload_n hx hb dX3_worthWritten_0 rfl (lv_at hl 0 rfl) ?_
  refine kget (ci := 3) (v := .ref q_letters) X hw iX3 0 rfl rfl 0 (by decide) tw_94 rfl dX3_worthWritten_1 ?_
  refine lv_iload_n hx hb dX3_worthWritten_4 rfl (lv_at hl 1 rfl) ?_
  obtain ⟨g_5, h⟩ := gd h
  refine kiald X hw 1 rfl rfl g_5 dX3_worthWritten_5 ?_
  refine lv_bipush (v := (48 : Int32)) hx hb dX3_worthWritten_6 (by decide) ?_
  refine lv_isub hx hb dX3_worthWritten_8 ?_
  obtain rfl := Option.some.inj h
  exact ret _ _ _ _ dX3_worthWritten_9 hw
set_option maxHeartbeats 4000000 in
set_option maxRecDepth 100000 in
theorem cX3_worthWritten_ct (l : Launch) (D : va_G) (cI cZ cG : ClassId) (q q_letters : Nat)  (v_size : Int32) (v_letters : (Nat → Int32)) (a1 : Int32) (N : Nat) (ρ : Int32) (h : fX3_worthWritten N v_letters a1   = some ρ) (sz : Nat) : Met l yX3_worthWritten (wz yX3_worthWritten cX3_worthWritten 2 (some .int)) (cRm 0 0) (cPre D (TY cI cZ cG) [.ref q, .int a1] (kwX3_worthWritten cI cZ cG q q_letters v_size v_letters) sz) (cQi D (ρ) (kwX3_worthWritten cI cZ cG q q_letters v_size v_letters) (kwX3_worthWritten cI cZ cG q q_letters v_size v_letters) sz) 0 0 (va_A (kwX3_worthWritten cI cZ cG q q_letters v_size v_letters) sz) :=
  mk_i (by decide) (Nat.le_of_ble_eq_true rfl) (fun X hrm ret hw hl => wX3_worthWritten X hrm ret h _ _ _ hw hl)
theorem dX3_likeWritten_0 : decode cX3_likeWritten 0 = .ok (.aload_n 0, 1) := by decide +kernel
theorem dX3_likeWritten_1 : decode cX3_likeWritten 1 = .ok (.getfield 9, 3) := by decide +kernel
theorem dX3_likeWritten_4 : decode cX3_likeWritten 4 = .ok (.bipush 12, 2) := by decide +kernel
theorem dX3_likeWritten_6 : decode cX3_likeWritten 6 = .ok (.iconst 3, 1) := by decide +kernel
theorem dX3_likeWritten_7 : decode cX3_likeWritten 7 = .ok (.iload_n 1, 1) := by decide +kernel
theorem dX3_likeWritten_8 : decode cX3_likeWritten 8 = .ok (.imul, 1) := by decide +kernel
theorem dX3_likeWritten_9 : decode cX3_likeWritten 9 = .ok (.iadd, 1) := by decide +kernel
theorem dX3_likeWritten_10 : decode cX3_likeWritten 10 = .ok (.iconst 2, 1) := by decide +kernel
theorem dX3_likeWritten_11 : decode cX3_likeWritten 11 = .ok (.iadd, 1) := by decide +kernel
theorem dX3_likeWritten_12 : decode cX3_likeWritten 12 = .ok (.iaload, 1) := by decide +kernel
theorem dX3_likeWritten_13 : decode cX3_likeWritten 13 = .ok (.bipush 97, 2) := by decide +kernel
theorem dX3_likeWritten_15 : decode cX3_likeWritten 15 = .ok (.isub, 1) := by decide +kernel
theorem dX3_likeWritten_16 : decode cX3_likeWritten 16 = .ok (.ireturn, 1) := by decide +kernel
abbrev kwX3_likeWritten (cI cZ cG : ClassId) (q q_letters : Nat) (v_size : Int32) (v_letters : (Nat → Int32)) : va_W := [(q, .inr (3, [.ref q_letters, .int v_size])), (q_letters, .inl (cI, 32, .inl v_letters))]
noncomputable def fX3_likeWritten (N : Nat) (v_letters : (Nat → Int32)) (a1 : Int32)   : Option (Int32) := if (((12 : Int32) + ((3 : Int32) * a1)) + (2 : Int32)) < 0 ∨ 32 ≤ ((((12 : Int32) + ((3 : Int32) * a1)) + (2 : Int32))).toNatClampNeg then none else (some ((v_letters ((((12 : Int32) + ((3 : Int32) * a1)) + (2 : Int32))).toNatClampNeg) - (97 : Int32)))
set_option maxHeartbeats 4000000 in
set_option maxRecDepth 100000 in
theorem wX3_likeWritten {p : Program} {l : Launch} {e : Env} {R : Room} {s : State} {m : MethodId} {args : Array Value} {below : List Frame} {meth : Method} {c : Code} {cells slots : Nat} {Q : State → Prop} {D : va_G} {A : Nat → Prop} {cI cZ cG : ClassId} {q q_letters : Nat} {v_size : Int32} {v_letters : (Nat → Int32)} {a1 : Int32} {N : Nat} {ρ : Int32} (X : CX p s m args c cX3_likeWritten 2 RX3 D (TY cI cZ cG) A) (hrm : RM R 0 0 cells slots) (ret : ∀ (pc : Nat) (H : Heap) (locs : List Loc) (ls : Array Slot), decode cX3_likeWritten pc = .ok (.ireturn, 1) → WD D A (kwX3_likeWritten cI cZ cG q q_letters v_size v_letters) s.heap H locs → W p l e R s m args below meth c H locs cells slots Q (F0 m pc ls [.int ρ])) (h : fX3_likeWritten N v_letters a1   = some ρ) (H : Heap) (locs : List Loc) (ls : Array Slot) (hw : WD D A (kwX3_likeWritten cI cZ cG q q_letters v_size v_letters) s.heap H locs) (hl : lv_has ls 2 [(0, .ref q), (1, .int a1)]) : W p l e R s m args below meth c H locs cells slots Q (F0 m 0 ls []) := by
  have hx := X.1.1
  have hb := X.1.2.1
  unfold fX3_likeWritten at h
  refine lv_aload_n hx hb dX3_likeWritten_0 rfl (lv_at hl 0 rfl) ?_
  refine kget (ci := 3) (v := .ref q_letters) X hw iX3 0 rfl rfl 0 (by decide) tw_94 rfl dX3_likeWritten_1 ?_
  refine lv_bipush (v := (12 : Int32)) hx hb dX3_likeWritten_4 (by decide) ?_
  refine lv_iconst (v := (3 : Int32)) hx hb dX3_likeWritten_6 (by decide) ?_
  refine lv_iload_n hx hb dX3_likeWritten_7 rfl (lv_at hl 1 rfl) ?_
  refine lv_imul hx hb dX3_likeWritten_8 ?_
  refine lv_iadd hx hb dX3_likeWritten_9 ?_
  refine lv_iconst (v := (2 : Int32)) hx hb dX3_likeWritten_10 (by decide) ?_
  refine lv_iadd hx hb dX3_likeWritten_11 ?_
  obtain ⟨g_12, h⟩ := gd h
  refine kiald X hw 1 rfl rfl g_12 dX3_likeWritten_12 ?_
  refine lv_bipush (v := (97 : Int32)) hx hb dX3_likeWritten_13 (by decide) ?_
  refine lv_isub hx hb dX3_likeWritten_15 ?_
  obtain rfl := Option.some.inj h
  exact ret _ _ _ _ dX3_likeWritten_16 hw
set_option maxHeartbeats 4000000 in
set_option maxRecDepth 100000 in
theorem cX3_likeWritten_ct (l : Launch) (D : va_G) (cI cZ cG : ClassId) (q q_letters : Nat)  (v_size : Int32) (v_letters : (Nat → Int32)) (a1 : Int32) (N : Nat) (ρ : Int32) (h : fX3_likeWritten N v_letters a1   = some ρ) (sz : Nat) : Met l yX3_likeWritten (wz yX3_likeWritten cX3_likeWritten 2 (some .int)) (cRm 0 0) (cPre D (TY cI cZ cG) [.ref q, .int a1] (kwX3_likeWritten cI cZ cG q q_letters v_size v_letters) sz) (cQi D (ρ) (kwX3_likeWritten cI cZ cG q q_letters v_size v_letters) (kwX3_likeWritten cI cZ cG q q_letters v_size v_letters) sz) 0 0 (va_A (kwX3_likeWritten cI cZ cG q q_letters v_size v_letters) sz) :=
  mk_i (by decide) (Nat.le_of_ble_eq_true rfl) (fun X hrm ret hw hl => wX3_likeWritten X hrm ret h _ _ _ hw hl)
theorem dX0_readFrom_0 : decode cX0_readFrom 0 = .ok (.aload_n 0, 1) := by decide +kernel
theorem dX0_readFrom_1 : decode cX0_readFrom 1 = .ok (.aload_n 1, 1) := by decide +kernel
theorem dX0_readFrom_2 : decode cX0_readFrom 2 = .ok (.invokevirtual 18, 3) := by decide +kernel
theorem dX0_readFrom_5 : decode cX0_readFrom 5 = .ok (.putfield 24, 3) := by decide +kernel
theorem dX0_readFrom_8 : decode cX0_readFrom 8 = .ok (.iconst 0, 1) := by decide +kernel
theorem dX0_readFrom_9 : decode cX0_readFrom 9 = .ok (.istore_n 2, 1) := by decide +kernel
theorem dX0_readFrom_10 : decode cX0_readFrom 10 = .ok (.iload_n 2, 1) := by decide +kernel
theorem dX0_readFrom_11 : decode cX0_readFrom 11 = .ok (.bipush 12, 2) := by decide +kernel
theorem dX0_readFrom_13 : decode cX0_readFrom 13 = .ok (.if_icmp .ge 20, 3) := by decide +kernel
theorem dX0_readFrom_16 : decode cX0_readFrom 16 = .ok (.aload_n 0, 1) := by decide +kernel
theorem dX0_readFrom_17 : decode cX0_readFrom 17 = .ok (.getfield 9, 3) := by decide +kernel
theorem dX0_readFrom_20 : decode cX0_readFrom 20 = .ok (.iload_n 2, 1) := by decide +kernel
theorem dX0_readFrom_21 : decode cX0_readFrom 21 = .ok (.aload_n 1, 1) := by decide +kernel
theorem dX0_readFrom_22 : decode cX0_readFrom 22 = .ok (.iload_n 2, 1) := by decide +kernel
theorem dX0_readFrom_23 : decode cX0_readFrom 23 = .ok (.invokevirtual 27, 3) := by decide +kernel
theorem dX0_readFrom_26 : decode cX0_readFrom 26 = .ok (.iastore, 1) := by decide +kernel
theorem dX0_readFrom_27 : decode cX0_readFrom 27 = .ok (.iinc 2 1, 3) := by decide +kernel
theorem dX0_readFrom_30 : decode cX0_readFrom 30 = .ok (.goto (-20), 3) := by decide +kernel
theorem dX0_readFrom_33 : decode cX0_readFrom 33 = .ok (.iconst 0, 1) := by decide +kernel
theorem dX0_readFrom_34 : decode cX0_readFrom 34 = .ok (.istore_n 2, 1) := by decide +kernel
theorem dX0_readFrom_35 : decode cX0_readFrom 35 = .ok (.iload_n 2, 1) := by decide +kernel
theorem dX0_readFrom_36 : decode cX0_readFrom 36 = .ok (.aload_n 0, 1) := by decide +kernel
theorem dX0_readFrom_37 : decode cX0_readFrom 37 = .ok (.getfield 24, 3) := by decide +kernel
theorem dX0_readFrom_40 : decode cX0_readFrom 40 = .ok (.if_icmp .ge 20, 3) := by decide +kernel
theorem dX0_readFrom_43 : decode cX0_readFrom 43 = .ok (.aload_n 0, 1) := by decide +kernel
theorem dX0_readFrom_44 : decode cX0_readFrom 44 = .ok (.getfield 15, 3) := by decide +kernel
theorem dX0_readFrom_47 : decode cX0_readFrom 47 = .ok (.iload_n 2, 1) := by decide +kernel
theorem dX0_readFrom_48 : decode cX0_readFrom 48 = .ok (.aload_n 1, 1) := by decide +kernel
theorem dX0_readFrom_49 : decode cX0_readFrom 49 = .ok (.iload_n 2, 1) := by decide +kernel
theorem dX0_readFrom_50 : decode cX0_readFrom 50 = .ok (.invokevirtual 31, 3) := by decide +kernel
theorem dX0_readFrom_53 : decode cX0_readFrom 53 = .ok (.iastore, 1) := by decide +kernel
theorem dX0_readFrom_54 : decode cX0_readFrom 54 = .ok (.iinc 2 1, 3) := by decide +kernel
theorem dX0_readFrom_57 : decode cX0_readFrom 57 = .ok (.goto (-22), 3) := by decide +kernel
theorem dX0_readFrom_60 : decode cX0_readFrom 60 = .ok (.return_, 1) := by decide +kernel
abbrev kwX0_readFrom (cI cZ cG : ClassId) (q q_worth q_liked q1 q1_letters : Nat) (v_houses : Int32) (w1_size : Int32) (w1_letters : (Nat → Int32)) (v_worth : (Nat → Int32)) (v_liked : (Nat → Int32)) : va_W := [(q, .inr (0, [.ref q_worth, .ref q_liked, .int v_houses])), (q1, .inr (3, [.ref q1_letters, .int w1_size])), (q1_letters, .inl (cI, 32, .inl w1_letters)), (q_worth, .inl (cI, 12, .inl v_worth)), (q_liked, .inl (cI, 6, .inl v_liked))]
noncomputable def fX0_readFrom_35 (N : Nat) (w1_size : Int32) (w1_letters : (Nat → Int32))  (K_35 : Int32 → Int32 → (Nat → Int32) → (Nat → Int32) → Option (Int32 × (Nat → Int32) × (Nat → Int32))) (l2 : Int32) (v_houses : Int32) (v_worth : (Nat → Int32)) (v_liked : (Nat → Int32)) : Option (Int32 × (Nat → Int32) × (Nat → Int32)) := if v_houses ≤ l2 then (some (v_houses, v_worth, v_liked)) else ((fX3_likeWritten N w1_letters l2).bind (fun x_50 => if l2 < 0 ∨ 6 ≤ (l2).toNatClampNeg then none else (K_35 (l2 + (1 : Int32)) v_houses v_worth (upd v_liked (l2).toNatClampNeg x_50))))
noncomputable def fX0_readFrom_10 (N : Nat) (w1_size : Int32) (w1_letters : (Nat → Int32))  (K_10 : Int32 → Int32 → (Nat → Int32) → (Nat → Int32) → Option (Int32 × (Nat → Int32) × (Nat → Int32))) (l2 : Int32) (v_houses : Int32) (v_worth : (Nat → Int32)) (v_liked : (Nat → Int32)) : Option (Int32 × (Nat → Int32) × (Nat → Int32)) := if (12 : Int32) ≤ l2 then (lfix (fun (K : Int32 × Int32 × (Nat → Int32) × (Nat → Int32) → Option (Int32 × (Nat → Int32) × (Nat → Int32))) (a : Int32 × Int32 × (Nat → Int32) × (Nat → Int32)) => fX0_readFrom_35 N w1_size w1_letters (fun (l2 : Int32) (v_houses : Int32) (v_worth : (Nat → Int32)) (v_liked : (Nat → Int32)) => K (l2, v_houses, v_worth, v_liked)) a.1 a.2.1 a.2.2.1 a.2.2.2) N ((0 : Int32), v_houses, v_worth, v_liked)) else ((fX3_worthWritten N w1_letters l2).bind (fun x_23 => if l2 < 0 ∨ 12 ≤ (l2).toNatClampNeg then none else (K_10 (l2 + (1 : Int32)) v_houses (upd v_worth (l2).toNatClampNeg x_23) v_liked)))
noncomputable def fX0_readFrom (N : Nat) (w1_size : Int32) (w1_letters : (Nat → Int32)) (v_houses : Int32) (v_worth : (Nat → Int32)) (v_liked : (Nat → Int32))  : Option (Int32 × (Nat → Int32) × (Nat → Int32)) := (fX3_houses N w1_size).bind (fun x_2 => lfix (fun (K : Int32 × Int32 × (Nat → Int32) × (Nat → Int32) → Option (Int32 × (Nat → Int32) × (Nat → Int32))) (a : Int32 × Int32 × (Nat → Int32) × (Nat → Int32)) => fX0_readFrom_10 N w1_size w1_letters (fun (l2 : Int32) (v_houses : Int32) (v_worth : (Nat → Int32)) (v_liked : (Nat → Int32)) => K (l2, v_houses, v_worth, v_liked)) a.1 a.2.1 a.2.2.1 a.2.2.2) N ((0 : Int32), x_2, v_worth, v_liked))
set_option maxHeartbeats 4000000 in
set_option maxRecDepth 100000 in
theorem wX0_readFrom_35 {p : Program} {l : Launch} {e : Env} {R : Room} {s : State} {m : MethodId} {args : Array Value} {below : List Frame} {meth : Method} {c : Code} {cells slots : Nat} {Q : State → Prop} {D : va_G} {A : Nat → Prop} {cI cZ cG : ClassId} {q q_worth q_liked q1 q1_letters : Nat} {w1_size : Int32} {w1_letters : (Nat → Int32)} {N : Nat} {ρ : Int32 × (Nat → Int32) × (Nat → Int32)} (X : CX p s m args c cX0_readFrom 3 RX0 D (TY cI cZ cG) A) (hrm : RM R 2 41 cells slots) (ret : ∀ (pc : Nat) (H : Heap) (locs : List Loc) (ls : Array Slot), decode cX0_readFrom pc = .ok (.return_, 1) → WD D A (kwX0_readFrom cI cZ cG q q_worth q_liked q1 q1_letters (ρ.1) w1_size w1_letters (ρ.2.1) (ρ.2.2)) s.heap H locs → W p l e R s m args below meth c H locs cells slots Q (F0 m pc ls []))  : ∀ (n : Nat) (a : Int32 × Int32 × (Nat → Int32) × (Nat → Int32)), lfix (fun (K : Int32 × Int32 × (Nat → Int32) × (Nat → Int32) → Option (Int32 × (Nat → Int32) × (Nat → Int32))) (a : Int32 × Int32 × (Nat → Int32) × (Nat → Int32)) => fX0_readFrom_35 N w1_size w1_letters (fun (l2 : Int32) (v_houses : Int32) (v_worth : (Nat → Int32)) (v_liked : (Nat → Int32)) => K (l2, v_houses, v_worth, v_liked)) a.1 a.2.1 a.2.2.1 a.2.2.2) n a = some ρ → (fun (l2 : Int32) (v_houses : Int32) (v_worth : (Nat → Int32)) (v_liked : (Nat → Int32)) => ∀ (H : Heap) (locs : List Loc) (ls : Array Slot), WD D A (kwX0_readFrom cI cZ cG q q_worth q_liked q1 q1_letters v_houses w1_size w1_letters v_worth v_liked) s.heap H locs → lv_has ls 3 [(0, .ref q), (1, .ref q1), (2, .int l2)] → W p l e R s m args below meth c H locs cells slots Q (F0 m 35 ls [])) (a.1) (a.2.1) (a.2.2.1) (a.2.2.2) := by
  have hx := X.1.1
  have hb := X.1.2.1
  refine lfix_W (fun K hK a h => ?_)
  obtain ⟨l2, v_houses, v_worth, v_liked⟩ := a
  intro H locs ls hw hl
  have h : fX0_readFrom_35 N w1_size w1_letters (fun (l2 : Int32) (v_houses : Int32) (v_worth : (Nat → Int32)) (v_liked : (Nat → Int32)) => K (l2, v_houses, v_worth, v_liked)) l2 v_houses v_worth v_liked = some ρ := h
  have hK_35 : ∀ (l2 : Int32) (v_houses : Int32) (v_worth : (Nat → Int32)) (v_liked : (Nat → Int32)), (fun (l2 : Int32) (v_houses : Int32) (v_worth : (Nat → Int32)) (v_liked : (Nat → Int32)) => K (l2, v_houses, v_worth, v_liked)) l2 v_houses v_worth v_liked = some ρ → ∀ (H : Heap) (locs : List Loc) (ls : Array Slot), WD D A (kwX0_readFrom cI cZ cG q q_worth q_liked q1 q1_letters v_houses w1_size w1_letters v_worth v_liked) s.heap H locs → lv_has ls 3 [(0, .ref q), (1, .ref q1), (2, .int l2)] → W p l e R s m args below meth c H locs cells slots Q (F0 m 35 ls []) := fun l2 v_houses v_worth v_liked h => hK (l2, v_houses, v_worth, v_liked) h
  generalize (fun (l2 : Int32) (v_houses : Int32) (v_worth : (Nat → Int32)) (v_liked : (Nat → Int32)) => K (l2, v_houses, v_worth, v_liked)) = K_35 at h hK_35
  have hw : WD D A (kwX0_readFrom cI cZ cG q q_worth q_liked q1 q1_letters v_houses w1_size w1_letters v_worth v_liked) s.heap H locs := hw
  have hl : lv_has ls 3 [(0, .ref q), (1, .ref q1), (2, .int l2)] := hl
  unfold fX0_readFrom_35 at h
  refine lv_iload_n hx hb dX0_readFrom_35 rfl (lv_at hl 2 rfl) ?_
  refine lv_aload_n hx hb dX0_readFrom_36 rfl (lv_at hl 0 rfl) ?_
  refine kget (ci := 0) (v := .int v_houses) X hw iX0 0 rfl rfl 2 (by decide) tw_103 rfl dX0_readFrom_37 ?_
  refine lv_icmp_ge (tgt := 60) hx hb dX0_readFrom_40 (by decide) (fun c_40 => ?_) (fun c_40 => ?_)
  · have h := ift c_40 h
    obtain rfl := Option.some.inj h
    exact ret _ _ _ _ dX0_readFrom_60 hw
  · have h := iff_ c_40 h
    refine lv_aload_n hx hb dX0_readFrom_43 rfl (lv_at hl 0 rfl) ?_
    refine kget (ci := 0) (v := .ref q_liked) X hw iX0 0 rfl rfl 1 (by decide) tw_104 rfl dX0_readFrom_44 ?_
    refine lv_iload_n hx hb dX0_readFrom_47 rfl (lv_at hl 2 rfl) ?_
    refine lv_aload_n hx hb dX0_readFrom_48 rfl (lv_at hl 1 rfl) ?_
    refine lv_iload_n hx hb dX0_readFrom_49 rfl (lv_at hl 2 rfl) ?_
    obtain ⟨x_50, hc_50, h⟩ := obd h
    refine ksV_i (ws2 := (kwX0_readFrom cI cZ cG q q_worth q_liked q1 q1_letters v_houses w1_size w1_letters v_worth v_liked)) (nW := 5) (ci := 3) (As := [.int l2]) (rest := [.int l2, .ref q_liked]) X hw rfl rfl rfl (cX3_likeWritten_ct l D cI cZ cG q1 q1_letters w1_size w1_letters l2 N x_50 hc_50 H.size) mX3_likeWritten tw_105 (hrm.call (by decide) (by decide)) [1, 2] rfl (by decide) rfl (by decide) rfl ⟨rfl, ⟨rfl, ⟨rfl, trivial⟩⟩⟩ rfl hl.1 rfl (Nat.le_of_ble_eq_true rfl) dX0_readFrom_50 ⟨hrm.2.2.1, hrm.2.2.2⟩ (fun H locs hw => ?_)
    obtain ⟨g_53, h⟩ := gd h
    refine kiast X hw 4 rfl rfl g_53 dX0_readFrom_53 (fun H locs hw => ?_)
    have hw : WD D A (kwX0_readFrom cI cZ cG q q_worth q_liked q1 q1_letters v_houses w1_size w1_letters v_worth (upd v_liked (l2).toNatClampNeg x_50)) s.heap H locs := hw
    refine lv_iinc (v := (l2 + (1 : Int32))) (lv' := [(2, .int (l2 + (1 : Int32))), (0, .ref q), (1, .ref q1)]) hx hb dX0_readFrom_54 hl (k := 2) rfl (congrArg (l2 + ·) (by decide)) (by decide) rfl (fun ls hl => ?_)
    refine lv_goto (tgt := 35) hx hb dX0_readFrom_57 (by decide) ?_
    exact hK_35 _ _ _ _ h _ _ _ hw (lv_sub hl [1, 2, 0] rfl)
set_option maxHeartbeats 4000000 in
set_option maxRecDepth 100000 in
theorem wX0_readFrom_10 {p : Program} {l : Launch} {e : Env} {R : Room} {s : State} {m : MethodId} {args : Array Value} {below : List Frame} {meth : Method} {c : Code} {cells slots : Nat} {Q : State → Prop} {D : va_G} {A : Nat → Prop} {cI cZ cG : ClassId} {q q_worth q_liked q1 q1_letters : Nat} {w1_size : Int32} {w1_letters : (Nat → Int32)} {N : Nat} {ρ : Int32 × (Nat → Int32) × (Nat → Int32)} (X : CX p s m args c cX0_readFrom 3 RX0 D (TY cI cZ cG) A) (hrm : RM R 2 41 cells slots) (ret : ∀ (pc : Nat) (H : Heap) (locs : List Loc) (ls : Array Slot), decode cX0_readFrom pc = .ok (.return_, 1) → WD D A (kwX0_readFrom cI cZ cG q q_worth q_liked q1 q1_letters (ρ.1) w1_size w1_letters (ρ.2.1) (ρ.2.2)) s.heap H locs → W p l e R s m args below meth c H locs cells slots Q (F0 m pc ls []))  : ∀ (n : Nat) (a : Int32 × Int32 × (Nat → Int32) × (Nat → Int32)), lfix (fun (K : Int32 × Int32 × (Nat → Int32) × (Nat → Int32) → Option (Int32 × (Nat → Int32) × (Nat → Int32))) (a : Int32 × Int32 × (Nat → Int32) × (Nat → Int32)) => fX0_readFrom_10 N w1_size w1_letters (fun (l2 : Int32) (v_houses : Int32) (v_worth : (Nat → Int32)) (v_liked : (Nat → Int32)) => K (l2, v_houses, v_worth, v_liked)) a.1 a.2.1 a.2.2.1 a.2.2.2) n a = some ρ → (fun (l2 : Int32) (v_houses : Int32) (v_worth : (Nat → Int32)) (v_liked : (Nat → Int32)) => ∀ (H : Heap) (locs : List Loc) (ls : Array Slot), WD D A (kwX0_readFrom cI cZ cG q q_worth q_liked q1 q1_letters v_houses w1_size w1_letters v_worth v_liked) s.heap H locs → lv_has ls 3 [(0, .ref q), (1, .ref q1), (2, .int l2)] → W p l e R s m args below meth c H locs cells slots Q (F0 m 10 ls [])) (a.1) (a.2.1) (a.2.2.1) (a.2.2.2) := by
  have hx := X.1.1
  have hb := X.1.2.1
  refine lfix_W (fun K hK a h => ?_)
  obtain ⟨l2, v_houses, v_worth, v_liked⟩ := a
  intro H locs ls hw hl
  have h : fX0_readFrom_10 N w1_size w1_letters (fun (l2 : Int32) (v_houses : Int32) (v_worth : (Nat → Int32)) (v_liked : (Nat → Int32)) => K (l2, v_houses, v_worth, v_liked)) l2 v_houses v_worth v_liked = some ρ := h
  have hK_10 : ∀ (l2 : Int32) (v_houses : Int32) (v_worth : (Nat → Int32)) (v_liked : (Nat → Int32)), (fun (l2 : Int32) (v_houses : Int32) (v_worth : (Nat → Int32)) (v_liked : (Nat → Int32)) => K (l2, v_houses, v_worth, v_liked)) l2 v_houses v_worth v_liked = some ρ → ∀ (H : Heap) (locs : List Loc) (ls : Array Slot), WD D A (kwX0_readFrom cI cZ cG q q_worth q_liked q1 q1_letters v_houses w1_size w1_letters v_worth v_liked) s.heap H locs → lv_has ls 3 [(0, .ref q), (1, .ref q1), (2, .int l2)] → W p l e R s m args below meth c H locs cells slots Q (F0 m 10 ls []) := fun l2 v_houses v_worth v_liked h => hK (l2, v_houses, v_worth, v_liked) h
  generalize (fun (l2 : Int32) (v_houses : Int32) (v_worth : (Nat → Int32)) (v_liked : (Nat → Int32)) => K (l2, v_houses, v_worth, v_liked)) = K_10 at h hK_10
  have hw : WD D A (kwX0_readFrom cI cZ cG q q_worth q_liked q1 q1_letters v_houses w1_size w1_letters v_worth v_liked) s.heap H locs := hw
  have hl : lv_has ls 3 [(0, .ref q), (1, .ref q1), (2, .int l2)] := hl
  unfold fX0_readFrom_10 at h
  refine lv_iload_n hx hb dX0_readFrom_10 rfl (lv_at hl 2 rfl) ?_
  refine lv_bipush (v := (12 : Int32)) hx hb dX0_readFrom_11 (by decide) ?_
  refine lv_icmp_ge (tgt := 33) hx hb dX0_readFrom_13 (by decide) (fun c_13 => ?_) (fun c_13 => ?_)
  · have h := ift c_13 h
    refine lv_iconst (v := (0 : Int32)) hx hb dX0_readFrom_33 (by decide) ?_
    refine lv_istore_n (lv' := [(2, .int (0 : Int32)), (0, .ref q), (1, .ref q1)]) hx hb dX0_readFrom_34 rfl hl (by decide) rfl (fun ls hl => ?_)
    exact wX0_readFrom_35 X hrm ret  _ _ h _ _ _ hw (lv_sub hl [1, 2, 0] rfl)
  · have h := iff_ c_13 h
    refine lv_aload_n hx hb dX0_readFrom_16 rfl (lv_at hl 0 rfl) ?_
    refine kget (ci := 0) (v := .ref q_worth) X hw iX0 0 rfl rfl 0 (by decide) tw_101 rfl dX0_readFrom_17 ?_
    refine lv_iload_n hx hb dX0_readFrom_20 rfl (lv_at hl 2 rfl) ?_
    refine lv_aload_n hx hb dX0_readFrom_21 rfl (lv_at hl 1 rfl) ?_
    refine lv_iload_n hx hb dX0_readFrom_22 rfl (lv_at hl 2 rfl) ?_
    obtain ⟨x_23, hc_23, h⟩ := obd h
    refine ksV_i (ws2 := (kwX0_readFrom cI cZ cG q q_worth q_liked q1 q1_letters v_houses w1_size w1_letters v_worth v_liked)) (nW := 5) (ci := 3) (As := [.int l2]) (rest := [.int l2, .ref q_worth]) X hw rfl rfl rfl (cX3_worthWritten_ct l D cI cZ cG q1 q1_letters w1_size w1_letters l2 N x_23 hc_23 H.size) mX3_worthWritten tw_102 (hrm.call (by decide) (by decide)) [1, 2] rfl (by decide) rfl (by decide) rfl ⟨rfl, ⟨rfl, ⟨rfl, trivial⟩⟩⟩ rfl hl.1 rfl (Nat.le_of_ble_eq_true rfl) dX0_readFrom_23 ⟨hrm.2.2.1, hrm.2.2.2⟩ (fun H locs hw => ?_)
    obtain ⟨g_26, h⟩ := gd h
    refine kiast X hw 3 rfl rfl g_26 dX0_readFrom_26 (fun H locs hw => ?_)
    have hw : WD D A (kwX0_readFrom cI cZ cG q q_worth q_liked q1 q1_letters v_houses w1_size w1_letters (upd v_worth (l2).toNatClampNeg x_23) v_liked) s.heap H locs := hw
    refine lv_iinc (v := (l2 + (1 : Int32))) (lv' := [(2, .int (l2 + (1 : Int32))), (0, .ref q), (1, .ref q1)]) hx hb dX0_readFrom_27 hl (k := 2) rfl (congrArg (l2 + ·) (by decide)) (by decide) rfl (fun ls hl => ?_)
    refine lv_goto (tgt := 10) hx hb dX0_readFrom_30 (by decide) ?_
    exact hK_10 _ _ _ _ h _ _ _ hw (lv_sub hl [1, 2, 0] rfl)
set_option maxHeartbeats 4000000 in
set_option maxRecDepth 100000 in
theorem wX0_readFrom {p : Program} {l : Launch} {e : Env} {R : Room} {s : State} {m : MethodId} {args : Array Value} {below : List Frame} {meth : Method} {c : Code} {cells slots : Nat} {Q : State → Prop} {D : va_G} {A : Nat → Prop} {cI cZ cG : ClassId} {q q_worth q_liked q1 q1_letters : Nat} {v_houses : Int32} {w1_size : Int32} {w1_letters : (Nat → Int32)} {v_worth : (Nat → Int32)} {v_liked : (Nat → Int32)} {N : Nat} {ρ : Int32 × (Nat → Int32) × (Nat → Int32)} (X : CX p s m args c cX0_readFrom 3 RX0 D (TY cI cZ cG) A) (hrm : RM R 2 41 cells slots) (ret : ∀ (pc : Nat) (H : Heap) (locs : List Loc) (ls : Array Slot), decode cX0_readFrom pc = .ok (.return_, 1) → WD D A (kwX0_readFrom cI cZ cG q q_worth q_liked q1 q1_letters (ρ.1) w1_size w1_letters (ρ.2.1) (ρ.2.2)) s.heap H locs → W p l e R s m args below meth c H locs cells slots Q (F0 m pc ls [])) (h : fX0_readFrom N w1_size w1_letters v_houses v_worth v_liked  = some ρ) (H : Heap) (locs : List Loc) (ls : Array Slot) (hw : WD D A (kwX0_readFrom cI cZ cG q q_worth q_liked q1 q1_letters v_houses w1_size w1_letters v_worth v_liked) s.heap H locs) (hl : lv_has ls 3 [(0, .ref q), (1, .ref q1)]) : W p l e R s m args below meth c H locs cells slots Q (F0 m 0 ls []) := by
  have hx := X.1.1
  have hb := X.1.2.1
  unfold fX0_readFrom at h
  refine lv_aload_n hx hb dX0_readFrom_0 rfl (lv_at hl 0 rfl) ?_
  refine lv_aload_n hx hb dX0_readFrom_1 rfl (lv_at hl 1 rfl) ?_
  obtain ⟨x_2, hc_2, h⟩ := obd h
  refine ksV_i (ws2 := (kwX0_readFrom cI cZ cG q q_worth q_liked q1 q1_letters v_houses w1_size w1_letters v_worth v_liked)) (nW := 5) (ci := 3) (As := []) (rest := [.ref q]) X hw rfl rfl rfl (cX3_houses_ct l D cI cZ cG q1 q1_letters w1_size N x_2 hc_2 H.size) mX3_houses tw_106 (hrm.call (by decide) (by decide)) [1] rfl (by decide) rfl (by decide) rfl ⟨rfl, ⟨rfl, ⟨rfl, ⟨rfl, trivial⟩⟩⟩⟩ rfl hl.1 rfl (Nat.le_of_ble_eq_true rfl) dX0_readFrom_2 ⟨hrm.2.2.1, hrm.2.2.2⟩ (fun H locs hw => ?_)
  refine kput (ci := 0) (v := .int x_2) (ty := .int) X hw iX0 tyX0_ok nmX0 0 rfl rfl 2 (by decide) tw_103 rfl rfl rfl rfl (Nat.le_of_ble_eq_true rfl) dX0_readFrom_5 (fun H locs hw => ?_)
  have hw : WD D A (kwX0_readFrom cI cZ cG q q_worth q_liked q1 q1_letters x_2 w1_size w1_letters v_worth v_liked) s.heap H locs := hw
  refine lv_iconst (v := (0 : Int32)) hx hb dX0_readFrom_8 (by decide) ?_
  refine lv_istore_n (lv' := [(2, .int (0 : Int32)), (0, .ref q), (1, .ref q1)]) hx hb dX0_readFrom_9 rfl hl (by decide) rfl (fun ls hl => ?_)
  exact wX0_readFrom_10 X hrm ret  _ _ h _ _ _ hw (lv_sub hl [1, 2, 0] rfl)
set_option maxHeartbeats 4000000 in
set_option maxRecDepth 100000 in
theorem cX0_readFrom_ct (l : Launch) (D : va_G) (cI cZ cG : ClassId) (q q_worth q_liked q1 q1_letters : Nat)  (v_houses : Int32) (w1_size : Int32) (w1_letters : (Nat → Int32)) (v_worth : (Nat → Int32)) (v_liked : (Nat → Int32))  (N : Nat) (ρ : Int32 × (Nat → Int32) × (Nat → Int32)) (h : fX0_readFrom N w1_size w1_letters v_houses v_worth v_liked  = some ρ) (sz : Nat) : Met l yX0_readFrom (wz yX0_readFrom cX0_readFrom 3 none) (cRm 2 41) (cPre D (TY cI cZ cG) [.ref q, .ref q1] (kwX0_readFrom cI cZ cG q q_worth q_liked q1 q1_letters v_houses w1_size w1_letters v_worth v_liked) sz) (cQv D (kwX0_readFrom cI cZ cG q q_worth q_liked q1 q1_letters v_houses w1_size w1_letters v_worth v_liked) (kwX0_readFrom cI cZ cG q q_worth q_liked q1 q1_letters (ρ.1) w1_size w1_letters (ρ.2.1) (ρ.2.2)) sz) 0 0 (va_A (kwX0_readFrom cI cZ cG q q_worth q_liked q1 q1_letters v_houses w1_size w1_letters v_worth v_liked) sz) :=
  mk_v (by decide) (Nat.le_of_ble_eq_true rfl) (fun X hrm ret hw hl => wX0_readFrom X hrm ret h _ _ _ hw hl)
theorem dX0_likersOf_0 : decode cX0_likersOf 0 = .ok (.iconst 0, 1) := by decide +kernel
theorem dX0_likersOf_1 : decode cX0_likersOf 1 = .ok (.istore_n 2, 1) := by decide +kernel
theorem dX0_likersOf_2 : decode cX0_likersOf 2 = .ok (.iconst 0, 1) := by decide +kernel
theorem dX0_likersOf_3 : decode cX0_likersOf 3 = .ok (.istore_n 3, 1) := by decide +kernel
theorem dX0_likersOf_4 : decode cX0_likersOf 4 = .ok (.iload_n 3, 1) := by decide +kernel
theorem dX0_likersOf_5 : decode cX0_likersOf 5 = .ok (.aload_n 0, 1) := by decide +kernel
theorem dX0_likersOf_6 : decode cX0_likersOf 6 = .ok (.getfield 24, 3) := by decide +kernel
theorem dX0_likersOf_9 : decode cX0_likersOf 9 = .ok (.if_icmp .ge 22, 3) := by decide +kernel
theorem dX0_likersOf_12 : decode cX0_likersOf 12 = .ok (.aload_n 0, 1) := by decide +kernel
theorem dX0_likersOf_13 : decode cX0_likersOf 13 = .ok (.getfield 15, 3) := by decide +kernel
theorem dX0_likersOf_16 : decode cX0_likersOf 16 = .ok (.iload_n 3, 1) := by decide +kernel
theorem dX0_likersOf_17 : decode cX0_likersOf 17 = .ok (.iaload, 1) := by decide +kernel
theorem dX0_likersOf_18 : decode cX0_likersOf 18 = .ok (.iload_n 1, 1) := by decide +kernel
theorem dX0_likersOf_19 : decode cX0_likersOf 19 = .ok (.if_icmp .ne 6, 3) := by decide +kernel
theorem dX0_likersOf_22 : decode cX0_likersOf 22 = .ok (.iinc 2 1, 3) := by decide +kernel
theorem dX0_likersOf_25 : decode cX0_likersOf 25 = .ok (.iinc 3 1, 3) := by decide +kernel
theorem dX0_likersOf_28 : decode cX0_likersOf 28 = .ok (.goto (-24), 3) := by decide +kernel
theorem dX0_likersOf_31 : decode cX0_likersOf 31 = .ok (.iload_n 2, 1) := by decide +kernel
theorem dX0_likersOf_32 : decode cX0_likersOf 32 = .ok (.ireturn, 1) := by decide +kernel
abbrev kwX0_likersOf (cI cZ cG : ClassId) (q q_worth q_liked : Nat) (v_houses : Int32) (v_liked : (Nat → Int32)) : va_W := [(q, .inr (0, [.ref q_worth, .ref q_liked, .int v_houses])), (q_liked, .inl (cI, 6, .inl v_liked))]
noncomputable def fX0_likersOf_4 (N : Nat) (v_houses : Int32) (v_liked : (Nat → Int32)) (a1 : Int32)  (K_4 : Int32 → Int32 → Option (Int32)) (l2 : Int32) (l3 : Int32) : Option (Int32) := if v_houses ≤ l3 then (some l2) else (if l3 < 0 ∨ 6 ≤ (l3).toNatClampNeg then none else (if (v_liked (l3).toNatClampNeg) = a1 then (K_4 (l2 + (1 : Int32)) (l3 + (1 : Int32))) else (K_4 l2 (l3 + (1 : Int32)))))
noncomputable def fX0_likersOf (N : Nat) (v_houses : Int32) (v_liked : (Nat → Int32)) (a1 : Int32)   : Option (Int32) := lfix (fun (K : Int32 × Int32 → Option (Int32)) (a : Int32 × Int32) => fX0_likersOf_4 N v_houses v_liked a1 (fun (l2 : Int32) (l3 : Int32) => K (l2, l3)) a.1 a.2) N ((0 : Int32), (0 : Int32))
set_option maxHeartbeats 4000000 in
set_option maxRecDepth 100000 in
theorem wX0_likersOf_4 {p : Program} {l : Launch} {e : Env} {R : Room} {s : State} {m : MethodId} {args : Array Value} {below : List Frame} {meth : Method} {c : Code} {cells slots : Nat} {Q : State → Prop} {D : va_G} {A : Nat → Prop} {cI cZ cG : ClassId} {q q_worth q_liked : Nat} {v_houses : Int32} {v_liked : (Nat → Int32)} {a1 : Int32} {N : Nat} {ρ : Int32} (X : CX p s m args c cX0_likersOf 4 RX0 D (TY cI cZ cG) A) (hrm : RM R 0 0 cells slots) (ret : ∀ (pc : Nat) (H : Heap) (locs : List Loc) (ls : Array Slot), decode cX0_likersOf pc = .ok (.ireturn, 1) → WD D A (kwX0_likersOf cI cZ cG q q_worth q_liked v_houses v_liked) s.heap H locs → W p l e R s m args below meth c H locs cells slots Q (F0 m pc ls [.int ρ]))  : ∀ (n : Nat) (a : Int32 × Int32), lfix (fun (K : Int32 × Int32 → Option (Int32)) (a : Int32 × Int32) => fX0_likersOf_4 N v_houses v_liked a1 (fun (l2 : Int32) (l3 : Int32) => K (l2, l3)) a.1 a.2) n a = some ρ → (fun (l2 : Int32) (l3 : Int32) => ∀ (H : Heap) (locs : List Loc) (ls : Array Slot), WD D A (kwX0_likersOf cI cZ cG q q_worth q_liked v_houses v_liked) s.heap H locs → lv_has ls 4 [(0, .ref q), (1, .int a1), (2, .int l2), (3, .int l3)] → W p l e R s m args below meth c H locs cells slots Q (F0 m 4 ls [])) (a.1) (a.2) := by
  have hx := X.1.1
  have hb := X.1.2.1
  refine lfix_W (fun K hK a h => ?_)
  obtain ⟨l2, l3⟩ := a
  intro H locs ls hw hl
  have h : fX0_likersOf_4 N v_houses v_liked a1 (fun (l2 : Int32) (l3 : Int32) => K (l2, l3)) l2 l3 = some ρ := h
  have hK_4 : ∀ (l2 : Int32) (l3 : Int32), (fun (l2 : Int32) (l3 : Int32) => K (l2, l3)) l2 l3 = some ρ → ∀ (H : Heap) (locs : List Loc) (ls : Array Slot), WD D A (kwX0_likersOf cI cZ cG q q_worth q_liked v_houses v_liked) s.heap H locs → lv_has ls 4 [(0, .ref q), (1, .int a1), (2, .int l2), (3, .int l3)] → W p l e R s m args below meth c H locs cells slots Q (F0 m 4 ls []) := fun l2 l3 h => hK (l2, l3) h
  generalize (fun (l2 : Int32) (l3 : Int32) => K (l2, l3)) = K_4 at h hK_4
  have hw : WD D A (kwX0_likersOf cI cZ cG q q_worth q_liked v_houses v_liked) s.heap H locs := hw
  have hl : lv_has ls 4 [(0, .ref q), (1, .int a1), (2, .int l2), (3, .int l3)] := hl
  unfold fX0_likersOf_4 at h
  refine lv_iload_n hx hb dX0_likersOf_4 rfl (lv_at hl 3 rfl) ?_
  refine lv_aload_n hx hb dX0_likersOf_5 rfl (lv_at hl 0 rfl) ?_
  refine kget (ci := 0) (v := .int v_houses) X hw iX0 0 rfl rfl 2 (by decide) tw_103 rfl dX0_likersOf_6 ?_
  refine lv_icmp_ge (tgt := 31) hx hb dX0_likersOf_9 (by decide) (fun c_9 => ?_) (fun c_9 => ?_)
  · have h := ift c_9 h
    refine lv_iload_n hx hb dX0_likersOf_31 rfl (lv_at hl 2 rfl) ?_
    obtain rfl := Option.some.inj h
    exact ret _ _ _ _ dX0_likersOf_32 hw
  · have h := iff_ c_9 h
    refine lv_aload_n hx hb dX0_likersOf_12 rfl (lv_at hl 0 rfl) ?_
    refine kget (ci := 0) (v := .ref q_liked) X hw iX0 0 rfl rfl 1 (by decide) tw_104 rfl dX0_likersOf_13 ?_
    refine lv_iload_n hx hb dX0_likersOf_16 rfl (lv_at hl 3 rfl) ?_
    obtain ⟨g_17, h⟩ := gd h
    refine kiald X hw 1 rfl rfl g_17 dX0_likersOf_17 ?_
    refine lv_iload_n hx hb dX0_likersOf_18 rfl (lv_at hl 1 rfl) ?_
    refine lv_icmp_ne (tgt := 25) hx hb dX0_likersOf_19 (by decide) (fun c_19 => ?_) (fun c_19 => ?_)
    · have h := iff_ c_19 h
      refine lv_iinc (v := (l3 + (1 : Int32))) (lv' := [(3, .int (l3 + (1 : Int32))), (0, .ref q), (1, .int a1), (2, .int l2)]) hx hb dX0_likersOf_25 hl (k := 3) rfl (congrArg (l3 + ·) (by decide)) (by decide) rfl (fun ls hl => ?_)
      refine lv_goto (tgt := 4) hx hb dX0_likersOf_28 (by decide) ?_
      exact hK_4 _ _ h _ _ _ hw (lv_sub hl [1, 2, 3, 0] rfl)
    · have h := ift c_19 h
      refine lv_iinc (v := (l2 + (1 : Int32))) (lv' := [(2, .int (l2 + (1 : Int32))), (0, .ref q), (1, .int a1), (3, .int l3)]) hx hb dX0_likersOf_22 hl (k := 2) rfl (congrArg (l2 + ·) (by decide)) (by decide) rfl (fun ls hl => ?_)
      refine lv_iinc (v := (l3 + (1 : Int32))) (lv' := [(3, .int (l3 + (1 : Int32))), (2, .int (l2 + (1 : Int32))), (0, .ref q), (1, .int a1)]) hx hb dX0_likersOf_25 hl (k := 3) rfl (congrArg (l3 + ·) (by decide)) (by decide) rfl (fun ls hl => ?_)
      refine lv_goto (tgt := 4) hx hb dX0_likersOf_28 (by decide) ?_
      exact hK_4 _ _ h _ _ _ hw (lv_sub hl [2, 3, 1, 0] rfl)
set_option maxHeartbeats 4000000 in
set_option maxRecDepth 100000 in
theorem wX0_likersOf {p : Program} {l : Launch} {e : Env} {R : Room} {s : State} {m : MethodId} {args : Array Value} {below : List Frame} {meth : Method} {c : Code} {cells slots : Nat} {Q : State → Prop} {D : va_G} {A : Nat → Prop} {cI cZ cG : ClassId} {q q_worth q_liked : Nat} {v_houses : Int32} {v_liked : (Nat → Int32)} {a1 : Int32} {N : Nat} {ρ : Int32} (X : CX p s m args c cX0_likersOf 4 RX0 D (TY cI cZ cG) A) (hrm : RM R 0 0 cells slots) (ret : ∀ (pc : Nat) (H : Heap) (locs : List Loc) (ls : Array Slot), decode cX0_likersOf pc = .ok (.ireturn, 1) → WD D A (kwX0_likersOf cI cZ cG q q_worth q_liked v_houses v_liked) s.heap H locs → W p l e R s m args below meth c H locs cells slots Q (F0 m pc ls [.int ρ])) (h : fX0_likersOf N v_houses v_liked a1   = some ρ) (H : Heap) (locs : List Loc) (ls : Array Slot) (hw : WD D A (kwX0_likersOf cI cZ cG q q_worth q_liked v_houses v_liked) s.heap H locs) (hl : lv_has ls 4 [(0, .ref q), (1, .int a1)]) : W p l e R s m args below meth c H locs cells slots Q (F0 m 0 ls []) := by
  have hx := X.1.1
  have hb := X.1.2.1
  unfold fX0_likersOf at h
  refine lv_iconst (v := (0 : Int32)) hx hb dX0_likersOf_0 (by decide) ?_
  refine lv_istore_n (lv' := [(2, .int (0 : Int32)), (0, .ref q), (1, .int a1)]) hx hb dX0_likersOf_1 rfl hl (by decide) rfl (fun ls hl => ?_)
  refine lv_iconst (v := (0 : Int32)) hx hb dX0_likersOf_2 (by decide) ?_
  refine lv_istore_n (lv' := [(3, .int (0 : Int32)), (2, .int (0 : Int32)), (0, .ref q), (1, .int a1)]) hx hb dX0_likersOf_3 rfl hl (by decide) rfl (fun ls hl => ?_)
  exact wX0_likersOf_4 X hrm ret  _ _ h _ _ _ hw (lv_sub hl [2, 3, 1, 0] rfl)
set_option maxHeartbeats 4000000 in
set_option maxRecDepth 100000 in
theorem cX0_likersOf_ct (l : Launch) (D : va_G) (cI cZ cG : ClassId) (q q_worth q_liked : Nat)  (v_houses : Int32) (v_liked : (Nat → Int32)) (a1 : Int32) (N : Nat) (ρ : Int32) (h : fX0_likersOf N v_houses v_liked a1   = some ρ) (sz : Nat) : Met l yX0_likersOf (wz yX0_likersOf cX0_likersOf 4 (some .int)) (cRm 0 0) (cPre D (TY cI cZ cG) [.ref q, .int a1] (kwX0_likersOf cI cZ cG q q_worth q_liked v_houses v_liked) sz) (cQi D (ρ) (kwX0_likersOf cI cZ cG q q_worth q_liked v_houses v_liked) (kwX0_likersOf cI cZ cG q q_worth q_liked v_houses v_liked) sz) 0 0 (va_A (kwX0_likersOf cI cZ cG q q_worth q_liked v_houses v_liked) sz) :=
  mk_i (by decide) (Nat.le_of_ble_eq_true rfl) (fun X hrm ret hw hl => wX0_likersOf X hrm ret h _ _ _ hw hl)
theorem dX6_isDown_0 : decode cX6_isDown 0 = .ok (.aload_n 0, 1) := by decide +kernel
theorem dX6_isDown_1 : decode cX6_isDown 1 = .ok (.getfield 15, 3) := by decide +kernel
theorem dX6_isDown_4 : decode cX6_isDown 4 = .ok (.iload_n 1, 1) := by decide +kernel
theorem dX6_isDown_5 : decode cX6_isDown 5 = .ok (.iaload, 1) := by decide +kernel
theorem dX6_isDown_6 : decode cX6_isDown 6 = .ok (.iconst (-1), 1) := by decide +kernel
theorem dX6_isDown_7 : decode cX6_isDown 7 = .ok (.if_icmp .ne 7, 3) := by decide +kernel
theorem dX6_isDown_10 : decode cX6_isDown 10 = .ok (.iconst 1, 1) := by decide +kernel
theorem dX6_isDown_11 : decode cX6_isDown 11 = .ok (.goto 4, 3) := by decide +kernel
theorem dX6_isDown_14 : decode cX6_isDown 14 = .ok (.iconst 0, 1) := by decide +kernel
theorem dX6_isDown_15 : decode cX6_isDown 15 = .ok (.ireturn, 1) := by decide +kernel
abbrev kwX6_isDown (cI cZ cG : ClassId) (q q_kindOf q_plotOf q_row q_standsOn : Nat) (v_houses : Int32) (v_front : Int32) (v_downFor : Int32) (v_plotOf : (Nat → Int32)) : va_W := [(q, .inr (6, [.ref q_kindOf, .ref q_plotOf, .ref q_row, .ref q_standsOn, .int v_houses, .int v_front, .int v_downFor])), (q_plotOf, .inl (cI, 6, .inl v_plotOf))]
noncomputable def fX6_isDown (N : Nat) (v_plotOf : (Nat → Int32)) (a1 : Int32)   : Option (Int32) := if a1 < 0 ∨ 6 ≤ (a1).toNatClampNeg then none else (if (v_plotOf (a1).toNatClampNeg) = (-1 : Int32) then (some (1 : Int32)) else (some (0 : Int32)))
set_option maxHeartbeats 4000000 in
set_option maxRecDepth 100000 in
theorem wX6_isDown {p : Program} {l : Launch} {e : Env} {R : Room} {s : State} {m : MethodId} {args : Array Value} {below : List Frame} {meth : Method} {c : Code} {cells slots : Nat} {Q : State → Prop} {D : va_G} {A : Nat → Prop} {cI cZ cG : ClassId} {q q_kindOf q_plotOf q_row q_standsOn : Nat} {v_houses : Int32} {v_front : Int32} {v_downFor : Int32} {v_plotOf : (Nat → Int32)} {a1 : Int32} {N : Nat} {ρ : Int32} (X : CX p s m args c cX6_isDown 2 RX6 D (TY cI cZ cG) A) (hrm : RM R 0 0 cells slots) (ret : ∀ (pc : Nat) (H : Heap) (locs : List Loc) (ls : Array Slot), narrow .boolean (.int ρ) = .int ρ → decode cX6_isDown pc = .ok (.ireturn, 1) → WD D A (kwX6_isDown cI cZ cG q q_kindOf q_plotOf q_row q_standsOn v_houses v_front v_downFor v_plotOf) s.heap H locs → W p l e R s m args below meth c H locs cells slots Q (F0 m pc ls [.int ρ])) (h : fX6_isDown N v_plotOf a1   = some ρ) (H : Heap) (locs : List Loc) (ls : Array Slot) (hw : WD D A (kwX6_isDown cI cZ cG q q_kindOf q_plotOf q_row q_standsOn v_houses v_front v_downFor v_plotOf) s.heap H locs) (hl : lv_has ls 2 [(0, .ref q), (1, .int a1)]) : W p l e R s m args below meth c H locs cells slots Q (F0 m 0 ls []) := by
  have hx := X.1.1
  have hb := X.1.2.1
  unfold fX6_isDown at h
  refine lv_aload_n hx hb dX6_isDown_0 rfl (lv_at hl 0 rfl) ?_
  refine kget (ci := 6) (v := .ref q_plotOf) X hw iX6 0 rfl rfl 1 (by decide) tw_114 rfl dX6_isDown_1 ?_
  refine lv_iload_n hx hb dX6_isDown_4 rfl (lv_at hl 1 rfl) ?_
  obtain ⟨g_5, h⟩ := gd h
  refine kiald X hw 1 rfl rfl g_5 dX6_isDown_5 ?_
  refine lv_iconst (v := (-1 : Int32)) hx hb dX6_isDown_6 (by decide) ?_
  refine lv_icmp_ne (tgt := 14) hx hb dX6_isDown_7 (by decide) (fun c_7 => ?_) (fun c_7 => ?_)
  · have h := iff_ c_7 h
    refine lv_iconst (v := (0 : Int32)) hx hb dX6_isDown_14 (by decide) ?_
    obtain rfl := Option.some.inj h
    exact ret _ _ _ _ (show narrow .boolean (.int (0 : Int32)) = .int (0 : Int32) from rfl) dX6_isDown_15 hw
  · have h := ift c_7 h
    refine lv_iconst (v := (1 : Int32)) hx hb dX6_isDown_10 (by decide) ?_
    refine lv_goto (tgt := 15) hx hb dX6_isDown_11 (by decide) ?_
    obtain rfl := Option.some.inj h
    exact ret _ _ _ _ (show narrow .boolean (.int (1 : Int32)) = .int (1 : Int32) from rfl) dX6_isDown_15 hw
set_option maxHeartbeats 4000000 in
set_option maxRecDepth 100000 in
theorem cX6_isDown_ct (l : Launch) (D : va_G) (cI cZ cG : ClassId) (q q_kindOf q_plotOf q_row q_standsOn : Nat)  (v_houses : Int32) (v_front : Int32) (v_downFor : Int32) (v_plotOf : (Nat → Int32)) (a1 : Int32) (N : Nat) (ρ : Int32) (h : fX6_isDown N v_plotOf a1   = some ρ) (sz : Nat) : Met l yX6_isDown (wz yX6_isDown cX6_isDown 2 (some .boolean)) (cRm 0 0) (cPre D (TY cI cZ cG) [.ref q, .int a1] (kwX6_isDown cI cZ cG q q_kindOf q_plotOf q_row q_standsOn v_houses v_front v_downFor v_plotOf) sz) (cQi D (ρ) (kwX6_isDown cI cZ cG q q_kindOf q_plotOf q_row q_standsOn v_houses v_front v_downFor v_plotOf) (kwX6_isDown cI cZ cG q q_kindOf q_plotOf q_row q_standsOn v_houses v_front v_downFor v_plotOf) sz) 0 0 (va_A (kwX6_isDown cI cZ cG q q_kindOf q_plotOf q_row q_standsOn v_houses v_front v_downFor v_plotOf) sz) :=
  mk_z (by decide) (Nat.le_of_ble_eq_true rfl) (fun X hrm ret hw hl => wX6_isDown X hrm ret h _ _ _ hw hl)
theorem dX0_worthUnder_0 : decode cX0_worthUnder 0 = .ok (.aload_n 1, 1) := by decide +kernel
theorem dX0_worthUnder_1 : decode cX0_worthUnder 1 = .ok (.iload_n 2, 1) := by decide +kernel
theorem dX0_worthUnder_2 : decode cX0_worthUnder 2 = .ok (.invokevirtual 34, 3) := by decide +kernel
theorem dX0_worthUnder_5 : decode cX0_worthUnder 5 = .ok (.ifCond .eq 7, 3) := by decide +kernel
theorem dX0_worthUnder_8 : decode cX0_worthUnder 8 = .ok (.iconst 0, 1) := by decide +kernel
theorem dX0_worthUnder_9 : decode cX0_worthUnder 9 = .ok (.goto 14, 3) := by decide +kernel
theorem dX0_worthUnder_12 : decode cX0_worthUnder 12 = .ok (.aload_n 0, 1) := by decide +kernel
theorem dX0_worthUnder_13 : decode cX0_worthUnder 13 = .ok (.getfield 9, 3) := by decide +kernel
theorem dX0_worthUnder_16 : decode cX0_worthUnder 16 = .ok (.aload_n 1, 1) := by decide +kernel
theorem dX0_worthUnder_17 : decode cX0_worthUnder 17 = .ok (.getfield 40, 3) := by decide +kernel
theorem dX0_worthUnder_20 : decode cX0_worthUnder 20 = .ok (.iload_n 2, 1) := by decide +kernel
theorem dX0_worthUnder_21 : decode cX0_worthUnder 21 = .ok (.iaload, 1) := by decide +kernel
theorem dX0_worthUnder_22 : decode cX0_worthUnder 22 = .ok (.iaload, 1) := by decide +kernel
theorem dX0_worthUnder_23 : decode cX0_worthUnder 23 = .ok (.ireturn, 1) := by decide +kernel
abbrev kwX0_worthUnder (cI cZ cG : ClassId) (q q_worth q_liked q1 q1_kindOf q1_plotOf q1_row q1_standsOn : Nat) (v_houses : Int32) (w1_houses : Int32) (w1_front : Int32) (w1_downFor : Int32) (w1_plotOf : (Nat → Int32)) (v_worth : (Nat → Int32)) : va_W := [(q, .inr (0, [.ref q_worth, .ref q_liked, .int v_houses])), (q1, .inr (6, [.ref q1_kindOf, .ref q1_plotOf, .ref q1_row, .ref q1_standsOn, .int w1_houses, .int w1_front, .int w1_downFor])), (q1_plotOf, .inl (cI, 6, .inl w1_plotOf)), (q_worth, .inl (cI, 12, .inl v_worth))]
noncomputable def fX0_worthUnder (N : Nat) (w1_plotOf : (Nat → Int32)) (v_worth : (Nat → Int32)) (a2 : Int32)   : Option (Int32) := (fX6_isDown N w1_plotOf a2).bind (fun x_2 => if x_2 = 0 then (if a2 < 0 ∨ 6 ≤ (a2).toNatClampNeg then none else (if (w1_plotOf (a2).toNatClampNeg) < 0 ∨ 12 ≤ ((w1_plotOf (a2).toNatClampNeg)).toNatClampNeg then none else (some (v_worth ((w1_plotOf (a2).toNatClampNeg)).toNatClampNeg)))) else (some (0 : Int32)))
set_option maxHeartbeats 4000000 in
set_option maxRecDepth 100000 in
theorem wX0_worthUnder {p : Program} {l : Launch} {e : Env} {R : Room} {s : State} {m : MethodId} {args : Array Value} {below : List Frame} {meth : Method} {c : Code} {cells slots : Nat} {Q : State → Prop} {D : va_G} {A : Nat → Prop} {cI cZ cG : ClassId} {q q_worth q_liked q1 q1_kindOf q1_plotOf q1_row q1_standsOn : Nat} {v_houses : Int32} {w1_houses : Int32} {w1_front : Int32} {w1_downFor : Int32} {w1_plotOf : (Nat → Int32)} {v_worth : (Nat → Int32)} {a2 : Int32} {N : Nat} {ρ : Int32} (X : CX p s m args c cX0_worthUnder 3 RX0 D (TY cI cZ cG) A) (hrm : RM R 1 21 cells slots) (ret : ∀ (pc : Nat) (H : Heap) (locs : List Loc) (ls : Array Slot), decode cX0_worthUnder pc = .ok (.ireturn, 1) → WD D A (kwX0_worthUnder cI cZ cG q q_worth q_liked q1 q1_kindOf q1_plotOf q1_row q1_standsOn v_houses w1_houses w1_front w1_downFor w1_plotOf v_worth) s.heap H locs → W p l e R s m args below meth c H locs cells slots Q (F0 m pc ls [.int ρ])) (h : fX0_worthUnder N w1_plotOf v_worth a2   = some ρ) (H : Heap) (locs : List Loc) (ls : Array Slot) (hw : WD D A (kwX0_worthUnder cI cZ cG q q_worth q_liked q1 q1_kindOf q1_plotOf q1_row q1_standsOn v_houses w1_houses w1_front w1_downFor w1_plotOf v_worth) s.heap H locs) (hl : lv_has ls 3 [(0, .ref q), (1, .ref q1), (2, .int a2)]) : W p l e R s m args below meth c H locs cells slots Q (F0 m 0 ls []) := by
  have hx := X.1.1
  have hb := X.1.2.1
  unfold fX0_worthUnder at h
  refine lv_aload_n hx hb dX0_worthUnder_0 rfl (lv_at hl 1 rfl) ?_
  refine lv_iload_n hx hb dX0_worthUnder_1 rfl (lv_at hl 2 rfl) ?_
  obtain ⟨x_2, hc_2, h⟩ := obd h
  refine ksV_i (ws2 := (kwX0_worthUnder cI cZ cG q q_worth q_liked q1 q1_kindOf q1_plotOf q1_row q1_standsOn v_houses w1_houses w1_front w1_downFor w1_plotOf v_worth)) (nW := 4) (ci := 6) (As := [.int a2]) (rest := []) X hw rfl rfl rfl (cX6_isDown_ct l D cI cZ cG q1 q1_kindOf q1_plotOf q1_row q1_standsOn w1_houses w1_front w1_downFor w1_plotOf a2 N x_2 hc_2 H.size) mX6_isDown tw_119 (hrm.call (by decide) (by decide)) [1, 2] rfl (by decide) rfl (by decide) rfl ⟨rfl, ⟨rfl, trivial⟩⟩ rfl hl.1 rfl (Nat.le_of_ble_eq_true rfl) dX0_worthUnder_2 ⟨hrm.2.2.1, hrm.2.2.2⟩ (fun H locs hw => ?_)
  refine lv_if_eq (tgt := 12) hx hb dX0_worthUnder_5 (by decide) (fun c_5 => ?_) (fun c_5 => ?_)
  · have h := ift c_5 h
    refine lv_aload_n hx hb dX0_worthUnder_12 rfl (lv_at hl 0 rfl) ?_
    refine kget (ci := 0) (v := .ref q_worth) X hw iX0 0 rfl rfl 0 (by decide) tw_101 rfl dX0_worthUnder_13 ?_
    refine lv_aload_n hx hb dX0_worthUnder_16 rfl (lv_at hl 1 rfl) ?_
    refine kget (ci := 6) (v := .ref q1_plotOf) X hw iX6 1 rfl rfl 1 (by decide) tw_120 rfl dX0_worthUnder_17 ?_
    refine lv_iload_n hx hb dX0_worthUnder_20 rfl (lv_at hl 2 rfl) ?_
    obtain ⟨g_21, h⟩ := gd h
    refine kiald X hw 2 rfl rfl g_21 dX0_worthUnder_21 ?_
    obtain ⟨g_22, h⟩ := gd h
    refine kiald X hw 3 rfl rfl g_22 dX0_worthUnder_22 ?_
    obtain rfl := Option.some.inj h
    exact ret _ _ _ _ dX0_worthUnder_23 hw
  · have h := iff_ c_5 h
    refine lv_iconst (v := (0 : Int32)) hx hb dX0_worthUnder_8 (by decide) ?_
    refine lv_goto (tgt := 23) hx hb dX0_worthUnder_9 (by decide) ?_
    obtain rfl := Option.some.inj h
    exact ret _ _ _ _ dX0_worthUnder_23 hw
set_option maxHeartbeats 4000000 in
set_option maxRecDepth 100000 in
theorem cX0_worthUnder_ct (l : Launch) (D : va_G) (cI cZ cG : ClassId) (q q_worth q_liked q1 q1_kindOf q1_plotOf q1_row q1_standsOn : Nat)  (v_houses : Int32) (w1_houses : Int32) (w1_front : Int32) (w1_downFor : Int32) (w1_plotOf : (Nat → Int32)) (v_worth : (Nat → Int32)) (a2 : Int32) (N : Nat) (ρ : Int32) (h : fX0_worthUnder N w1_plotOf v_worth a2   = some ρ) (sz : Nat) : Met l yX0_worthUnder (wz yX0_worthUnder cX0_worthUnder 3 (some .int)) (cRm 1 21) (cPre D (TY cI cZ cG) [.ref q, .ref q1, .int a2] (kwX0_worthUnder cI cZ cG q q_worth q_liked q1 q1_kindOf q1_plotOf q1_row q1_standsOn v_houses w1_houses w1_front w1_downFor w1_plotOf v_worth) sz) (cQi D (ρ) (kwX0_worthUnder cI cZ cG q q_worth q_liked q1 q1_kindOf q1_plotOf q1_row q1_standsOn v_houses w1_houses w1_front w1_downFor w1_plotOf v_worth) (kwX0_worthUnder cI cZ cG q q_worth q_liked q1 q1_kindOf q1_plotOf q1_row q1_standsOn v_houses w1_houses w1_front w1_downFor w1_plotOf v_worth) sz) 0 0 (va_A (kwX0_worthUnder cI cZ cG q q_worth q_liked q1 q1_kindOf q1_plotOf q1_row q1_standsOn v_houses w1_houses w1_front w1_downFor w1_plotOf v_worth) sz) :=
  mk_i (by decide) (Nat.le_of_ble_eq_true rfl) (fun X hrm ret hw hl => wX0_worthUnder X hrm ret h _ _ _ hw hl)
theorem dX0_worthUnderAll_0 : decode cX0_worthUnderAll 0 = .ok (.iconst 0, 1) := by decide +kernel
theorem dX0_worthUnderAll_1 : decode cX0_worthUnderAll 1 = .ok (.istore_n 2, 1) := by decide +kernel
theorem dX0_worthUnderAll_2 : decode cX0_worthUnderAll 2 = .ok (.iconst 0, 1) := by decide +kernel
theorem dX0_worthUnderAll_3 : decode cX0_worthUnderAll 3 = .ok (.istore_n 3, 1) := by decide +kernel
theorem dX0_worthUnderAll_4 : decode cX0_worthUnderAll 4 = .ok (.iload_n 3, 1) := by decide +kernel
theorem dX0_worthUnderAll_5 : decode cX0_worthUnderAll 5 = .ok (.aload_n 0, 1) := by decide +kernel
theorem dX0_worthUnderAll_6 : decode cX0_worthUnderAll 6 = .ok (.getfield 24, 3) := by decide +kernel
theorem dX0_worthUnderAll_9 : decode cX0_worthUnderAll 9 = .ok (.if_icmp .ge 18, 3) := by decide +kernel
theorem dX0_worthUnderAll_12 : decode cX0_worthUnderAll 12 = .ok (.iload_n 2, 1) := by decide +kernel
theorem dX0_worthUnderAll_13 : decode cX0_worthUnderAll 13 = .ok (.aload_n 0, 1) := by decide +kernel
theorem dX0_worthUnderAll_14 : decode cX0_worthUnderAll 14 = .ok (.aload_n 1, 1) := by decide +kernel
theorem dX0_worthUnderAll_15 : decode cX0_worthUnderAll 15 = .ok (.iload_n 3, 1) := by decide +kernel
theorem dX0_worthUnderAll_16 : decode cX0_worthUnderAll 16 = .ok (.invokevirtual 43, 3) := by decide +kernel
theorem dX0_worthUnderAll_19 : decode cX0_worthUnderAll 19 = .ok (.iadd, 1) := by decide +kernel
theorem dX0_worthUnderAll_20 : decode cX0_worthUnderAll 20 = .ok (.istore_n 2, 1) := by decide +kernel
theorem dX0_worthUnderAll_21 : decode cX0_worthUnderAll 21 = .ok (.iinc 3 1, 3) := by decide +kernel
theorem dX0_worthUnderAll_24 : decode cX0_worthUnderAll 24 = .ok (.goto (-20), 3) := by decide +kernel
theorem dX0_worthUnderAll_27 : decode cX0_worthUnderAll 27 = .ok (.iload_n 2, 1) := by decide +kernel
theorem dX0_worthUnderAll_28 : decode cX0_worthUnderAll 28 = .ok (.ireturn, 1) := by decide +kernel
abbrev kwX0_worthUnderAll (cI cZ cG : ClassId) (q q_worth q_liked q1 q1_kindOf q1_plotOf q1_row q1_standsOn : Nat) (v_houses : Int32) (w1_houses : Int32) (w1_front : Int32) (w1_downFor : Int32) (w1_plotOf : (Nat → Int32)) (v_worth : (Nat → Int32)) : va_W := [(q, .inr (0, [.ref q_worth, .ref q_liked, .int v_houses])), (q1, .inr (6, [.ref q1_kindOf, .ref q1_plotOf, .ref q1_row, .ref q1_standsOn, .int w1_houses, .int w1_front, .int w1_downFor])), (q1_plotOf, .inl (cI, 6, .inl w1_plotOf)), (q_worth, .inl (cI, 12, .inl v_worth))]
noncomputable def fX0_worthUnderAll_4 (N : Nat) (v_houses : Int32) (w1_plotOf : (Nat → Int32)) (v_worth : (Nat → Int32))  (K_4 : Int32 → Int32 → Option (Int32)) (l2 : Int32) (l3 : Int32) : Option (Int32) := if v_houses ≤ l3 then (some l2) else ((fX0_worthUnder N w1_plotOf v_worth l3).bind (fun x_16 => K_4 (l2 + x_16) (l3 + (1 : Int32))))
noncomputable def fX0_worthUnderAll (N : Nat) (v_houses : Int32) (w1_plotOf : (Nat → Int32)) (v_worth : (Nat → Int32))   : Option (Int32) := lfix (fun (K : Int32 × Int32 → Option (Int32)) (a : Int32 × Int32) => fX0_worthUnderAll_4 N v_houses w1_plotOf v_worth (fun (l2 : Int32) (l3 : Int32) => K (l2, l3)) a.1 a.2) N ((0 : Int32), (0 : Int32))
set_option maxHeartbeats 4000000 in
set_option maxRecDepth 100000 in
theorem wX0_worthUnderAll_4 {p : Program} {l : Launch} {e : Env} {R : Room} {s : State} {m : MethodId} {args : Array Value} {below : List Frame} {meth : Method} {c : Code} {cells slots : Nat} {Q : State → Prop} {D : va_G} {A : Nat → Prop} {cI cZ cG : ClassId} {q q_worth q_liked q1 q1_kindOf q1_plotOf q1_row q1_standsOn : Nat} {v_houses : Int32} {w1_houses : Int32} {w1_front : Int32} {w1_downFor : Int32} {w1_plotOf : (Nat → Int32)} {v_worth : (Nat → Int32)} {N : Nat} {ρ : Int32} (X : CX p s m args c cX0_worthUnderAll 4 RX0 D (TY cI cZ cG) A) (hrm : RM R 2 43 cells slots) (ret : ∀ (pc : Nat) (H : Heap) (locs : List Loc) (ls : Array Slot), decode cX0_worthUnderAll pc = .ok (.ireturn, 1) → WD D A (kwX0_worthUnderAll cI cZ cG q q_worth q_liked q1 q1_kindOf q1_plotOf q1_row q1_standsOn v_houses w1_houses w1_front w1_downFor w1_plotOf v_worth) s.heap H locs → W p l e R s m args below meth c H locs cells slots Q (F0 m pc ls [.int ρ]))  : ∀ (n : Nat) (a : Int32 × Int32), lfix (fun (K : Int32 × Int32 → Option (Int32)) (a : Int32 × Int32) => fX0_worthUnderAll_4 N v_houses w1_plotOf v_worth (fun (l2 : Int32) (l3 : Int32) => K (l2, l3)) a.1 a.2) n a = some ρ → (fun (l2 : Int32) (l3 : Int32) => ∀ (H : Heap) (locs : List Loc) (ls : Array Slot), WD D A (kwX0_worthUnderAll cI cZ cG q q_worth q_liked q1 q1_kindOf q1_plotOf q1_row q1_standsOn v_houses w1_houses w1_front w1_downFor w1_plotOf v_worth) s.heap H locs → lv_has ls 4 [(0, .ref q), (1, .ref q1), (2, .int l2), (3, .int l3)] → W p l e R s m args below meth c H locs cells slots Q (F0 m 4 ls [])) (a.1) (a.2) := by
  have hx := X.1.1
  have hb := X.1.2.1
  refine lfix_W (fun K hK a h => ?_)
  obtain ⟨l2, l3⟩ := a
  intro H locs ls hw hl
  have h : fX0_worthUnderAll_4 N v_houses w1_plotOf v_worth (fun (l2 : Int32) (l3 : Int32) => K (l2, l3)) l2 l3 = some ρ := h
  have hK_4 : ∀ (l2 : Int32) (l3 : Int32), (fun (l2 : Int32) (l3 : Int32) => K (l2, l3)) l2 l3 = some ρ → ∀ (H : Heap) (locs : List Loc) (ls : Array Slot), WD D A (kwX0_worthUnderAll cI cZ cG q q_worth q_liked q1 q1_kindOf q1_plotOf q1_row q1_standsOn v_houses w1_houses w1_front w1_downFor w1_plotOf v_worth) s.heap H locs → lv_has ls 4 [(0, .ref q), (1, .ref q1), (2, .int l2), (3, .int l3)] → W p l e R s m args below meth c H locs cells slots Q (F0 m 4 ls []) := fun l2 l3 h => hK (l2, l3) h
  generalize (fun (l2 : Int32) (l3 : Int32) => K (l2, l3)) = K_4 at h hK_4
  have hw : WD D A (kwX0_worthUnderAll cI cZ cG q q_worth q_liked q1 q1_kindOf q1_plotOf q1_row q1_standsOn v_houses w1_houses w1_front w1_downFor w1_plotOf v_worth) s.heap H locs := hw
  have hl : lv_has ls 4 [(0, .ref q), (1, .ref q1), (2, .int l2), (3, .int l3)] := hl
  unfold fX0_worthUnderAll_4 at h
  refine lv_iload_n hx hb dX0_worthUnderAll_4 rfl (lv_at hl 3 rfl) ?_
  refine lv_aload_n hx hb dX0_worthUnderAll_5 rfl (lv_at hl 0 rfl) ?_
  refine kget (ci := 0) (v := .int v_houses) X hw iX0 0 rfl rfl 2 (by decide) tw_103 rfl dX0_worthUnderAll_6 ?_
  refine lv_icmp_ge (tgt := 27) hx hb dX0_worthUnderAll_9 (by decide) (fun c_9 => ?_) (fun c_9 => ?_)
  · have h := ift c_9 h
    refine lv_iload_n hx hb dX0_worthUnderAll_27 rfl (lv_at hl 2 rfl) ?_
    obtain rfl := Option.some.inj h
    exact ret _ _ _ _ dX0_worthUnderAll_28 hw
  · have h := iff_ c_9 h
    refine lv_iload_n hx hb dX0_worthUnderAll_12 rfl (lv_at hl 2 rfl) ?_
    refine lv_aload_n hx hb dX0_worthUnderAll_13 rfl (lv_at hl 0 rfl) ?_
    refine lv_aload_n hx hb dX0_worthUnderAll_14 rfl (lv_at hl 1 rfl) ?_
    refine lv_iload_n hx hb dX0_worthUnderAll_15 rfl (lv_at hl 3 rfl) ?_
    obtain ⟨x_16, hc_16, h⟩ := obd h
    refine ksV_i (ws2 := (kwX0_worthUnderAll cI cZ cG q q_worth q_liked q1 q1_kindOf q1_plotOf q1_row q1_standsOn v_houses w1_houses w1_front w1_downFor w1_plotOf v_worth)) (nW := 4) (ci := 0) (As := [.ref q1, .int l3]) (rest := [.int l2]) X hw rfl rfl rfl (cX0_worthUnder_ct l D cI cZ cG q q_worth q_liked q1 q1_kindOf q1_plotOf q1_row q1_standsOn v_houses w1_houses w1_front w1_downFor w1_plotOf v_worth l3 N x_16 hc_16 H.size) mX0_worthUnder tw_124 (hrm.call (by decide) (by decide)) [0, 1, 2, 3] rfl (by decide) rfl (by decide) rfl trivial rfl hl.1 rfl (Nat.le_of_ble_eq_true rfl) dX0_worthUnderAll_16 ⟨hrm.2.2.1, hrm.2.2.2⟩ (fun H locs hw => ?_)
    refine lv_iadd hx hb dX0_worthUnderAll_19 ?_
    refine lv_istore_n (lv' := [(2, .int (l2 + x_16)), (0, .ref q), (1, .ref q1), (3, .int l3)]) hx hb dX0_worthUnderAll_20 rfl hl (by decide) rfl (fun ls hl => ?_)
    refine lv_iinc (v := (l3 + (1 : Int32))) (lv' := [(3, .int (l3 + (1 : Int32))), (2, .int (l2 + x_16)), (0, .ref q), (1, .ref q1)]) hx hb dX0_worthUnderAll_21 hl (k := 3) rfl (congrArg (l3 + ·) (by decide)) (by decide) rfl (fun ls hl => ?_)
    refine lv_goto (tgt := 4) hx hb dX0_worthUnderAll_24 (by decide) ?_
    exact hK_4 _ _ h _ _ _ hw (lv_sub hl [2, 3, 1, 0] rfl)
set_option maxHeartbeats 4000000 in
set_option maxRecDepth 100000 in
theorem wX0_worthUnderAll {p : Program} {l : Launch} {e : Env} {R : Room} {s : State} {m : MethodId} {args : Array Value} {below : List Frame} {meth : Method} {c : Code} {cells slots : Nat} {Q : State → Prop} {D : va_G} {A : Nat → Prop} {cI cZ cG : ClassId} {q q_worth q_liked q1 q1_kindOf q1_plotOf q1_row q1_standsOn : Nat} {v_houses : Int32} {w1_houses : Int32} {w1_front : Int32} {w1_downFor : Int32} {w1_plotOf : (Nat → Int32)} {v_worth : (Nat → Int32)} {N : Nat} {ρ : Int32} (X : CX p s m args c cX0_worthUnderAll 4 RX0 D (TY cI cZ cG) A) (hrm : RM R 2 43 cells slots) (ret : ∀ (pc : Nat) (H : Heap) (locs : List Loc) (ls : Array Slot), decode cX0_worthUnderAll pc = .ok (.ireturn, 1) → WD D A (kwX0_worthUnderAll cI cZ cG q q_worth q_liked q1 q1_kindOf q1_plotOf q1_row q1_standsOn v_houses w1_houses w1_front w1_downFor w1_plotOf v_worth) s.heap H locs → W p l e R s m args below meth c H locs cells slots Q (F0 m pc ls [.int ρ])) (h : fX0_worthUnderAll N v_houses w1_plotOf v_worth   = some ρ) (H : Heap) (locs : List Loc) (ls : Array Slot) (hw : WD D A (kwX0_worthUnderAll cI cZ cG q q_worth q_liked q1 q1_kindOf q1_plotOf q1_row q1_standsOn v_houses w1_houses w1_front w1_downFor w1_plotOf v_worth) s.heap H locs) (hl : lv_has ls 4 [(0, .ref q), (1, .ref q1)]) : W p l e R s m args below meth c H locs cells slots Q (F0 m 0 ls []) := by
  have hx := X.1.1
  have hb := X.1.2.1
  unfold fX0_worthUnderAll at h
  refine lv_iconst (v := (0 : Int32)) hx hb dX0_worthUnderAll_0 (by decide) ?_
  refine lv_istore_n (lv' := [(2, .int (0 : Int32)), (0, .ref q), (1, .ref q1)]) hx hb dX0_worthUnderAll_1 rfl hl (by decide) rfl (fun ls hl => ?_)
  refine lv_iconst (v := (0 : Int32)) hx hb dX0_worthUnderAll_2 (by decide) ?_
  refine lv_istore_n (lv' := [(3, .int (0 : Int32)), (2, .int (0 : Int32)), (0, .ref q), (1, .ref q1)]) hx hb dX0_worthUnderAll_3 rfl hl (by decide) rfl (fun ls hl => ?_)
  exact wX0_worthUnderAll_4 X hrm ret  _ _ h _ _ _ hw (lv_sub hl [2, 3, 1, 0] rfl)
set_option maxHeartbeats 4000000 in
set_option maxRecDepth 100000 in
theorem cX0_worthUnderAll_ct (l : Launch) (D : va_G) (cI cZ cG : ClassId) (q q_worth q_liked q1 q1_kindOf q1_plotOf q1_row q1_standsOn : Nat)  (v_houses : Int32) (w1_houses : Int32) (w1_front : Int32) (w1_downFor : Int32) (w1_plotOf : (Nat → Int32)) (v_worth : (Nat → Int32))  (N : Nat) (ρ : Int32) (h : fX0_worthUnderAll N v_houses w1_plotOf v_worth   = some ρ) (sz : Nat) : Met l yX0_worthUnderAll (wz yX0_worthUnderAll cX0_worthUnderAll 4 (some .int)) (cRm 2 43) (cPre D (TY cI cZ cG) [.ref q, .ref q1] (kwX0_worthUnderAll cI cZ cG q q_worth q_liked q1 q1_kindOf q1_plotOf q1_row q1_standsOn v_houses w1_houses w1_front w1_downFor w1_plotOf v_worth) sz) (cQi D (ρ) (kwX0_worthUnderAll cI cZ cG q q_worth q_liked q1 q1_kindOf q1_plotOf q1_row q1_standsOn v_houses w1_houses w1_front w1_downFor w1_plotOf v_worth) (kwX0_worthUnderAll cI cZ cG q q_worth q_liked q1 q1_kindOf q1_plotOf q1_row q1_standsOn v_houses w1_houses w1_front w1_downFor w1_plotOf v_worth) sz) 0 0 (va_A (kwX0_worthUnderAll cI cZ cG q q_worth q_liked q1 q1_kindOf q1_plotOf q1_row q1_standsOn v_houses w1_houses w1_front w1_downFor w1_plotOf v_worth) sz) :=
  mk_i (by decide) (Nat.le_of_ble_eq_true rfl) (fun X hrm ret hw hl => wX0_worthUnderAll X hrm ret h _ _ _ hw hl)
theorem dX2_lastNight_0 : decode cX2_lastNight 0 = .ok (.iconst 0, 1) := by decide +kernel
theorem dX2_lastNight_1 : decode cX2_lastNight 1 = .ok (.istore_n 1, 1) := by decide +kernel
theorem dX2_lastNight_2 : decode cX2_lastNight 2 = .ok (.iconst 0, 1) := by decide +kernel
theorem dX2_lastNight_3 : decode cX2_lastNight 3 = .ok (.istore_n 2, 1) := by decide +kernel
theorem dX2_lastNight_4 : decode cX2_lastNight 4 = .ok (.iload_n 2, 1) := by decide +kernel
theorem dX2_lastNight_5 : decode cX2_lastNight 5 = .ok (.aload_n 0, 1) := by decide +kernel
theorem dX2_lastNight_6 : decode cX2_lastNight 6 = .ok (.getfield 27, 3) := by decide +kernel
theorem dX2_lastNight_9 : decode cX2_lastNight 9 = .ok (.if_icmp .ge 20, 3) := by decide +kernel
theorem dX2_lastNight_12 : decode cX2_lastNight 12 = .ok (.iload_n 1, 1) := by decide +kernel
theorem dX2_lastNight_13 : decode cX2_lastNight 13 = .ok (.aload_n 0, 1) := by decide +kernel
theorem dX2_lastNight_14 : decode cX2_lastNight 14 = .ok (.getfield 24, 3) := by decide +kernel
theorem dX2_lastNight_17 : decode cX2_lastNight 17 = .ok (.iload_n 2, 1) := by decide +kernel
theorem dX2_lastNight_18 : decode cX2_lastNight 18 = .ok (.iaload, 1) := by decide +kernel
theorem dX2_lastNight_19 : decode cX2_lastNight 19 = .ok (.invokestatic 9, 3) := by decide +kernel
theorem dX2_lastNight_22 : decode cX2_lastNight 22 = .ok (.istore_n 1, 1) := by decide +kernel
theorem dX2_lastNight_23 : decode cX2_lastNight 23 = .ok (.iinc 2 1, 3) := by decide +kernel
theorem dX2_lastNight_26 : decode cX2_lastNight 26 = .ok (.goto (-22), 3) := by decide +kernel
theorem dX2_lastNight_29 : decode cX2_lastNight 29 = .ok (.iload_n 1, 1) := by decide +kernel
theorem dX2_lastNight_30 : decode cX2_lastNight 30 = .ok (.ireturn, 1) := by decide +kernel
abbrev kwX2_lastNight (cI cZ cG : ClassId) (q q_house q_plot q_night n_o : Nat) (v_size : Int32) (v_night : (Nat → Int32)) : va_W := [(q, .inr (2, [.ref q_house, .ref q_plot, .ref q_night, .int v_size])), (q_night, .inl (cI, n_o, .inl v_night))]
noncomputable def fX2_lastNight_4 (N : Nat) (n_o : Nat) (v_size : Int32) (v_night : (Nat → Int32))  (K_4 : Int32 → Int32 → Option (Int32)) (l1 : Int32) (l2 : Int32) : Option (Int32) := if v_size ≤ l2 then (some l1) else (if l2 < 0 ∨ n_o ≤ (l2).toNatClampNeg then none else (K_4 (if l1 < (v_night (l2).toNatClampNeg) then (v_night (l2).toNatClampNeg) else l1) (l2 + (1 : Int32))))
noncomputable def fX2_lastNight (N : Nat) (n_o : Nat) (v_size : Int32) (v_night : (Nat → Int32))   : Option (Int32) := lfix (fun (K : Int32 × Int32 → Option (Int32)) (a : Int32 × Int32) => fX2_lastNight_4 N n_o v_size v_night (fun (l1 : Int32) (l2 : Int32) => K (l1, l2)) a.1 a.2) N ((0 : Int32), (0 : Int32))
set_option maxHeartbeats 4000000 in
set_option maxRecDepth 100000 in
theorem wX2_lastNight_4 {p : Program} {l : Launch} {e : Env} {R : Room} {s : State} {m : MethodId} {args : Array Value} {below : List Frame} {meth : Method} {c : Code} {cells slots : Nat} {Q : State → Prop} {D : va_G} {A : Nat → Prop} {cI cZ cG : ClassId} {q q_house q_plot q_night : Nat} {n_o : Nat} {v_size : Int32} {v_night : (Nat → Int32)} {N : Nat} {ρ : Int32} (X : CX p s m args c cX2_lastNight 3 RX2 D (TY cI cZ cG) A) (hrm : RM R 1 21 cells slots) (ret : ∀ (pc : Nat) (H : Heap) (locs : List Loc) (ls : Array Slot), decode cX2_lastNight pc = .ok (.ireturn, 1) → WD D A (kwX2_lastNight cI cZ cG q q_house q_plot q_night n_o v_size v_night) s.heap H locs → W p l e R s m args below meth c H locs cells slots Q (F0 m pc ls [.int ρ]))  : ∀ (n : Nat) (a : Int32 × Int32), lfix (fun (K : Int32 × Int32 → Option (Int32)) (a : Int32 × Int32) => fX2_lastNight_4 N n_o v_size v_night (fun (l1 : Int32) (l2 : Int32) => K (l1, l2)) a.1 a.2) n a = some ρ → (fun (l1 : Int32) (l2 : Int32) => ∀ (H : Heap) (locs : List Loc) (ls : Array Slot), WD D A (kwX2_lastNight cI cZ cG q q_house q_plot q_night n_o v_size v_night) s.heap H locs → lv_has ls 3 [(0, .ref q), (1, .int l1), (2, .int l2)] → W p l e R s m args below meth c H locs cells slots Q (F0 m 4 ls [])) (a.1) (a.2) := by
  have hx := X.1.1
  have hb := X.1.2.1
  refine lfix_W (fun K hK a h => ?_)
  obtain ⟨l1, l2⟩ := a
  intro H locs ls hw hl
  have h : fX2_lastNight_4 N n_o v_size v_night (fun (l1 : Int32) (l2 : Int32) => K (l1, l2)) l1 l2 = some ρ := h
  have hK_4 : ∀ (l1 : Int32) (l2 : Int32), (fun (l1 : Int32) (l2 : Int32) => K (l1, l2)) l1 l2 = some ρ → ∀ (H : Heap) (locs : List Loc) (ls : Array Slot), WD D A (kwX2_lastNight cI cZ cG q q_house q_plot q_night n_o v_size v_night) s.heap H locs → lv_has ls 3 [(0, .ref q), (1, .int l1), (2, .int l2)] → W p l e R s m args below meth c H locs cells slots Q (F0 m 4 ls []) := fun l1 l2 h => hK (l1, l2) h
  generalize (fun (l1 : Int32) (l2 : Int32) => K (l1, l2)) = K_4 at h hK_4
  have hw : WD D A (kwX2_lastNight cI cZ cG q q_house q_plot q_night n_o v_size v_night) s.heap H locs := hw
  have hl : lv_has ls 3 [(0, .ref q), (1, .int l1), (2, .int l2)] := hl
  unfold fX2_lastNight_4 at h
  refine lv_iload_n hx hb dX2_lastNight_4 rfl (lv_at hl 2 rfl) ?_
  refine lv_aload_n hx hb dX2_lastNight_5 rfl (lv_at hl 0 rfl) ?_
  refine kget (ci := 2) (v := .int v_size) X hw iX2 0 rfl rfl 3 (by decide) tw_128 rfl dX2_lastNight_6 ?_
  refine lv_icmp_ge (tgt := 29) hx hb dX2_lastNight_9 (by decide) (fun c_9 => ?_) (fun c_9 => ?_)
  · have h := ift c_9 h
    refine lv_iload_n hx hb dX2_lastNight_29 rfl (lv_at hl 1 rfl) ?_
    obtain rfl := Option.some.inj h
    exact ret _ _ _ _ dX2_lastNight_30 hw
  · have h := iff_ c_9 h
    refine lv_iload_n hx hb dX2_lastNight_12 rfl (lv_at hl 1 rfl) ?_
    refine lv_aload_n hx hb dX2_lastNight_13 rfl (lv_at hl 0 rfl) ?_
    refine kget (ci := 2) (v := .ref q_night) X hw iX2 0 rfl rfl 2 (by decide) tw_129 rfl dX2_lastNight_14 ?_
    refine lv_iload_n hx hb dX2_lastNight_17 rfl (lv_at hl 2 rfl) ?_
    obtain ⟨g_18, h⟩ := gd h
    refine kiald X hw 1 rfl rfl g_18 dX2_lastNight_18 ?_
    refine kmax X hl.1 tw_130 tw_131 tw_88 tw_132 (Nat.le_trans (by decide) hrm.1) (Nat.le_trans (Nat.le_of_ble_eq_true rfl) hrm.2.1) ⟨hrm.2.2.1, hrm.2.2.2⟩ dX2_lastNight_19 ?_
    refine lv_istore_n (lv' := [(1, .int (if l1 < (v_night (l2).toNatClampNeg) then (v_night (l2).toNatClampNeg) else l1)), (0, .ref q), (2, .int l2)]) hx hb dX2_lastNight_22 rfl hl (by decide) rfl (fun ls hl => ?_)
    refine lv_iinc (v := (l2 + (1 : Int32))) (lv' := [(2, .int (l2 + (1 : Int32))), (1, .int (if l1 < (v_night (l2).toNatClampNeg) then (v_night (l2).toNatClampNeg) else l1)), (0, .ref q)]) hx hb dX2_lastNight_23 hl (k := 2) rfl (congrArg (l2 + ·) (by decide)) (by decide) rfl (fun ls hl => ?_)
    refine lv_goto (tgt := 4) hx hb dX2_lastNight_26 (by decide) ?_
    exact hK_4 _ _ h _ _ _ hw (lv_sub hl [2, 1, 0] rfl)
set_option maxHeartbeats 4000000 in
set_option maxRecDepth 100000 in
theorem wX2_lastNight {p : Program} {l : Launch} {e : Env} {R : Room} {s : State} {m : MethodId} {args : Array Value} {below : List Frame} {meth : Method} {c : Code} {cells slots : Nat} {Q : State → Prop} {D : va_G} {A : Nat → Prop} {cI cZ cG : ClassId} {q q_house q_plot q_night : Nat} {n_o : Nat} {v_size : Int32} {v_night : (Nat → Int32)} {N : Nat} {ρ : Int32} (X : CX p s m args c cX2_lastNight 3 RX2 D (TY cI cZ cG) A) (hrm : RM R 1 21 cells slots) (ret : ∀ (pc : Nat) (H : Heap) (locs : List Loc) (ls : Array Slot), decode cX2_lastNight pc = .ok (.ireturn, 1) → WD D A (kwX2_lastNight cI cZ cG q q_house q_plot q_night n_o v_size v_night) s.heap H locs → W p l e R s m args below meth c H locs cells slots Q (F0 m pc ls [.int ρ])) (h : fX2_lastNight N n_o v_size v_night   = some ρ) (H : Heap) (locs : List Loc) (ls : Array Slot) (hw : WD D A (kwX2_lastNight cI cZ cG q q_house q_plot q_night n_o v_size v_night) s.heap H locs) (hl : lv_has ls 3 [(0, .ref q)]) : W p l e R s m args below meth c H locs cells slots Q (F0 m 0 ls []) := by
  have hx := X.1.1
  have hb := X.1.2.1
  unfold fX2_lastNight at h
  refine lv_iconst (v := (0 : Int32)) hx hb dX2_lastNight_0 (by decide) ?_
  refine lv_istore_n (lv' := [(1, .int (0 : Int32)), (0, .ref q)]) hx hb dX2_lastNight_1 rfl hl (by decide) rfl (fun ls hl => ?_)
  refine lv_iconst (v := (0 : Int32)) hx hb dX2_lastNight_2 (by decide) ?_
  refine lv_istore_n (lv' := [(2, .int (0 : Int32)), (1, .int (0 : Int32)), (0, .ref q)]) hx hb dX2_lastNight_3 rfl hl (by decide) rfl (fun ls hl => ?_)
  exact wX2_lastNight_4 X hrm ret  _ _ h _ _ _ hw (lv_sub hl [2, 1, 0] rfl)
set_option maxHeartbeats 4000000 in
set_option maxRecDepth 100000 in
theorem cX2_lastNight_ct (l : Launch) (D : va_G) (cI cZ cG : ClassId) (q q_house q_plot q_night : Nat) (n_o : Nat) (v_size : Int32) (v_night : (Nat → Int32))  (N : Nat) (ρ : Int32) (h : fX2_lastNight N n_o v_size v_night   = some ρ) (sz : Nat) : Met l yX2_lastNight (wz yX2_lastNight cX2_lastNight 3 (some .int)) (cRm 1 21) (cPre D (TY cI cZ cG) [.ref q] (kwX2_lastNight cI cZ cG q q_house q_plot q_night n_o v_size v_night) sz) (cQi D (ρ) (kwX2_lastNight cI cZ cG q q_house q_plot q_night n_o v_size v_night) (kwX2_lastNight cI cZ cG q q_house q_plot q_night n_o v_size v_night) sz) 0 0 (va_A (kwX2_lastNight cI cZ cG q q_house q_plot q_night n_o v_size v_night) sz) :=
  mk_i (by decide) (Nat.le_of_ble_eq_true rfl) (fun X hrm ret hw hl => wX2_lastNight X hrm ret h _ _ _ hw hl)
theorem dX6_copyFrom_0 : decode cX6_copyFrom 0 = .ok (.aload_n 0, 1) := by decide +kernel
theorem dX6_copyFrom_1 : decode cX6_copyFrom 1 = .ok (.aload_n 1, 1) := by decide +kernel
theorem dX6_copyFrom_2 : decode cX6_copyFrom 2 = .ok (.getfield 30, 3) := by decide +kernel
theorem dX6_copyFrom_5 : decode cX6_copyFrom 5 = .ok (.putfield 30, 3) := by decide +kernel
theorem dX6_copyFrom_8 : decode cX6_copyFrom 8 = .ok (.aload_n 0, 1) := by decide +kernel
theorem dX6_copyFrom_9 : decode cX6_copyFrom 9 = .ok (.aload_n 1, 1) := by decide +kernel
theorem dX6_copyFrom_10 : decode cX6_copyFrom 10 = .ok (.getfield 34, 3) := by decide +kernel
theorem dX6_copyFrom_13 : decode cX6_copyFrom 13 = .ok (.putfield 34, 3) := by decide +kernel
theorem dX6_copyFrom_16 : decode cX6_copyFrom 16 = .ok (.aload_n 0, 1) := by decide +kernel
theorem dX6_copyFrom_17 : decode cX6_copyFrom 17 = .ok (.aload_n 1, 1) := by decide +kernel
theorem dX6_copyFrom_18 : decode cX6_copyFrom 18 = .ok (.getfield 37, 3) := by decide +kernel
theorem dX6_copyFrom_21 : decode cX6_copyFrom 21 = .ok (.putfield 37, 3) := by decide +kernel
theorem dX6_copyFrom_24 : decode cX6_copyFrom 24 = .ok (.aload_n 1, 1) := by decide +kernel
theorem dX6_copyFrom_25 : decode cX6_copyFrom 25 = .ok (.getfield 9, 3) := by decide +kernel
theorem dX6_copyFrom_28 : decode cX6_copyFrom 28 = .ok (.iconst 0, 1) := by decide +kernel
theorem dX6_copyFrom_29 : decode cX6_copyFrom 29 = .ok (.aload_n 0, 1) := by decide +kernel
theorem dX6_copyFrom_30 : decode cX6_copyFrom 30 = .ok (.getfield 9, 3) := by decide +kernel
theorem dX6_copyFrom_33 : decode cX6_copyFrom 33 = .ok (.iconst 0, 1) := by decide +kernel
theorem dX6_copyFrom_34 : decode cX6_copyFrom 34 = .ok (.bipush 6, 2) := by decide +kernel
theorem dX6_copyFrom_36 : decode cX6_copyFrom 36 = .ok (.invokestatic 40, 3) := by decide +kernel
theorem dX6_copyFrom_39 : decode cX6_copyFrom 39 = .ok (.aload_n 1, 1) := by decide +kernel
theorem dX6_copyFrom_40 : decode cX6_copyFrom 40 = .ok (.getfield 15, 3) := by decide +kernel
theorem dX6_copyFrom_43 : decode cX6_copyFrom 43 = .ok (.iconst 0, 1) := by decide +kernel
theorem dX6_copyFrom_44 : decode cX6_copyFrom 44 = .ok (.aload_n 0, 1) := by decide +kernel
theorem dX6_copyFrom_45 : decode cX6_copyFrom 45 = .ok (.getfield 15, 3) := by decide +kernel
theorem dX6_copyFrom_48 : decode cX6_copyFrom 48 = .ok (.iconst 0, 1) := by decide +kernel
theorem dX6_copyFrom_49 : decode cX6_copyFrom 49 = .ok (.bipush 6, 2) := by decide +kernel
theorem dX6_copyFrom_51 : decode cX6_copyFrom 51 = .ok (.invokestatic 40, 3) := by decide +kernel
theorem dX6_copyFrom_54 : decode cX6_copyFrom 54 = .ok (.aload_n 1, 1) := by decide +kernel
theorem dX6_copyFrom_55 : decode cX6_copyFrom 55 = .ok (.getfield 18, 3) := by decide +kernel
theorem dX6_copyFrom_58 : decode cX6_copyFrom 58 = .ok (.iconst 0, 1) := by decide +kernel
theorem dX6_copyFrom_59 : decode cX6_copyFrom 59 = .ok (.aload_n 0, 1) := by decide +kernel
theorem dX6_copyFrom_60 : decode cX6_copyFrom 60 = .ok (.getfield 18, 3) := by decide +kernel
theorem dX6_copyFrom_63 : decode cX6_copyFrom 63 = .ok (.iconst 0, 1) := by decide +kernel
theorem dX6_copyFrom_64 : decode cX6_copyFrom 64 = .ok (.bipush 6, 2) := by decide +kernel
theorem dX6_copyFrom_66 : decode cX6_copyFrom 66 = .ok (.invokestatic 40, 3) := by decide +kernel
theorem dX6_copyFrom_69 : decode cX6_copyFrom 69 = .ok (.aload_n 1, 1) := by decide +kernel
theorem dX6_copyFrom_70 : decode cX6_copyFrom 70 = .ok (.getfield 21, 3) := by decide +kernel
theorem dX6_copyFrom_73 : decode cX6_copyFrom 73 = .ok (.iconst 0, 1) := by decide +kernel
theorem dX6_copyFrom_74 : decode cX6_copyFrom 74 = .ok (.aload_n 0, 1) := by decide +kernel
theorem dX6_copyFrom_75 : decode cX6_copyFrom 75 = .ok (.getfield 21, 3) := by decide +kernel
theorem dX6_copyFrom_78 : decode cX6_copyFrom 78 = .ok (.iconst 0, 1) := by decide +kernel
theorem dX6_copyFrom_79 : decode cX6_copyFrom 79 = .ok (.bipush 12, 2) := by decide +kernel
theorem dX6_copyFrom_81 : decode cX6_copyFrom 81 = .ok (.invokestatic 40, 3) := by decide +kernel
theorem dX6_copyFrom_84 : decode cX6_copyFrom 84 = .ok (.return_, 1) := by decide +kernel
abbrev kwX6_copyFrom (cI cZ cG : ClassId) (q q_kindOf q_plotOf q_row q_standsOn q1 q1_kindOf q1_plotOf q1_row q1_standsOn : Nat) (v_houses : Int32) (v_front : Int32) (v_downFor : Int32) (w1_houses : Int32) (w1_front : Int32) (w1_downFor : Int32) (w1_kindOf : (Nat → Int32)) (v_kindOf : (Nat → Int32)) (w1_plotOf : (Nat → Int32)) (v_plotOf : (Nat → Int32)) (w1_row : (Nat → Int32)) (v_row : (Nat → Int32)) (w1_standsOn : (Nat → Int32)) (v_standsOn : (Nat → Int32)) : va_W := [(q, .inr (6, [.ref q_kindOf, .ref q_plotOf, .ref q_row, .ref q_standsOn, .int v_houses, .int v_front, .int v_downFor])), (q1, .inr (6, [.ref q1_kindOf, .ref q1_plotOf, .ref q1_row, .ref q1_standsOn, .int w1_houses, .int w1_front, .int w1_downFor])), (q1_kindOf, .inl (cI, 6, .inl w1_kindOf)), (q_kindOf, .inl (cI, 6, .inl v_kindOf)), (q1_plotOf, .inl (cI, 6, .inl w1_plotOf)), (q_plotOf, .inl (cI, 6, .inl v_plotOf)), (q1_row, .inl (cI, 6, .inl w1_row)), (q_row, .inl (cI, 6, .inl v_row)), (q1_standsOn, .inl (cI, 12, .inl w1_standsOn)), (q_standsOn, .inl (cI, 12, .inl v_standsOn))]
noncomputable def fX6_copyFrom (N : Nat) (w1_houses : Int32) (w1_front : Int32) (w1_downFor : Int32) (w1_kindOf : (Nat → Int32)) (w1_plotOf : (Nat → Int32)) (w1_row : (Nat → Int32)) (w1_standsOn : (Nat → Int32)) (v_houses : Int32) (v_front : Int32) (v_downFor : Int32) (v_kindOf : (Nat → Int32)) (v_plotOf : (Nat → Int32)) (v_row : (Nat → Int32)) (v_standsOn : (Nat → Int32))  : Option (Int32 × Int32 × Int32 × (Nat → Int32) × (Nat → Int32) × (Nat → Int32) × (Nat → Int32)) := some (w1_houses, w1_front, w1_downFor, (va_cpy w1_kindOf v_kindOf 0 0 ((6 : Int32)).toNatClampNeg), (va_cpy w1_plotOf v_plotOf 0 0 ((6 : Int32)).toNatClampNeg), (va_cpy w1_row v_row 0 0 ((6 : Int32)).toNatClampNeg), (va_cpy w1_standsOn v_standsOn 0 0 ((12 : Int32)).toNatClampNeg))
set_option maxHeartbeats 4000000 in
set_option maxRecDepth 100000 in
theorem wX6_copyFrom {p : Program} {l : Launch} {e : Env} {R : Room} {s : State} {m : MethodId} {args : Array Value} {below : List Frame} {meth : Method} {c : Code} {cells slots : Nat} {Q : State → Prop} {D : va_G} {A : Nat → Prop} {cI cZ cG : ClassId} {q q_kindOf q_plotOf q_row q_standsOn q1 q1_kindOf q1_plotOf q1_row q1_standsOn : Nat} {v_houses : Int32} {v_front : Int32} {v_downFor : Int32} {w1_houses : Int32} {w1_front : Int32} {w1_downFor : Int32} {w1_kindOf : (Nat → Int32)} {v_kindOf : (Nat → Int32)} {w1_plotOf : (Nat → Int32)} {v_plotOf : (Nat → Int32)} {w1_row : (Nat → Int32)} {v_row : (Nat → Int32)} {w1_standsOn : (Nat → Int32)} {v_standsOn : (Nat → Int32)} {N : Nat} {ρ : Int32 × Int32 × Int32 × (Nat → Int32) × (Nat → Int32) × (Nat → Int32) × (Nat → Int32)} (X : CX p s m args c cX6_copyFrom 2 RX6 D (TY cI cZ cG) A) (hrm : RM R 1 40 cells slots) (ret : ∀ (pc : Nat) (H : Heap) (locs : List Loc) (ls : Array Slot), decode cX6_copyFrom pc = .ok (.return_, 1) → WD D A (kwX6_copyFrom cI cZ cG q q_kindOf q_plotOf q_row q_standsOn q1 q1_kindOf q1_plotOf q1_row q1_standsOn (ρ.1) (ρ.2.1) (ρ.2.2.1) w1_houses w1_front w1_downFor w1_kindOf (ρ.2.2.2.1) w1_plotOf (ρ.2.2.2.2.1) w1_row (ρ.2.2.2.2.2.1) w1_standsOn (ρ.2.2.2.2.2.2)) s.heap H locs → W p l e R s m args below meth c H locs cells slots Q (F0 m pc ls [])) (h : fX6_copyFrom N w1_houses w1_front w1_downFor w1_kindOf w1_plotOf w1_row w1_standsOn v_houses v_front v_downFor v_kindOf v_plotOf v_row v_standsOn  = some ρ) (H : Heap) (locs : List Loc) (ls : Array Slot) (hw : WD D A (kwX6_copyFrom cI cZ cG q q_kindOf q_plotOf q_row q_standsOn q1 q1_kindOf q1_plotOf q1_row q1_standsOn v_houses v_front v_downFor w1_houses w1_front w1_downFor w1_kindOf v_kindOf w1_plotOf v_plotOf w1_row v_row w1_standsOn v_standsOn) s.heap H locs) (hl : lv_has ls 2 [(0, .ref q), (1, .ref q1)]) : W p l e R s m args below meth c H locs cells slots Q (F0 m 0 ls []) := by
  have hx := X.1.1
  have hb := X.1.2.1
  unfold fX6_copyFrom at h
  refine lv_aload_n hx hb dX6_copyFrom_0 rfl (lv_at hl 0 rfl) ?_
  refine lv_aload_n hx hb dX6_copyFrom_1 rfl (lv_at hl 1 rfl) ?_
  refine kget (ci := 6) (v := .int w1_houses) X hw iX6 1 rfl rfl 4 (by decide) tw_137 rfl dX6_copyFrom_2 ?_
  refine kput (ci := 6) (v := .int w1_houses) (ty := .int) X hw iX6 tyX6_ok nmX6 0 rfl rfl 4 (by decide) tw_137 rfl rfl rfl rfl (Nat.le_of_ble_eq_true rfl) dX6_copyFrom_5 (fun H locs hw => ?_)
  have hw : WD D A (kwX6_copyFrom cI cZ cG q q_kindOf q_plotOf q_row q_standsOn q1 q1_kindOf q1_plotOf q1_row q1_standsOn w1_houses v_front v_downFor w1_houses w1_front w1_downFor w1_kindOf v_kindOf w1_plotOf v_plotOf w1_row v_row w1_standsOn v_standsOn) s.heap H locs := hw
  refine lv_aload_n hx hb dX6_copyFrom_8 rfl (lv_at hl 0 rfl) ?_
  refine lv_aload_n hx hb dX6_copyFrom_9 rfl (lv_at hl 1 rfl) ?_
  refine kget (ci := 6) (v := .int w1_front) X hw iX6 1 rfl rfl 5 (by decide) tw_138 rfl dX6_copyFrom_10 ?_
  refine kput (ci := 6) (v := .int w1_front) (ty := .int) X hw iX6 tyX6_ok nmX6 0 rfl rfl 5 (by decide) tw_138 rfl rfl rfl rfl (Nat.le_of_ble_eq_true rfl) dX6_copyFrom_13 (fun H locs hw => ?_)
  have hw : WD D A (kwX6_copyFrom cI cZ cG q q_kindOf q_plotOf q_row q_standsOn q1 q1_kindOf q1_plotOf q1_row q1_standsOn w1_houses w1_front v_downFor w1_houses w1_front w1_downFor w1_kindOf v_kindOf w1_plotOf v_plotOf w1_row v_row w1_standsOn v_standsOn) s.heap H locs := hw
  refine lv_aload_n hx hb dX6_copyFrom_16 rfl (lv_at hl 0 rfl) ?_
  refine lv_aload_n hx hb dX6_copyFrom_17 rfl (lv_at hl 1 rfl) ?_
  refine kget (ci := 6) (v := .int w1_downFor) X hw iX6 1 rfl rfl 6 (by decide) tw_139 rfl dX6_copyFrom_18 ?_
  refine kput (ci := 6) (v := .int w1_downFor) (ty := .int) X hw iX6 tyX6_ok nmX6 0 rfl rfl 6 (by decide) tw_139 rfl rfl rfl rfl (Nat.le_of_ble_eq_true rfl) dX6_copyFrom_21 (fun H locs hw => ?_)
  have hw : WD D A (kwX6_copyFrom cI cZ cG q q_kindOf q_plotOf q_row q_standsOn q1 q1_kindOf q1_plotOf q1_row q1_standsOn w1_houses w1_front w1_downFor w1_houses w1_front w1_downFor w1_kindOf v_kindOf w1_plotOf v_plotOf w1_row v_row w1_standsOn v_standsOn) s.heap H locs := hw
  refine lv_aload_n hx hb dX6_copyFrom_24 rfl (lv_at hl 1 rfl) ?_
  refine kget (ci := 6) (v := .ref q1_kindOf) X hw iX6 1 rfl rfl 0 (by decide) tw_140 rfl dX6_copyFrom_25 ?_
  refine lv_iconst (v := (0 : Int32)) hx hb dX6_copyFrom_28 (by decide) ?_
  refine lv_aload_n hx hb dX6_copyFrom_29 rfl (lv_at hl 0 rfl) ?_
  refine kget (ci := 6) (v := .ref q_kindOf) X hw iX6 0 rfl rfl 0 (by decide) tw_140 rfl dX6_copyFrom_30 ?_
  refine lv_iconst (v := (0 : Int32)) hx hb dX6_copyFrom_33 (by decide) ?_
  refine lv_bipush (v := (6 : Int32)) hx hb dX6_copyFrom_34 (by decide) ?_
  refine kcopy X hw hl.1 tw_141 tw_142 tw_143 tw_144 2 3 rfl rfl rfl (by decide) (Nat.le_trans (by decide) hrm.1) (Nat.le_trans (Nat.le_of_ble_eq_true rfl) hrm.2.1) dX6_copyFrom_36 (fun H locs hw => ?_)
  have hw : WD D A (kwX6_copyFrom cI cZ cG q q_kindOf q_plotOf q_row q_standsOn q1 q1_kindOf q1_plotOf q1_row q1_standsOn w1_houses w1_front w1_downFor w1_houses w1_front w1_downFor w1_kindOf (va_cpy w1_kindOf v_kindOf 0 0 ((6 : Int32)).toNatClampNeg) w1_plotOf v_plotOf w1_row v_row w1_standsOn v_standsOn) s.heap H locs := hw
  refine lv_aload_n hx hb dX6_copyFrom_39 rfl (lv_at hl 1 rfl) ?_
  refine kget (ci := 6) (v := .ref q1_plotOf) X hw iX6 1 rfl rfl 1 (by decide) tw_114 rfl dX6_copyFrom_40 ?_
  refine lv_iconst (v := (0 : Int32)) hx hb dX6_copyFrom_43 (by decide) ?_
  refine lv_aload_n hx hb dX6_copyFrom_44 rfl (lv_at hl 0 rfl) ?_
  refine kget (ci := 6) (v := .ref q_plotOf) X hw iX6 0 rfl rfl 1 (by decide) tw_114 rfl dX6_copyFrom_45 ?_
  refine lv_iconst (v := (0 : Int32)) hx hb dX6_copyFrom_48 (by decide) ?_
  refine lv_bipush (v := (6 : Int32)) hx hb dX6_copyFrom_49 (by decide) ?_
  refine kcopy X hw hl.1 tw_141 tw_142 tw_143 tw_144 4 5 rfl rfl rfl (by decide) (Nat.le_trans (by decide) hrm.1) (Nat.le_trans (Nat.le_of_ble_eq_true rfl) hrm.2.1) dX6_copyFrom_51 (fun H locs hw => ?_)
  have hw : WD D A (kwX6_copyFrom cI cZ cG q q_kindOf q_plotOf q_row q_standsOn q1 q1_kindOf q1_plotOf q1_row q1_standsOn w1_houses w1_front w1_downFor w1_houses w1_front w1_downFor w1_kindOf (va_cpy w1_kindOf v_kindOf 0 0 ((6 : Int32)).toNatClampNeg) w1_plotOf (va_cpy w1_plotOf v_plotOf 0 0 ((6 : Int32)).toNatClampNeg) w1_row v_row w1_standsOn v_standsOn) s.heap H locs := hw
  refine lv_aload_n hx hb dX6_copyFrom_54 rfl (lv_at hl 1 rfl) ?_
  refine kget (ci := 6) (v := .ref q1_row) X hw iX6 1 rfl rfl 2 (by decide) tw_145 rfl dX6_copyFrom_55 ?_
  refine lv_iconst (v := (0 : Int32)) hx hb dX6_copyFrom_58 (by decide) ?_
  refine lv_aload_n hx hb dX6_copyFrom_59 rfl (lv_at hl 0 rfl) ?_
  refine kget (ci := 6) (v := .ref q_row) X hw iX6 0 rfl rfl 2 (by decide) tw_145 rfl dX6_copyFrom_60 ?_
  refine lv_iconst (v := (0 : Int32)) hx hb dX6_copyFrom_63 (by decide) ?_
  refine lv_bipush (v := (6 : Int32)) hx hb dX6_copyFrom_64 (by decide) ?_
  refine kcopy X hw hl.1 tw_141 tw_142 tw_143 tw_144 6 7 rfl rfl rfl (by decide) (Nat.le_trans (by decide) hrm.1) (Nat.le_trans (Nat.le_of_ble_eq_true rfl) hrm.2.1) dX6_copyFrom_66 (fun H locs hw => ?_)
  have hw : WD D A (kwX6_copyFrom cI cZ cG q q_kindOf q_plotOf q_row q_standsOn q1 q1_kindOf q1_plotOf q1_row q1_standsOn w1_houses w1_front w1_downFor w1_houses w1_front w1_downFor w1_kindOf (va_cpy w1_kindOf v_kindOf 0 0 ((6 : Int32)).toNatClampNeg) w1_plotOf (va_cpy w1_plotOf v_plotOf 0 0 ((6 : Int32)).toNatClampNeg) w1_row (va_cpy w1_row v_row 0 0 ((6 : Int32)).toNatClampNeg) w1_standsOn v_standsOn) s.heap H locs := hw
  refine lv_aload_n hx hb dX6_copyFrom_69 rfl (lv_at hl 1 rfl) ?_
  refine kget (ci := 6) (v := .ref q1_standsOn) X hw iX6 1 rfl rfl 3 (by decide) tw_146 rfl dX6_copyFrom_70 ?_
  refine lv_iconst (v := (0 : Int32)) hx hb dX6_copyFrom_73 (by decide) ?_
  refine lv_aload_n hx hb dX6_copyFrom_74 rfl (lv_at hl 0 rfl) ?_
  refine kget (ci := 6) (v := .ref q_standsOn) X hw iX6 0 rfl rfl 3 (by decide) tw_146 rfl dX6_copyFrom_75 ?_
  refine lv_iconst (v := (0 : Int32)) hx hb dX6_copyFrom_78 (by decide) ?_
  refine lv_bipush (v := (12 : Int32)) hx hb dX6_copyFrom_79 (by decide) ?_
  refine kcopy X hw hl.1 tw_141 tw_142 tw_143 tw_144 8 9 rfl rfl rfl (by decide) (Nat.le_trans (by decide) hrm.1) (Nat.le_trans (Nat.le_of_ble_eq_true rfl) hrm.2.1) dX6_copyFrom_81 (fun H locs hw => ?_)
  have hw : WD D A (kwX6_copyFrom cI cZ cG q q_kindOf q_plotOf q_row q_standsOn q1 q1_kindOf q1_plotOf q1_row q1_standsOn w1_houses w1_front w1_downFor w1_houses w1_front w1_downFor w1_kindOf (va_cpy w1_kindOf v_kindOf 0 0 ((6 : Int32)).toNatClampNeg) w1_plotOf (va_cpy w1_plotOf v_plotOf 0 0 ((6 : Int32)).toNatClampNeg) w1_row (va_cpy w1_row v_row 0 0 ((6 : Int32)).toNatClampNeg) w1_standsOn (va_cpy w1_standsOn v_standsOn 0 0 ((12 : Int32)).toNatClampNeg)) s.heap H locs := hw
  obtain rfl := Option.some.inj h
  exact ret _ _ _ _ dX6_copyFrom_84 hw
set_option maxHeartbeats 4000000 in
set_option maxRecDepth 100000 in
theorem cX6_copyFrom_ct (l : Launch) (D : va_G) (cI cZ cG : ClassId) (q q_kindOf q_plotOf q_row q_standsOn q1 q1_kindOf q1_plotOf q1_row q1_standsOn : Nat)  (v_houses : Int32) (v_front : Int32) (v_downFor : Int32) (w1_houses : Int32) (w1_front : Int32) (w1_downFor : Int32) (w1_kindOf : (Nat → Int32)) (v_kindOf : (Nat → Int32)) (w1_plotOf : (Nat → Int32)) (v_plotOf : (Nat → Int32)) (w1_row : (Nat → Int32)) (v_row : (Nat → Int32)) (w1_standsOn : (Nat → Int32)) (v_standsOn : (Nat → Int32))  (N : Nat) (ρ : Int32 × Int32 × Int32 × (Nat → Int32) × (Nat → Int32) × (Nat → Int32) × (Nat → Int32)) (h : fX6_copyFrom N w1_houses w1_front w1_downFor w1_kindOf w1_plotOf w1_row w1_standsOn v_houses v_front v_downFor v_kindOf v_plotOf v_row v_standsOn  = some ρ) (sz : Nat) : Met l yX6_copyFrom (wz yX6_copyFrom cX6_copyFrom 2 none) (cRm 1 40) (cPre D (TY cI cZ cG) [.ref q, .ref q1] (kwX6_copyFrom cI cZ cG q q_kindOf q_plotOf q_row q_standsOn q1 q1_kindOf q1_plotOf q1_row q1_standsOn v_houses v_front v_downFor w1_houses w1_front w1_downFor w1_kindOf v_kindOf w1_plotOf v_plotOf w1_row v_row w1_standsOn v_standsOn) sz) (cQv D (kwX6_copyFrom cI cZ cG q q_kindOf q_plotOf q_row q_standsOn q1 q1_kindOf q1_plotOf q1_row q1_standsOn v_houses v_front v_downFor w1_houses w1_front w1_downFor w1_kindOf v_kindOf w1_plotOf v_plotOf w1_row v_row w1_standsOn v_standsOn) (kwX6_copyFrom cI cZ cG q q_kindOf q_plotOf q_row q_standsOn q1 q1_kindOf q1_plotOf q1_row q1_standsOn (ρ.1) (ρ.2.1) (ρ.2.2.1) w1_houses w1_front w1_downFor w1_kindOf (ρ.2.2.2.1) w1_plotOf (ρ.2.2.2.2.1) w1_row (ρ.2.2.2.2.2.1) w1_standsOn (ρ.2.2.2.2.2.2)) sz) 0 0 (va_A (kwX6_copyFrom cI cZ cG q q_kindOf q_plotOf q_row q_standsOn q1 q1_kindOf q1_plotOf q1_row q1_standsOn v_houses v_front v_downFor w1_houses w1_front w1_downFor w1_kindOf v_kindOf w1_plotOf v_plotOf w1_row v_row w1_standsOn v_standsOn) sz) :=
  mk_v (by decide) (Nat.le_of_ble_eq_true rfl) (fun X hrm ret hw hl => wX6_copyFrom X hrm ret h _ _ _ hw hl)
theorem dX6_nightsFor_0 : decode cX6_nightsFor 0 = .ok (.iload_n 0, 1) := by decide +kernel
theorem dX6_nightsFor_1 : decode cX6_nightsFor 1 = .ok (.iconst 4, 1) := by decide +kernel
theorem dX6_nightsFor_2 : decode cX6_nightsFor 2 = .ok (.if_icmp .ne 5, 3) := by decide +kernel
theorem dX6_nightsFor_5 : decode cX6_nightsFor 5 = .ok (.iconst 3, 1) := by decide +kernel
theorem dX6_nightsFor_6 : decode cX6_nightsFor 6 = .ok (.ireturn, 1) := by decide +kernel
theorem dX6_nightsFor_7 : decode cX6_nightsFor 7 = .ok (.iload_n 0, 1) := by decide +kernel
theorem dX6_nightsFor_8 : decode cX6_nightsFor 8 = .ok (.iconst 1, 1) := by decide +kernel
theorem dX6_nightsFor_9 : decode cX6_nightsFor 9 = .ok (.if_icmp .ne 7, 3) := by decide +kernel
theorem dX6_nightsFor_12 : decode cX6_nightsFor 12 = .ok (.iconst 2, 1) := by decide +kernel
theorem dX6_nightsFor_13 : decode cX6_nightsFor 13 = .ok (.goto 4, 3) := by decide +kernel
theorem dX6_nightsFor_16 : decode cX6_nightsFor 16 = .ok (.iconst 1, 1) := by decide +kernel
theorem dX6_nightsFor_17 : decode cX6_nightsFor 17 = .ok (.ireturn, 1) := by decide +kernel
abbrev kwX6_nightsFor (cI cZ cG : ClassId) : va_W := []
noncomputable def fX6_nightsFor (N : Nat) (a0 : Int32)   : Option (Int32) := if a0 = (4 : Int32) then (some (3 : Int32)) else (if a0 = (1 : Int32) then (some (2 : Int32)) else (some (1 : Int32)))
set_option maxHeartbeats 4000000 in
set_option maxRecDepth 100000 in
theorem wX6_nightsFor {p : Program} {l : Launch} {e : Env} {R : Room} {s : State} {m : MethodId} {args : Array Value} {below : List Frame} {meth : Method} {c : Code} {cells slots : Nat} {Q : State → Prop} {D : va_G} {A : Nat → Prop} {cI cZ cG : ClassId} {a0 : Int32} {N : Nat} {ρ : Int32} (X : CX p s m args c cX6_nightsFor 1 RX6 D (TY cI cZ cG) A) (hrm : RM R 0 0 cells slots) (ret : ∀ (pc : Nat) (H : Heap) (locs : List Loc) (ls : Array Slot), decode cX6_nightsFor pc = .ok (.ireturn, 1) → WD D A (kwX6_nightsFor cI cZ cG) s.heap H locs → W p l e R s m args below meth c H locs cells slots Q (F0 m pc ls [.int ρ])) (h : fX6_nightsFor N a0   = some ρ) (H : Heap) (locs : List Loc) (ls : Array Slot) (hw : WD D A (kwX6_nightsFor cI cZ cG) s.heap H locs) (hl : lv_has ls 1 [(0, .int a0)]) : W p l e R s m args below meth c H locs cells slots Q (F0 m 0 ls []) := by
  have hx := X.1.1
  have hb := X.1.2.1
  unfold fX6_nightsFor at h
  refine lv_iload_n hx hb dX6_nightsFor_0 rfl (lv_at hl 0 rfl) ?_
  refine lv_iconst (v := (4 : Int32)) hx hb dX6_nightsFor_1 (by decide) ?_
  refine lv_icmp_ne (tgt := 7) hx hb dX6_nightsFor_2 (by decide) (fun c_2 => ?_) (fun c_2 => ?_)
  · have h := iff_ c_2 h
    refine lv_iload_n hx hb dX6_nightsFor_7 rfl (lv_at hl 0 rfl) ?_
    refine lv_iconst (v := (1 : Int32)) hx hb dX6_nightsFor_8 (by decide) ?_
    refine lv_icmp_ne (tgt := 16) hx hb dX6_nightsFor_9 (by decide) (fun c_9 => ?_) (fun c_9 => ?_)
    · have h := iff_ c_9 h
      refine lv_iconst (v := (1 : Int32)) hx hb dX6_nightsFor_16 (by decide) ?_
      obtain rfl := Option.some.inj h
      exact ret _ _ _ _ dX6_nightsFor_17 hw
    · have h := ift c_9 h
      refine lv_iconst (v := (2 : Int32)) hx hb dX6_nightsFor_12 (by decide) ?_
      refine lv_goto (tgt := 17) hx hb dX6_nightsFor_13 (by decide) ?_
      obtain rfl := Option.some.inj h
      exact ret _ _ _ _ dX6_nightsFor_17 hw
  · have h := ift c_2 h
    refine lv_iconst (v := (3 : Int32)) hx hb dX6_nightsFor_5 (by decide) ?_
    obtain rfl := Option.some.inj h
    exact ret _ _ _ _ dX6_nightsFor_6 hw
set_option maxHeartbeats 4000000 in
set_option maxRecDepth 100000 in
theorem cX6_nightsFor_ct (l : Launch) (D : va_G) (cI cZ cG : ClassId)    (a0 : Int32) (N : Nat) (ρ : Int32) (h : fX6_nightsFor N a0   = some ρ) (sz : Nat) : Met l yX6_nightsFor (wz yX6_nightsFor cX6_nightsFor 1 (some .int)) (cRm 0 0) (cPre D (TY cI cZ cG) [.int a0] (kwX6_nightsFor cI cZ cG) sz) (cQi D (ρ) (kwX6_nightsFor cI cZ cG) (kwX6_nightsFor cI cZ cG) sz) 0 0 (va_A (kwX6_nightsFor cI cZ cG) sz) :=
  mk_i (by decide) (Nat.le_of_ble_eq_true rfl) (fun X hrm ret hw hl => wX6_nightsFor X hrm ret h _ _ _ hw hl)
theorem dX6_leavePlot_0 : decode cX6_leavePlot 0 = .ok (.aload_n 0, 1) := by decide +kernel
theorem dX6_leavePlot_1 : decode cX6_leavePlot 1 = .ok (.getfield 15, 3) := by decide +kernel
theorem dX6_leavePlot_4 : decode cX6_leavePlot 4 = .ok (.iload_n 1, 1) := by decide +kernel
theorem dX6_leavePlot_5 : decode cX6_leavePlot 5 = .ok (.iaload, 1) := by decide +kernel
theorem dX6_leavePlot_6 : decode cX6_leavePlot 6 = .ok (.istore_n 2, 1) := by decide +kernel
theorem dX6_leavePlot_7 : decode cX6_leavePlot 7 = .ok (.iload_n 2, 1) := by decide +kernel
theorem dX6_leavePlot_8 : decode cX6_leavePlot 8 = .ok (.iconst (-1), 1) := by decide +kernel
theorem dX6_leavePlot_9 : decode cX6_leavePlot 9 = .ok (.if_icmp .eq 17, 3) := by decide +kernel
theorem dX6_leavePlot_12 : decode cX6_leavePlot 12 = .ok (.aload_n 0, 1) := by decide +kernel
theorem dX6_leavePlot_13 : decode cX6_leavePlot 13 = .ok (.getfield 21, 3) := by decide +kernel
theorem dX6_leavePlot_16 : decode cX6_leavePlot 16 = .ok (.iload_n 2, 1) := by decide +kernel
theorem dX6_leavePlot_17 : decode cX6_leavePlot 17 = .ok (.iconst (-1), 1) := by decide +kernel
theorem dX6_leavePlot_18 : decode cX6_leavePlot 18 = .ok (.iastore, 1) := by decide +kernel
theorem dX6_leavePlot_19 : decode cX6_leavePlot 19 = .ok (.aload_n 0, 1) := by decide +kernel
theorem dX6_leavePlot_20 : decode cX6_leavePlot 20 = .ok (.getfield 15, 3) := by decide +kernel
theorem dX6_leavePlot_23 : decode cX6_leavePlot 23 = .ok (.iload_n 1, 1) := by decide +kernel
theorem dX6_leavePlot_24 : decode cX6_leavePlot 24 = .ok (.iconst (-1), 1) := by decide +kernel
theorem dX6_leavePlot_25 : decode cX6_leavePlot 25 = .ok (.iastore, 1) := by decide +kernel
theorem dX6_leavePlot_26 : decode cX6_leavePlot 26 = .ok (.return_, 1) := by decide +kernel
abbrev kwX6_leavePlot (cI cZ cG : ClassId) (q q_kindOf q_plotOf q_row q_standsOn : Nat) (v_houses : Int32) (v_front : Int32) (v_downFor : Int32) (v_plotOf : (Nat → Int32)) (v_standsOn : (Nat → Int32)) : va_W := [(q, .inr (6, [.ref q_kindOf, .ref q_plotOf, .ref q_row, .ref q_standsOn, .int v_houses, .int v_front, .int v_downFor])), (q_plotOf, .inl (cI, 6, .inl v_plotOf)), (q_standsOn, .inl (cI, 12, .inl v_standsOn))]
noncomputable def fX6_leavePlot (N : Nat) (a1 : Int32) (v_plotOf : (Nat → Int32)) (v_standsOn : (Nat → Int32))  : Option ((Nat → Int32) × (Nat → Int32)) := if a1 < 0 ∨ 6 ≤ (a1).toNatClampNeg then none else (if (v_plotOf (a1).toNatClampNeg) = (-1 : Int32) then (some (v_plotOf, v_standsOn)) else (if (v_plotOf (a1).toNatClampNeg) < 0 ∨ 12 ≤ ((v_plotOf (a1).toNatClampNeg)).toNatClampNeg then none else (if a1 < 0 ∨ 6 ≤ (a1).toNatClampNeg then none else (some ((upd v_plotOf (a1).toNatClampNeg (-1 : Int32)), (upd v_standsOn ((v_plotOf (a1).toNatClampNeg)).toNatClampNeg (-1 : Int32)))))))
set_option maxHeartbeats 4000000 in
set_option maxRecDepth 100000 in
theorem wX6_leavePlot {p : Program} {l : Launch} {e : Env} {R : Room} {s : State} {m : MethodId} {args : Array Value} {below : List Frame} {meth : Method} {c : Code} {cells slots : Nat} {Q : State → Prop} {D : va_G} {A : Nat → Prop} {cI cZ cG : ClassId} {q q_kindOf q_plotOf q_row q_standsOn : Nat} {v_houses : Int32} {v_front : Int32} {v_downFor : Int32} {v_plotOf : (Nat → Int32)} {v_standsOn : (Nat → Int32)} {a1 : Int32} {N : Nat} {ρ : (Nat → Int32) × (Nat → Int32)} (X : CX p s m args c cX6_leavePlot 3 RX6 D (TY cI cZ cG) A) (hrm : RM R 0 0 cells slots) (ret : ∀ (pc : Nat) (H : Heap) (locs : List Loc) (ls : Array Slot), decode cX6_leavePlot pc = .ok (.return_, 1) → WD D A (kwX6_leavePlot cI cZ cG q q_kindOf q_plotOf q_row q_standsOn v_houses v_front v_downFor (ρ.1) (ρ.2)) s.heap H locs → W p l e R s m args below meth c H locs cells slots Q (F0 m pc ls [])) (h : fX6_leavePlot N a1 v_plotOf v_standsOn  = some ρ) (H : Heap) (locs : List Loc) (ls : Array Slot) (hw : WD D A (kwX6_leavePlot cI cZ cG q q_kindOf q_plotOf q_row q_standsOn v_houses v_front v_downFor v_plotOf v_standsOn) s.heap H locs) (hl : lv_has ls 3 [(0, .ref q), (1, .int a1)]) : W p l e R s m args below meth c H locs cells slots Q (F0 m 0 ls []) := by
  have hx := X.1.1
  have hb := X.1.2.1
  unfold fX6_leavePlot at h
  refine lv_aload_n hx hb dX6_leavePlot_0 rfl (lv_at hl 0 rfl) ?_
  refine kget (ci := 6) (v := .ref q_plotOf) X hw iX6 0 rfl rfl 1 (by decide) tw_114 rfl dX6_leavePlot_1 ?_
  refine lv_iload_n hx hb dX6_leavePlot_4 rfl (lv_at hl 1 rfl) ?_
  obtain ⟨g_5, h⟩ := gd h
  refine kiald X hw 1 rfl rfl g_5 dX6_leavePlot_5 ?_
  refine lv_istore_n (lv' := [(2, .int (v_plotOf (a1).toNatClampNeg)), (0, .ref q), (1, .int a1)]) hx hb dX6_leavePlot_6 rfl hl (by decide) rfl (fun ls hl => ?_)
  refine lv_iload_n hx hb dX6_leavePlot_7 rfl (lv_at hl 0 rfl) ?_
  refine lv_iconst (v := (-1 : Int32)) hx hb dX6_leavePlot_8 (by decide) ?_
  refine lv_icmp_eq (tgt := 26) hx hb dX6_leavePlot_9 (by decide) (fun c_9 => ?_) (fun c_9 => ?_)
  · have h := ift c_9 h
    obtain rfl := Option.some.inj h
    exact ret _ _ _ _ dX6_leavePlot_26 hw
  · have h := iff_ c_9 h
    refine lv_aload_n hx hb dX6_leavePlot_12 rfl (lv_at hl 1 rfl) ?_
    refine kget (ci := 6) (v := .ref q_standsOn) X hw iX6 0 rfl rfl 3 (by decide) tw_146 rfl dX6_leavePlot_13 ?_
    refine lv_iload_n hx hb dX6_leavePlot_16 rfl (lv_at hl 0 rfl) ?_
    refine lv_iconst (v := (-1 : Int32)) hx hb dX6_leavePlot_17 (by decide) ?_
    obtain ⟨g_18, h⟩ := gd h
    refine kiast X hw 2 rfl rfl g_18 dX6_leavePlot_18 (fun H locs hw => ?_)
    have hw : WD D A (kwX6_leavePlot cI cZ cG q q_kindOf q_plotOf q_row q_standsOn v_houses v_front v_downFor v_plotOf (upd v_standsOn ((v_plotOf (a1).toNatClampNeg)).toNatClampNeg (-1 : Int32))) s.heap H locs := hw
    refine lv_aload_n hx hb dX6_leavePlot_19 rfl (lv_at hl 1 rfl) ?_
    refine kget (ci := 6) (v := .ref q_plotOf) X hw iX6 0 rfl rfl 1 (by decide) tw_114 rfl dX6_leavePlot_20 ?_
    refine lv_iload_n hx hb dX6_leavePlot_23 rfl (lv_at hl 2 rfl) ?_
    refine lv_iconst (v := (-1 : Int32)) hx hb dX6_leavePlot_24 (by decide) ?_
    obtain ⟨g_25, h⟩ := gd h
    refine kiast X hw 1 rfl rfl g_25 dX6_leavePlot_25 (fun H locs hw => ?_)
    have hw : WD D A (kwX6_leavePlot cI cZ cG q q_kindOf q_plotOf q_row q_standsOn v_houses v_front v_downFor (upd v_plotOf (a1).toNatClampNeg (-1 : Int32)) (upd v_standsOn ((v_plotOf (a1).toNatClampNeg)).toNatClampNeg (-1 : Int32))) s.heap H locs := hw
    obtain rfl := Option.some.inj h
    exact ret _ _ _ _ dX6_leavePlot_26 hw
set_option maxHeartbeats 4000000 in
set_option maxRecDepth 100000 in
theorem cX6_leavePlot_ct (l : Launch) (D : va_G) (cI cZ cG : ClassId) (q q_kindOf q_plotOf q_row q_standsOn : Nat)  (v_houses : Int32) (v_front : Int32) (v_downFor : Int32) (v_plotOf : (Nat → Int32)) (v_standsOn : (Nat → Int32)) (a1 : Int32) (N : Nat) (ρ : (Nat → Int32) × (Nat → Int32)) (h : fX6_leavePlot N a1 v_plotOf v_standsOn  = some ρ) (sz : Nat) : Met l yX6_leavePlot (wz yX6_leavePlot cX6_leavePlot 3 none) (cRm 0 0) (cPre D (TY cI cZ cG) [.ref q, .int a1] (kwX6_leavePlot cI cZ cG q q_kindOf q_plotOf q_row q_standsOn v_houses v_front v_downFor v_plotOf v_standsOn) sz) (cQv D (kwX6_leavePlot cI cZ cG q q_kindOf q_plotOf q_row q_standsOn v_houses v_front v_downFor v_plotOf v_standsOn) (kwX6_leavePlot cI cZ cG q q_kindOf q_plotOf q_row q_standsOn v_houses v_front v_downFor (ρ.1) (ρ.2)) sz) 0 0 (va_A (kwX6_leavePlot cI cZ cG q q_kindOf q_plotOf q_row q_standsOn v_houses v_front v_downFor v_plotOf v_standsOn) sz) :=
  mk_v (by decide) (Nat.le_of_ble_eq_true rfl) (fun X hrm ret hw hl => wX6_leavePlot X hrm ret h _ _ _ hw hl)
theorem dX6_takeDown_0 : decode cX6_takeDown 0 = .ok (.aload_n 0, 1) := by decide +kernel
theorem dX6_takeDown_1 : decode cX6_takeDown 1 = .ok (.iload_n 1, 1) := by decide +kernel
theorem dX6_takeDown_2 : decode cX6_takeDown 2 = .ok (.invokevirtual 57, 3) := by decide +kernel
theorem dX6_takeDown_5 : decode cX6_takeDown 5 = .ok (.aload_n 0, 1) := by decide +kernel
theorem dX6_takeDown_6 : decode cX6_takeDown 6 = .ok (.aload_n 0, 1) := by decide +kernel
theorem dX6_takeDown_7 : decode cX6_takeDown 7 = .ok (.getfield 9, 3) := by decide +kernel
theorem dX6_takeDown_10 : decode cX6_takeDown 10 = .ok (.iload_n 1, 1) := by decide +kernel
theorem dX6_takeDown_11 : decode cX6_takeDown 11 = .ok (.iaload, 1) := by decide +kernel
theorem dX6_takeDown_12 : decode cX6_takeDown 12 = .ok (.invokestatic 46, 3) := by decide +kernel
theorem dX6_takeDown_15 : decode cX6_takeDown 15 = .ok (.iconst 1, 1) := by decide +kernel
theorem dX6_takeDown_16 : decode cX6_takeDown 16 = .ok (.isub, 1) := by decide +kernel
theorem dX6_takeDown_17 : decode cX6_takeDown 17 = .ok (.putfield 37, 3) := by decide +kernel
theorem dX6_takeDown_20 : decode cX6_takeDown 20 = .ok (.return_, 1) := by decide +kernel
abbrev kwX6_takeDown (cI cZ cG : ClassId) (q q_kindOf q_plotOf q_row q_standsOn : Nat) (v_houses : Int32) (v_front : Int32) (v_downFor : Int32) (v_plotOf : (Nat → Int32)) (v_standsOn : (Nat → Int32)) (v_kindOf : (Nat → Int32)) : va_W := [(q, .inr (6, [.ref q_kindOf, .ref q_plotOf, .ref q_row, .ref q_standsOn, .int v_houses, .int v_front, .int v_downFor])), (q_plotOf, .inl (cI, 6, .inl v_plotOf)), (q_standsOn, .inl (cI, 12, .inl v_standsOn)), (q_kindOf, .inl (cI, 6, .inl v_kindOf))]
noncomputable def fX6_takeDown (N : Nat) (v_kindOf : (Nat → Int32)) (a1 : Int32) (v_downFor : Int32) (v_plotOf : (Nat → Int32)) (v_standsOn : (Nat → Int32))  : Option (Int32 × (Nat → Int32) × (Nat → Int32)) := (fX6_leavePlot N a1 v_plotOf v_standsOn).bind (fun x_2 => if a1 < 0 ∨ 6 ≤ (a1).toNatClampNeg then none else ((fX6_nightsFor N (v_kindOf (a1).toNatClampNeg)).bind (fun x_12 => some ((x_12 - (1 : Int32)), x_2.1, x_2.2))))
set_option maxHeartbeats 4000000 in
set_option maxRecDepth 100000 in
theorem wX6_takeDown {p : Program} {l : Launch} {e : Env} {R : Room} {s : State} {m : MethodId} {args : Array Value} {below : List Frame} {meth : Method} {c : Code} {cells slots : Nat} {Q : State → Prop} {D : va_G} {A : Nat → Prop} {cI cZ cG : ClassId} {q q_kindOf q_plotOf q_row q_standsOn : Nat} {v_houses : Int32} {v_front : Int32} {v_downFor : Int32} {v_plotOf : (Nat → Int32)} {v_standsOn : (Nat → Int32)} {v_kindOf : (Nat → Int32)} {a1 : Int32} {N : Nat} {ρ : Int32 × (Nat → Int32) × (Nat → Int32)} (X : CX p s m args c cX6_takeDown 2 RX6 D (TY cI cZ cG) A) (hrm : RM R 1 22 cells slots) (ret : ∀ (pc : Nat) (H : Heap) (locs : List Loc) (ls : Array Slot), decode cX6_takeDown pc = .ok (.return_, 1) → WD D A (kwX6_takeDown cI cZ cG q q_kindOf q_plotOf q_row q_standsOn v_houses v_front (ρ.1) (ρ.2.1) (ρ.2.2) v_kindOf) s.heap H locs → W p l e R s m args below meth c H locs cells slots Q (F0 m pc ls [])) (h : fX6_takeDown N v_kindOf a1 v_downFor v_plotOf v_standsOn  = some ρ) (H : Heap) (locs : List Loc) (ls : Array Slot) (hw : WD D A (kwX6_takeDown cI cZ cG q q_kindOf q_plotOf q_row q_standsOn v_houses v_front v_downFor v_plotOf v_standsOn v_kindOf) s.heap H locs) (hl : lv_has ls 2 [(0, .ref q), (1, .int a1)]) : W p l e R s m args below meth c H locs cells slots Q (F0 m 0 ls []) := by
  have hx := X.1.1
  have hb := X.1.2.1
  unfold fX6_takeDown at h
  refine lv_aload_n hx hb dX6_takeDown_0 rfl (lv_at hl 0 rfl) ?_
  refine lv_iload_n hx hb dX6_takeDown_1 rfl (lv_at hl 1 rfl) ?_
  obtain ⟨x_2, hc_2, h⟩ := obd h
  refine ksV_v (ws2 := (kwX6_takeDown cI cZ cG q q_kindOf q_plotOf q_row q_standsOn v_houses v_front v_downFor x_2.1 x_2.2 v_kindOf)) (nW := 4) (ci := 6) (As := [.int a1]) (rest := []) X hw rfl rfl rfl (cX6_leavePlot_ct l D cI cZ cG q q_kindOf q_plotOf q_row q_standsOn v_houses v_front v_downFor v_plotOf v_standsOn a1 N x_2 hc_2 H.size) mX6_leavePlot tw_155 (hrm.call (by decide) (by decide)) [0, 1, 2] rfl (by decide) rfl (by decide) rfl ⟨rfl, trivial⟩ rfl hl.1 rfl (Nat.le_of_ble_eq_true rfl) dX6_takeDown_2 ⟨hrm.2.2.1, hrm.2.2.2⟩ (fun H locs hw => ?_)
  refine lv_aload_n hx hb dX6_takeDown_5 rfl (lv_at hl 0 rfl) ?_
  refine lv_aload_n hx hb dX6_takeDown_6 rfl (lv_at hl 0 rfl) ?_
  refine kget (ci := 6) (v := .ref q_kindOf) X hw iX6 0 rfl rfl 0 (by decide) tw_140 rfl dX6_takeDown_7 ?_
  refine lv_iload_n hx hb dX6_takeDown_10 rfl (lv_at hl 1 rfl) ?_
  obtain ⟨g_11, h⟩ := gd h
  refine kiald X hw 3 rfl rfl g_11 dX6_takeDown_11 ?_
  obtain ⟨x_12, hc_12, h⟩ := obd h
  refine ksS_i (ws2 := (kwX6_takeDown cI cZ cG q q_kindOf q_plotOf q_row q_standsOn v_houses v_front v_downFor x_2.1 x_2.2 v_kindOf)) (nW := 4) (As := [.int (v_kindOf (a1).toNatClampNeg)]) (rest := [.ref q]) X hw (cX6_nightsFor_ct l D cI cZ cG (v_kindOf (a1).toNatClampNeg) N x_12 hc_12 H.size) mX6_nightsFor tw_156 (hrm.call (by decide) (by decide)) [] rfl (by decide) rfl (by decide) rfl ⟨rfl, ⟨rfl, ⟨rfl, ⟨rfl, trivial⟩⟩⟩⟩ rfl hl.1 rfl (Nat.le_of_ble_eq_true rfl) dX6_takeDown_12 ⟨hrm.2.2.1, hrm.2.2.2⟩ (fun H locs hw => ?_)
  refine lv_iconst (v := (1 : Int32)) hx hb dX6_takeDown_15 (by decide) ?_
  refine lv_isub hx hb dX6_takeDown_16 ?_
  refine kput (ci := 6) (v := .int (x_12 - (1 : Int32))) (ty := .int) X hw iX6 tyX6_ok nmX6 0 rfl rfl 6 (by decide) tw_139 rfl rfl rfl rfl (Nat.le_of_ble_eq_true rfl) dX6_takeDown_17 (fun H locs hw => ?_)
  have hw : WD D A (kwX6_takeDown cI cZ cG q q_kindOf q_plotOf q_row q_standsOn v_houses v_front (x_12 - (1 : Int32)) x_2.1 x_2.2 v_kindOf) s.heap H locs := hw
  obtain rfl := Option.some.inj h
  exact ret _ _ _ _ dX6_takeDown_20 hw
set_option maxHeartbeats 4000000 in
set_option maxRecDepth 100000 in
theorem cX6_takeDown_ct (l : Launch) (D : va_G) (cI cZ cG : ClassId) (q q_kindOf q_plotOf q_row q_standsOn : Nat)  (v_houses : Int32) (v_front : Int32) (v_downFor : Int32) (v_plotOf : (Nat → Int32)) (v_standsOn : (Nat → Int32)) (v_kindOf : (Nat → Int32)) (a1 : Int32) (N : Nat) (ρ : Int32 × (Nat → Int32) × (Nat → Int32)) (h : fX6_takeDown N v_kindOf a1 v_downFor v_plotOf v_standsOn  = some ρ) (sz : Nat) : Met l yX6_takeDown (wz yX6_takeDown cX6_takeDown 2 none) (cRm 1 22) (cPre D (TY cI cZ cG) [.ref q, .int a1] (kwX6_takeDown cI cZ cG q q_kindOf q_plotOf q_row q_standsOn v_houses v_front v_downFor v_plotOf v_standsOn v_kindOf) sz) (cQv D (kwX6_takeDown cI cZ cG q q_kindOf q_plotOf q_row q_standsOn v_houses v_front v_downFor v_plotOf v_standsOn v_kindOf) (kwX6_takeDown cI cZ cG q q_kindOf q_plotOf q_row q_standsOn v_houses v_front (ρ.1) (ρ.2.1) (ρ.2.2) v_kindOf) sz) 0 0 (va_A (kwX6_takeDown cI cZ cG q q_kindOf q_plotOf q_row q_standsOn v_houses v_front v_downFor v_plotOf v_standsOn v_kindOf) sz) :=
  mk_v (by decide) (Nat.le_of_ble_eq_true rfl) (fun X hrm ret hw hl => wX6_takeDown X hrm ret h _ _ _ hw hl)
theorem dX6_freeBeyond_0 : decode cX6_freeBeyond 0 = .ok (.iconst 1, 1) := by decide +kernel
theorem dX6_freeBeyond_1 : decode cX6_freeBeyond 1 = .ok (.istore_n 2, 1) := by decide +kernel
theorem dX6_freeBeyond_2 : decode cX6_freeBeyond 2 = .ok (.iload_n 2, 1) := by decide +kernel
theorem dX6_freeBeyond_3 : decode cX6_freeBeyond 3 = .ok (.bipush 12, 2) := by decide +kernel
theorem dX6_freeBeyond_5 : decode cX6_freeBeyond 5 = .ok (.if_icmp .ge 28, 3) := by decide +kernel
theorem dX6_freeBeyond_8 : decode cX6_freeBeyond 8 = .ok (.iload_n 1, 1) := by decide +kernel
theorem dX6_freeBeyond_9 : decode cX6_freeBeyond 9 = .ok (.iload_n 2, 1) := by decide +kernel
theorem dX6_freeBeyond_10 : decode cX6_freeBeyond 10 = .ok (.iadd, 1) := by decide +kernel
theorem dX6_freeBeyond_11 : decode cX6_freeBeyond 11 = .ok (.bipush 12, 2) := by decide +kernel
theorem dX6_freeBeyond_13 : decode cX6_freeBeyond 13 = .ok (.irem, 1) := by decide +kernel
theorem dX6_freeBeyond_14 : decode cX6_freeBeyond 14 = .ok (.istore_n 3, 1) := by decide +kernel
theorem dX6_freeBeyond_15 : decode cX6_freeBeyond 15 = .ok (.aload_n 0, 1) := by decide +kernel
theorem dX6_freeBeyond_16 : decode cX6_freeBeyond 16 = .ok (.getfield 21, 3) := by decide +kernel
theorem dX6_freeBeyond_19 : decode cX6_freeBeyond 19 = .ok (.iload_n 3, 1) := by decide +kernel
theorem dX6_freeBeyond_20 : decode cX6_freeBeyond 20 = .ok (.iaload, 1) := by decide +kernel
theorem dX6_freeBeyond_21 : decode cX6_freeBeyond 21 = .ok (.iconst (-1), 1) := by decide +kernel
theorem dX6_freeBeyond_22 : decode cX6_freeBeyond 22 = .ok (.if_icmp .ne 5, 3) := by decide +kernel
theorem dX6_freeBeyond_25 : decode cX6_freeBeyond 25 = .ok (.iload_n 3, 1) := by decide +kernel
theorem dX6_freeBeyond_26 : decode cX6_freeBeyond 26 = .ok (.ireturn, 1) := by decide +kernel
theorem dX6_freeBeyond_27 : decode cX6_freeBeyond 27 = .ok (.iinc 2 1, 3) := by decide +kernel
theorem dX6_freeBeyond_30 : decode cX6_freeBeyond 30 = .ok (.goto (-28), 3) := by decide +kernel
theorem dX6_freeBeyond_33 : decode cX6_freeBeyond 33 = .ok (.iload_n 1, 1) := by decide +kernel
theorem dX6_freeBeyond_34 : decode cX6_freeBeyond 34 = .ok (.ireturn, 1) := by decide +kernel
abbrev kwX6_freeBeyond (cI cZ cG : ClassId) (q q_kindOf q_plotOf q_row q_standsOn : Nat) (v_houses : Int32) (v_front : Int32) (v_downFor : Int32) (v_standsOn : (Nat → Int32)) : va_W := [(q, .inr (6, [.ref q_kindOf, .ref q_plotOf, .ref q_row, .ref q_standsOn, .int v_houses, .int v_front, .int v_downFor])), (q_standsOn, .inl (cI, 12, .inl v_standsOn))]
noncomputable def fX6_freeBeyond_2 (N : Nat) (v_standsOn : (Nat → Int32)) (a1 : Int32)  (K_2 : Int32 → Option (Int32)) (l2 : Int32) : Option (Int32) := if (12 : Int32) ≤ l2 then (some a1) else (if ((a1 + l2) - (a1 + l2) / (12 : Int32) * (12 : Int32)) < 0 ∨ 12 ≤ (((a1 + l2) - (a1 + l2) / (12 : Int32) * (12 : Int32))).toNatClampNeg then none else (if (v_standsOn (((a1 + l2) - (a1 + l2) / (12 : Int32) * (12 : Int32))).toNatClampNeg) = (-1 : Int32) then (some ((a1 + l2) - (a1 + l2) / (12 : Int32) * (12 : Int32))) else (K_2 (l2 + (1 : Int32)))))
noncomputable def fX6_freeBeyond (N : Nat) (v_standsOn : (Nat → Int32)) (a1 : Int32)   : Option (Int32) := lfix (fun (K : Int32 → Option (Int32)) (a : Int32) => fX6_freeBeyond_2 N v_standsOn a1 (fun (l2 : Int32) => K l2) a) N (1 : Int32)
set_option maxHeartbeats 4000000 in
set_option maxRecDepth 100000 in
theorem wX6_freeBeyond_2 {p : Program} {l : Launch} {e : Env} {R : Room} {s : State} {m : MethodId} {args : Array Value} {below : List Frame} {meth : Method} {c : Code} {cells slots : Nat} {Q : State → Prop} {D : va_G} {A : Nat → Prop} {cI cZ cG : ClassId} {q q_kindOf q_plotOf q_row q_standsOn : Nat} {v_houses : Int32} {v_front : Int32} {v_downFor : Int32} {v_standsOn : (Nat → Int32)} {a1 : Int32} {N : Nat} {ρ : Int32} (X : CX p s m args c cX6_freeBeyond 4 RX6 D (TY cI cZ cG) A) (hrm : RM R 0 0 cells slots) (ret : ∀ (pc : Nat) (H : Heap) (locs : List Loc) (ls : Array Slot), decode cX6_freeBeyond pc = .ok (.ireturn, 1) → WD D A (kwX6_freeBeyond cI cZ cG q q_kindOf q_plotOf q_row q_standsOn v_houses v_front v_downFor v_standsOn) s.heap H locs → W p l e R s m args below meth c H locs cells slots Q (F0 m pc ls [.int ρ]))  : ∀ (n : Nat) (a : Int32), lfix (fun (K : Int32 → Option (Int32)) (a : Int32) => fX6_freeBeyond_2 N v_standsOn a1 (fun (l2 : Int32) => K l2) a) n a = some ρ → (fun (l2 : Int32) => ∀ (H : Heap) (locs : List Loc) (ls : Array Slot), WD D A (kwX6_freeBeyond cI cZ cG q q_kindOf q_plotOf q_row q_standsOn v_houses v_front v_downFor v_standsOn) s.heap H locs → lv_has ls 4 [(0, .ref q), (1, .int a1), (2, .int l2)] → W p l e R s m args below meth c H locs cells slots Q (F0 m 2 ls [])) (a) := by
  have hx := X.1.1
  have hb := X.1.2.1
  refine lfix_W (fun K hK a h => ?_)
  obtain ⟨l2, rfl⟩ : ∃ z, z = a := ⟨_, rfl⟩
  intro H locs ls hw hl
  have h : fX6_freeBeyond_2 N v_standsOn a1 (fun (l2 : Int32) => K l2) l2 = some ρ := h
  have hK_2 : ∀ (l2 : Int32), (fun (l2 : Int32) => K l2) l2 = some ρ → ∀ (H : Heap) (locs : List Loc) (ls : Array Slot), WD D A (kwX6_freeBeyond cI cZ cG q q_kindOf q_plotOf q_row q_standsOn v_houses v_front v_downFor v_standsOn) s.heap H locs → lv_has ls 4 [(0, .ref q), (1, .int a1), (2, .int l2)] → W p l e R s m args below meth c H locs cells slots Q (F0 m 2 ls []) := fun l2 h => hK l2 h
  generalize (fun (l2 : Int32) => K l2) = K_2 at h hK_2
  have hw : WD D A (kwX6_freeBeyond cI cZ cG q q_kindOf q_plotOf q_row q_standsOn v_houses v_front v_downFor v_standsOn) s.heap H locs := hw
  have hl : lv_has ls 4 [(0, .ref q), (1, .int a1), (2, .int l2)] := hl
  unfold fX6_freeBeyond_2 at h
  refine lv_iload_n hx hb dX6_freeBeyond_2 rfl (lv_at hl 2 rfl) ?_
  refine lv_bipush (v := (12 : Int32)) hx hb dX6_freeBeyond_3 (by decide) ?_
  refine lv_icmp_ge (tgt := 33) hx hb dX6_freeBeyond_5 (by decide) (fun c_5 => ?_) (fun c_5 => ?_)
  · have h := ift c_5 h
    refine lv_iload_n hx hb dX6_freeBeyond_33 rfl (lv_at hl 1 rfl) ?_
    obtain rfl := Option.some.inj h
    exact ret _ _ _ _ dX6_freeBeyond_34 hw
  · have h := iff_ c_5 h
    refine lv_iload_n hx hb dX6_freeBeyond_8 rfl (lv_at hl 1 rfl) ?_
    refine lv_iload_n hx hb dX6_freeBeyond_9 rfl (lv_at hl 2 rfl) ?_
    refine lv_iadd hx hb dX6_freeBeyond_10 ?_
    refine lv_bipush (v := (12 : Int32)) hx hb dX6_freeBeyond_11 (by decide) ?_
    refine lv_irem hx hb dX6_freeBeyond_13 (by decide) ?_
    refine lv_istore_n (lv' := [(3, .int ((a1 + l2) - (a1 + l2) / (12 : Int32) * (12 : Int32))), (0, .ref q), (1, .int a1), (2, .int l2)]) hx hb dX6_freeBeyond_14 rfl hl (by decide) rfl (fun ls hl => ?_)
    refine lv_aload_n hx hb dX6_freeBeyond_15 rfl (lv_at hl 1 rfl) ?_
    refine kget (ci := 6) (v := .ref q_standsOn) X hw iX6 0 rfl rfl 3 (by decide) tw_146 rfl dX6_freeBeyond_16 ?_
    refine lv_iload_n hx hb dX6_freeBeyond_19 rfl (lv_at hl 0 rfl) ?_
    obtain ⟨g_20, h⟩ := gd h
    refine kiald X hw 1 rfl rfl g_20 dX6_freeBeyond_20 ?_
    refine lv_iconst (v := (-1 : Int32)) hx hb dX6_freeBeyond_21 (by decide) ?_
    refine lv_icmp_ne (tgt := 27) hx hb dX6_freeBeyond_22 (by decide) (fun c_22 => ?_) (fun c_22 => ?_)
    · have h := iff_ c_22 h
      refine lv_iinc (v := (l2 + (1 : Int32))) (lv' := [(2, .int (l2 + (1 : Int32))), (3, .int ((a1 + l2) - (a1 + l2) / (12 : Int32) * (12 : Int32))), (0, .ref q), (1, .int a1)]) hx hb dX6_freeBeyond_27 hl (k := 3) rfl (congrArg (l2 + ·) (by decide)) (by decide) rfl (fun ls hl => ?_)
      refine lv_goto (tgt := 2) hx hb dX6_freeBeyond_30 (by decide) ?_
      exact hK_2 _ h _ _ _ hw (lv_sub hl [2, 3, 0] rfl)
    · have h := ift c_22 h
      refine lv_iload_n hx hb dX6_freeBeyond_25 rfl (lv_at hl 0 rfl) ?_
      obtain rfl := Option.some.inj h
      exact ret _ _ _ _ dX6_freeBeyond_26 hw
set_option maxHeartbeats 4000000 in
set_option maxRecDepth 100000 in
theorem wX6_freeBeyond {p : Program} {l : Launch} {e : Env} {R : Room} {s : State} {m : MethodId} {args : Array Value} {below : List Frame} {meth : Method} {c : Code} {cells slots : Nat} {Q : State → Prop} {D : va_G} {A : Nat → Prop} {cI cZ cG : ClassId} {q q_kindOf q_plotOf q_row q_standsOn : Nat} {v_houses : Int32} {v_front : Int32} {v_downFor : Int32} {v_standsOn : (Nat → Int32)} {a1 : Int32} {N : Nat} {ρ : Int32} (X : CX p s m args c cX6_freeBeyond 4 RX6 D (TY cI cZ cG) A) (hrm : RM R 0 0 cells slots) (ret : ∀ (pc : Nat) (H : Heap) (locs : List Loc) (ls : Array Slot), decode cX6_freeBeyond pc = .ok (.ireturn, 1) → WD D A (kwX6_freeBeyond cI cZ cG q q_kindOf q_plotOf q_row q_standsOn v_houses v_front v_downFor v_standsOn) s.heap H locs → W p l e R s m args below meth c H locs cells slots Q (F0 m pc ls [.int ρ])) (h : fX6_freeBeyond N v_standsOn a1   = some ρ) (H : Heap) (locs : List Loc) (ls : Array Slot) (hw : WD D A (kwX6_freeBeyond cI cZ cG q q_kindOf q_plotOf q_row q_standsOn v_houses v_front v_downFor v_standsOn) s.heap H locs) (hl : lv_has ls 4 [(0, .ref q), (1, .int a1)]) : W p l e R s m args below meth c H locs cells slots Q (F0 m 0 ls []) := by
  have hx := X.1.1
  have hb := X.1.2.1
  unfold fX6_freeBeyond at h
  refine lv_iconst (v := (1 : Int32)) hx hb dX6_freeBeyond_0 (by decide) ?_
  refine lv_istore_n (lv' := [(2, .int (1 : Int32)), (0, .ref q), (1, .int a1)]) hx hb dX6_freeBeyond_1 rfl hl (by decide) rfl (fun ls hl => ?_)
  exact wX6_freeBeyond_2 X hrm ret  _ _ h _ _ _ hw (lv_sub hl [1, 2, 0] rfl)
set_option maxHeartbeats 4000000 in
set_option maxRecDepth 100000 in
theorem cX6_freeBeyond_ct (l : Launch) (D : va_G) (cI cZ cG : ClassId) (q q_kindOf q_plotOf q_row q_standsOn : Nat)  (v_houses : Int32) (v_front : Int32) (v_downFor : Int32) (v_standsOn : (Nat → Int32)) (a1 : Int32) (N : Nat) (ρ : Int32) (h : fX6_freeBeyond N v_standsOn a1   = some ρ) (sz : Nat) : Met l yX6_freeBeyond (wz yX6_freeBeyond cX6_freeBeyond 4 (some .int)) (cRm 0 0) (cPre D (TY cI cZ cG) [.ref q, .int a1] (kwX6_freeBeyond cI cZ cG q q_kindOf q_plotOf q_row q_standsOn v_houses v_front v_downFor v_standsOn) sz) (cQi D (ρ) (kwX6_freeBeyond cI cZ cG q q_kindOf q_plotOf q_row q_standsOn v_houses v_front v_downFor v_standsOn) (kwX6_freeBeyond cI cZ cG q q_kindOf q_plotOf q_row q_standsOn v_houses v_front v_downFor v_standsOn) sz) 0 0 (va_A (kwX6_freeBeyond cI cZ cG q q_kindOf q_plotOf q_row q_standsOn v_houses v_front v_downFor v_standsOn) sz) :=
  mk_i (by decide) (Nat.le_of_ble_eq_true rfl) (fun X hrm ret hw hl => wX6_freeBeyond X hrm ret h _ _ _ hw hl)
theorem dX6_moveFirst_0 : decode cX6_moveFirst 0 = .ok (.aload_n 0, 1) := by decide +kernel
theorem dX6_moveFirst_1 : decode cX6_moveFirst 1 = .ok (.getfield 18, 3) := by decide +kernel
theorem dX6_moveFirst_4 : decode cX6_moveFirst 4 = .ok (.iconst 0, 1) := by decide +kernel
theorem dX6_moveFirst_5 : decode cX6_moveFirst 5 = .ok (.iaload, 1) := by decide +kernel
theorem dX6_moveFirst_6 : decode cX6_moveFirst 6 = .ok (.istore_n 1, 1) := by decide +kernel
theorem dX6_moveFirst_7 : decode cX6_moveFirst 7 = .ok (.aload_n 0, 1) := by decide +kernel
theorem dX6_moveFirst_8 : decode cX6_moveFirst 8 = .ok (.aload_n 0, 1) := by decide +kernel
theorem dX6_moveFirst_9 : decode cX6_moveFirst 9 = .ok (.getfield 34, 3) := by decide +kernel
theorem dX6_moveFirst_12 : decode cX6_moveFirst 12 = .ok (.invokevirtual 60, 3) := by decide +kernel
theorem dX6_moveFirst_15 : decode cX6_moveFirst 15 = .ok (.istore_n 2, 1) := by decide +kernel
theorem dX6_moveFirst_16 : decode cX6_moveFirst 16 = .ok (.aload_n 0, 1) := by decide +kernel
theorem dX6_moveFirst_17 : decode cX6_moveFirst 17 = .ok (.getfield 9, 3) := by decide +kernel
theorem dX6_moveFirst_20 : decode cX6_moveFirst 20 = .ok (.iload_n 1, 1) := by decide +kernel
theorem dX6_moveFirst_21 : decode cX6_moveFirst 21 = .ok (.iaload, 1) := by decide +kernel
theorem dX6_moveFirst_22 : decode cX6_moveFirst 22 = .ok (.iconst 3, 1) := by decide +kernel
theorem dX6_moveFirst_23 : decode cX6_moveFirst 23 = .ok (.if_icmp .ne 9, 3) := by decide +kernel
theorem dX6_moveFirst_26 : decode cX6_moveFirst 26 = .ok (.aload_n 0, 1) := by decide +kernel
theorem dX6_moveFirst_27 : decode cX6_moveFirst 27 = .ok (.iload_n 2, 1) := by decide +kernel
theorem dX6_moveFirst_28 : decode cX6_moveFirst 28 = .ok (.invokevirtual 60, 3) := by decide +kernel
theorem dX6_moveFirst_31 : decode cX6_moveFirst 31 = .ok (.istore_n 2, 1) := by decide +kernel
theorem dX6_moveFirst_32 : decode cX6_moveFirst 32 = .ok (.aload_n 0, 1) := by decide +kernel
theorem dX6_moveFirst_33 : decode cX6_moveFirst 33 = .ok (.iload_n 1, 1) := by decide +kernel
theorem dX6_moveFirst_34 : decode cX6_moveFirst 34 = .ok (.invokevirtual 57, 3) := by decide +kernel
theorem dX6_moveFirst_37 : decode cX6_moveFirst 37 = .ok (.aload_n 0, 1) := by decide +kernel
theorem dX6_moveFirst_38 : decode cX6_moveFirst 38 = .ok (.getfield 15, 3) := by decide +kernel
theorem dX6_moveFirst_41 : decode cX6_moveFirst 41 = .ok (.iload_n 1, 1) := by decide +kernel
theorem dX6_moveFirst_42 : decode cX6_moveFirst 42 = .ok (.iload_n 2, 1) := by decide +kernel
theorem dX6_moveFirst_43 : decode cX6_moveFirst 43 = .ok (.iastore, 1) := by decide +kernel
theorem dX6_moveFirst_44 : decode cX6_moveFirst 44 = .ok (.aload_n 0, 1) := by decide +kernel
theorem dX6_moveFirst_45 : decode cX6_moveFirst 45 = .ok (.getfield 21, 3) := by decide +kernel
theorem dX6_moveFirst_48 : decode cX6_moveFirst 48 = .ok (.iload_n 2, 1) := by decide +kernel
theorem dX6_moveFirst_49 : decode cX6_moveFirst 49 = .ok (.iload_n 1, 1) := by decide +kernel
theorem dX6_moveFirst_50 : decode cX6_moveFirst 50 = .ok (.iastore, 1) := by decide +kernel
theorem dX6_moveFirst_51 : decode cX6_moveFirst 51 = .ok (.aload_n 0, 1) := by decide +kernel
theorem dX6_moveFirst_52 : decode cX6_moveFirst 52 = .ok (.iload_n 2, 1) := by decide +kernel
theorem dX6_moveFirst_53 : decode cX6_moveFirst 53 = .ok (.putfield 34, 3) := by decide +kernel
theorem dX6_moveFirst_56 : decode cX6_moveFirst 56 = .ok (.iconst 1, 1) := by decide +kernel
theorem dX6_moveFirst_57 : decode cX6_moveFirst 57 = .ok (.istore_n 3, 1) := by decide +kernel
theorem dX6_moveFirst_58 : decode cX6_moveFirst 58 = .ok (.iload_n 3, 1) := by decide +kernel
theorem dX6_moveFirst_59 : decode cX6_moveFirst 59 = .ok (.aload_n 0, 1) := by decide +kernel
theorem dX6_moveFirst_60 : decode cX6_moveFirst 60 = .ok (.getfield 30, 3) := by decide +kernel
theorem dX6_moveFirst_63 : decode cX6_moveFirst 63 = .ok (.if_icmp .ge 23, 3) := by decide +kernel
theorem dX6_moveFirst_66 : decode cX6_moveFirst 66 = .ok (.aload_n 0, 1) := by decide +kernel
theorem dX6_moveFirst_67 : decode cX6_moveFirst 67 = .ok (.getfield 18, 3) := by decide +kernel
theorem dX6_moveFirst_70 : decode cX6_moveFirst 70 = .ok (.iload_n 3, 1) := by decide +kernel
theorem dX6_moveFirst_71 : decode cX6_moveFirst 71 = .ok (.iconst 1, 1) := by decide +kernel
theorem dX6_moveFirst_72 : decode cX6_moveFirst 72 = .ok (.isub, 1) := by decide +kernel
theorem dX6_moveFirst_73 : decode cX6_moveFirst 73 = .ok (.aload_n 0, 1) := by decide +kernel
theorem dX6_moveFirst_74 : decode cX6_moveFirst 74 = .ok (.getfield 18, 3) := by decide +kernel
theorem dX6_moveFirst_77 : decode cX6_moveFirst 77 = .ok (.iload_n 3, 1) := by decide +kernel
theorem dX6_moveFirst_78 : decode cX6_moveFirst 78 = .ok (.iaload, 1) := by decide +kernel
theorem dX6_moveFirst_79 : decode cX6_moveFirst 79 = .ok (.iastore, 1) := by decide +kernel
theorem dX6_moveFirst_80 : decode cX6_moveFirst 80 = .ok (.iinc 3 1, 3) := by decide +kernel
theorem dX6_moveFirst_83 : decode cX6_moveFirst 83 = .ok (.goto (-25), 3) := by decide +kernel
theorem dX6_moveFirst_86 : decode cX6_moveFirst 86 = .ok (.aload_n 0, 1) := by decide +kernel
theorem dX6_moveFirst_87 : decode cX6_moveFirst 87 = .ok (.getfield 18, 3) := by decide +kernel
theorem dX6_moveFirst_90 : decode cX6_moveFirst 90 = .ok (.aload_n 0, 1) := by decide +kernel
theorem dX6_moveFirst_91 : decode cX6_moveFirst 91 = .ok (.getfield 30, 3) := by decide +kernel
theorem dX6_moveFirst_94 : decode cX6_moveFirst 94 = .ok (.iconst 1, 1) := by decide +kernel
theorem dX6_moveFirst_95 : decode cX6_moveFirst 95 = .ok (.isub, 1) := by decide +kernel
theorem dX6_moveFirst_96 : decode cX6_moveFirst 96 = .ok (.iload_n 1, 1) := by decide +kernel
theorem dX6_moveFirst_97 : decode cX6_moveFirst 97 = .ok (.iastore, 1) := by decide +kernel
theorem dX6_moveFirst_98 : decode cX6_moveFirst 98 = .ok (.return_, 1) := by decide +kernel
abbrev kwX6_moveFirst (cI cZ cG : ClassId) (q q_kindOf q_plotOf q_row q_standsOn : Nat) (v_houses : Int32) (v_front : Int32) (v_downFor : Int32) (v_row : (Nat → Int32)) (v_standsOn : (Nat → Int32)) (v_kindOf : (Nat → Int32)) (v_plotOf : (Nat → Int32)) : va_W := [(q, .inr (6, [.ref q_kindOf, .ref q_plotOf, .ref q_row, .ref q_standsOn, .int v_houses, .int v_front, .int v_downFor])), (q_row, .inl (cI, 6, .inl v_row)), (q_standsOn, .inl (cI, 12, .inl v_standsOn)), (q_kindOf, .inl (cI, 6, .inl v_kindOf)), (q_plotOf, .inl (cI, 6, .inl v_plotOf))]
noncomputable def fX6_moveFirst_58 (N : Nat) (v_houses : Int32) (v_kindOf : (Nat → Int32))  (K_58 : Int32 → Int32 → Int32 → (Nat → Int32) → (Nat → Int32) → (Nat → Int32) → Option (Int32 × (Nat → Int32) × (Nat → Int32) × (Nat → Int32))) (l1 : Int32) (l3 : Int32) (v_front : Int32) (v_row : (Nat → Int32)) (v_standsOn : (Nat → Int32)) (v_plotOf : (Nat → Int32)) : Option (Int32 × (Nat → Int32) × (Nat → Int32) × (Nat → Int32)) := if v_houses ≤ l3 then (if (v_houses - (1 : Int32)) < 0 ∨ 6 ≤ ((v_houses - (1 : Int32))).toNatClampNeg then none else (some (v_front, (upd v_row ((v_houses - (1 : Int32))).toNatClampNeg l1), v_standsOn, v_plotOf))) else (if l3 < 0 ∨ 6 ≤ (l3).toNatClampNeg then none else (if (l3 - (1 : Int32)) < 0 ∨ 6 ≤ ((l3 - (1 : Int32))).toNatClampNeg then none else (K_58 l1 (l3 + (1 : Int32)) v_front (upd v_row ((l3 - (1 : Int32))).toNatClampNeg (v_row (l3).toNatClampNeg)) v_standsOn v_plotOf)))
noncomputable def fX6_moveFirst_32 (N : Nat) (v_houses : Int32) (v_kindOf : (Nat → Int32))  (l1 : Int32) (l2 : Int32) (v_front : Int32) (v_row : (Nat → Int32)) (v_standsOn : (Nat → Int32)) (v_plotOf : (Nat → Int32)) : Option (Int32 × (Nat → Int32) × (Nat → Int32) × (Nat → Int32)) := (fX6_leavePlot N l1 v_plotOf v_standsOn).bind (fun x_34 => if l1 < 0 ∨ 6 ≤ (l1).toNatClampNeg then none else (if l2 < 0 ∨ 12 ≤ (l2).toNatClampNeg then none else (lfix (fun (K : Int32 × Int32 × Int32 × (Nat → Int32) × (Nat → Int32) × (Nat → Int32) → Option (Int32 × (Nat → Int32) × (Nat → Int32) × (Nat → Int32))) (a : Int32 × Int32 × Int32 × (Nat → Int32) × (Nat → Int32) × (Nat → Int32)) => fX6_moveFirst_58 N v_houses v_kindOf (fun (l1 : Int32) (l3 : Int32) (v_front : Int32) (v_row : (Nat → Int32)) (v_standsOn : (Nat → Int32)) (v_plotOf : (Nat → Int32)) => K (l1, l3, v_front, v_row, v_standsOn, v_plotOf)) a.1 a.2.1 a.2.2.1 a.2.2.2.1 a.2.2.2.2.1 a.2.2.2.2.2) N (l1, (1 : Int32), l2, v_row, (upd x_34.2 (l2).toNatClampNeg l1), (upd x_34.1 (l1).toNatClampNeg l2)))))
noncomputable def fX6_moveFirst (N : Nat) (v_houses : Int32) (v_kindOf : (Nat → Int32)) (v_front : Int32) (v_row : (Nat → Int32)) (v_standsOn : (Nat → Int32)) (v_plotOf : (Nat → Int32))  : Option (Int32 × (Nat → Int32) × (Nat → Int32) × (Nat → Int32)) := (fX6_freeBeyond N v_standsOn v_front).bind (fun x_12 => if (v_row ((0 : Int32)).toNatClampNeg) < 0 ∨ 6 ≤ ((v_row ((0 : Int32)).toNatClampNeg)).toNatClampNeg then none else (if (v_kindOf ((v_row ((0 : Int32)).toNatClampNeg)).toNatClampNeg) = (3 : Int32) then ((fX6_freeBeyond N v_standsOn x_12).bind (fun x_28 => fX6_moveFirst_32 N v_houses v_kindOf (v_row ((0 : Int32)).toNatClampNeg) x_28 v_front v_row v_standsOn v_plotOf)) else (fX6_moveFirst_32 N v_houses v_kindOf (v_row ((0 : Int32)).toNatClampNeg) x_12 v_front v_row v_standsOn v_plotOf)))
set_option maxHeartbeats 4000000 in
set_option maxRecDepth 100000 in
theorem wX6_moveFirst_58 {p : Program} {l : Launch} {e : Env} {R : Room} {s : State} {m : MethodId} {args : Array Value} {below : List Frame} {meth : Method} {c : Code} {cells slots : Nat} {Q : State → Prop} {D : va_G} {A : Nat → Prop} {cI cZ cG : ClassId} {q q_kindOf q_plotOf q_row q_standsOn : Nat} {v_houses : Int32} {v_downFor : Int32} {v_kindOf : (Nat → Int32)} {N : Nat} {ρ : Int32 × (Nat → Int32) × (Nat → Int32) × (Nat → Int32)} (X : CX p s m args c cX6_moveFirst 4 RX6 D (TY cI cZ cG) A) (hrm : RM R 1 23 cells slots) (ret : ∀ (pc : Nat) (H : Heap) (locs : List Loc) (ls : Array Slot), decode cX6_moveFirst pc = .ok (.return_, 1) → WD D A (kwX6_moveFirst cI cZ cG q q_kindOf q_plotOf q_row q_standsOn v_houses (ρ.1) v_downFor (ρ.2.1) (ρ.2.2.1) v_kindOf (ρ.2.2.2)) s.heap H locs → W p l e R s m args below meth c H locs cells slots Q (F0 m pc ls []))  : ∀ (n : Nat) (a : Int32 × Int32 × Int32 × (Nat → Int32) × (Nat → Int32) × (Nat → Int32)), lfix (fun (K : Int32 × Int32 × Int32 × (Nat → Int32) × (Nat → Int32) × (Nat → Int32) → Option (Int32 × (Nat → Int32) × (Nat → Int32) × (Nat → Int32))) (a : Int32 × Int32 × Int32 × (Nat → Int32) × (Nat → Int32) × (Nat → Int32)) => fX6_moveFirst_58 N v_houses v_kindOf (fun (l1 : Int32) (l3 : Int32) (v_front : Int32) (v_row : (Nat → Int32)) (v_standsOn : (Nat → Int32)) (v_plotOf : (Nat → Int32)) => K (l1, l3, v_front, v_row, v_standsOn, v_plotOf)) a.1 a.2.1 a.2.2.1 a.2.2.2.1 a.2.2.2.2.1 a.2.2.2.2.2) n a = some ρ → (fun (l1 : Int32) (l3 : Int32) (v_front : Int32) (v_row : (Nat → Int32)) (v_standsOn : (Nat → Int32)) (v_plotOf : (Nat → Int32)) => ∀ (H : Heap) (locs : List Loc) (ls : Array Slot), WD D A (kwX6_moveFirst cI cZ cG q q_kindOf q_plotOf q_row q_standsOn v_houses v_front v_downFor v_row v_standsOn v_kindOf v_plotOf) s.heap H locs → lv_has ls 4 [(0, .ref q), (1, .int l1), (3, .int l3)] → W p l e R s m args below meth c H locs cells slots Q (F0 m 58 ls [])) (a.1) (a.2.1) (a.2.2.1) (a.2.2.2.1) (a.2.2.2.2.1) (a.2.2.2.2.2) := by
  have hx := X.1.1
  have hb := X.1.2.1
  refine lfix_W (fun K hK a h => ?_)
  obtain ⟨l1, l3, v_front, v_row, v_standsOn, v_plotOf⟩ := a
  intro H locs ls hw hl
  have h : fX6_moveFirst_58 N v_houses v_kindOf (fun (l1 : Int32) (l3 : Int32) (v_front : Int32) (v_row : (Nat → Int32)) (v_standsOn : (Nat → Int32)) (v_plotOf : (Nat → Int32)) => K (l1, l3, v_front, v_row, v_standsOn, v_plotOf)) l1 l3 v_front v_row v_standsOn v_plotOf = some ρ := h
  have hK_58 : ∀ (l1 : Int32) (l3 : Int32) (v_front : Int32) (v_row : (Nat → Int32)) (v_standsOn : (Nat → Int32)) (v_plotOf : (Nat → Int32)), (fun (l1 : Int32) (l3 : Int32) (v_front : Int32) (v_row : (Nat → Int32)) (v_standsOn : (Nat → Int32)) (v_plotOf : (Nat → Int32)) => K (l1, l3, v_front, v_row, v_standsOn, v_plotOf)) l1 l3 v_front v_row v_standsOn v_plotOf = some ρ → ∀ (H : Heap) (locs : List Loc) (ls : Array Slot), WD D A (kwX6_moveFirst cI cZ cG q q_kindOf q_plotOf q_row q_standsOn v_houses v_front v_downFor v_row v_standsOn v_kindOf v_plotOf) s.heap H locs → lv_has ls 4 [(0, .ref q), (1, .int l1), (3, .int l3)] → W p l e R s m args below meth c H locs cells slots Q (F0 m 58 ls []) := fun l1 l3 v_front v_row v_standsOn v_plotOf h => hK (l1, l3, v_front, v_row, v_standsOn, v_plotOf) h
  generalize (fun (l1 : Int32) (l3 : Int32) (v_front : Int32) (v_row : (Nat → Int32)) (v_standsOn : (Nat → Int32)) (v_plotOf : (Nat → Int32)) => K (l1, l3, v_front, v_row, v_standsOn, v_plotOf)) = K_58 at h hK_58
  have hw : WD D A (kwX6_moveFirst cI cZ cG q q_kindOf q_plotOf q_row q_standsOn v_houses v_front v_downFor v_row v_standsOn v_kindOf v_plotOf) s.heap H locs := hw
  have hl : lv_has ls 4 [(0, .ref q), (1, .int l1), (3, .int l3)] := hl
  unfold fX6_moveFirst_58 at h
  refine lv_iload_n hx hb dX6_moveFirst_58 rfl (lv_at hl 2 rfl) ?_
  refine lv_aload_n hx hb dX6_moveFirst_59 rfl (lv_at hl 0 rfl) ?_
  refine kget (ci := 6) (v := .int v_houses) X hw iX6 0 rfl rfl 4 (by decide) tw_137 rfl dX6_moveFirst_60 ?_
  refine lv_icmp_ge (tgt := 86) hx hb dX6_moveFirst_63 (by decide) (fun c_63 => ?_) (fun c_63 => ?_)
  · have h := ift c_63 h
    refine lv_aload_n hx hb dX6_moveFirst_86 rfl (lv_at hl 0 rfl) ?_
    refine kget (ci := 6) (v := .ref q_row) X hw iX6 0 rfl rfl 2 (by decide) tw_145 rfl dX6_moveFirst_87 ?_
    refine lv_aload_n hx hb dX6_moveFirst_90 rfl (lv_at hl 0 rfl) ?_
    refine kget (ci := 6) (v := .int v_houses) X hw iX6 0 rfl rfl 4 (by decide) tw_137 rfl dX6_moveFirst_91 ?_
    refine lv_iconst (v := (1 : Int32)) hx hb dX6_moveFirst_94 (by decide) ?_
    refine lv_isub hx hb dX6_moveFirst_95 ?_
    refine lv_iload_n hx hb dX6_moveFirst_96 rfl (lv_at hl 1 rfl) ?_
    obtain ⟨g_97, h⟩ := gd h
    refine kiast X hw 1 rfl rfl g_97 dX6_moveFirst_97 (fun H locs hw => ?_)
    have hw : WD D A (kwX6_moveFirst cI cZ cG q q_kindOf q_plotOf q_row q_standsOn v_houses v_front v_downFor (upd v_row ((v_houses - (1 : Int32))).toNatClampNeg l1) v_standsOn v_kindOf v_plotOf) s.heap H locs := hw
    obtain rfl := Option.some.inj h
    exact ret _ _ _ _ dX6_moveFirst_98 hw
  · have h := iff_ c_63 h
    refine lv_aload_n hx hb dX6_moveFirst_66 rfl (lv_at hl 0 rfl) ?_
    refine kget (ci := 6) (v := .ref q_row) X hw iX6 0 rfl rfl 2 (by decide) tw_145 rfl dX6_moveFirst_67 ?_
    refine lv_iload_n hx hb dX6_moveFirst_70 rfl (lv_at hl 2 rfl) ?_
    refine lv_iconst (v := (1 : Int32)) hx hb dX6_moveFirst_71 (by decide) ?_
    refine lv_isub hx hb dX6_moveFirst_72 ?_
    refine lv_aload_n hx hb dX6_moveFirst_73 rfl (lv_at hl 0 rfl) ?_
    refine kget (ci := 6) (v := .ref q_row) X hw iX6 0 rfl rfl 2 (by decide) tw_145 rfl dX6_moveFirst_74 ?_
    refine lv_iload_n hx hb dX6_moveFirst_77 rfl (lv_at hl 2 rfl) ?_
    obtain ⟨g_78, h⟩ := gd h
    refine kiald X hw 1 rfl rfl g_78 dX6_moveFirst_78 ?_
    obtain ⟨g_79, h⟩ := gd h
    refine kiast X hw 1 rfl rfl g_79 dX6_moveFirst_79 (fun H locs hw => ?_)
    have hw : WD D A (kwX6_moveFirst cI cZ cG q q_kindOf q_plotOf q_row q_standsOn v_houses v_front v_downFor (upd v_row ((l3 - (1 : Int32))).toNatClampNeg (v_row (l3).toNatClampNeg)) v_standsOn v_kindOf v_plotOf) s.heap H locs := hw
    refine lv_iinc (v := (l3 + (1 : Int32))) (lv' := [(3, .int (l3 + (1 : Int32))), (0, .ref q), (1, .int l1)]) hx hb dX6_moveFirst_80 hl (k := 2) rfl (congrArg (l3 + ·) (by decide)) (by decide) rfl (fun ls hl => ?_)
    refine lv_goto (tgt := 58) hx hb dX6_moveFirst_83 (by decide) ?_
    exact hK_58 _ _ _ _ _ _ h _ _ _ hw (lv_sub hl [1, 2, 0] rfl)
set_option maxHeartbeats 4000000 in
set_option maxRecDepth 100000 in
theorem wX6_moveFirst_32 {p : Program} {l : Launch} {e : Env} {R : Room} {s : State} {m : MethodId} {args : Array Value} {below : List Frame} {meth : Method} {c : Code} {cells slots : Nat} {Q : State → Prop} {D : va_G} {A : Nat → Prop} {cI cZ cG : ClassId} {q q_kindOf q_plotOf q_row q_standsOn : Nat} {v_houses : Int32} {v_front : Int32} {v_downFor : Int32} {v_row : (Nat → Int32)} {v_standsOn : (Nat → Int32)} {v_kindOf : (Nat → Int32)} {v_plotOf : (Nat → Int32)} {N : Nat} {ρ : Int32 × (Nat → Int32) × (Nat → Int32) × (Nat → Int32)} (X : CX p s m args c cX6_moveFirst 4 RX6 D (TY cI cZ cG) A) (hrm : RM R 1 23 cells slots) (ret : ∀ (pc : Nat) (H : Heap) (locs : List Loc) (ls : Array Slot), decode cX6_moveFirst pc = .ok (.return_, 1) → WD D A (kwX6_moveFirst cI cZ cG q q_kindOf q_plotOf q_row q_standsOn v_houses (ρ.1) v_downFor (ρ.2.1) (ρ.2.2.1) v_kindOf (ρ.2.2.2)) s.heap H locs → W p l e R s m args below meth c H locs cells slots Q (F0 m pc ls []))  {l1 : Int32} {l2 : Int32} (h : fX6_moveFirst_32 N v_houses v_kindOf l1 l2 v_front v_row v_standsOn v_plotOf = some ρ) (H : Heap) (locs : List Loc) (ls : Array Slot) (hw : WD D A (kwX6_moveFirst cI cZ cG q q_kindOf q_plotOf q_row q_standsOn v_houses v_front v_downFor v_row v_standsOn v_kindOf v_plotOf) s.heap H locs) (hl : lv_has ls 4 [(0, .ref q), (1, .int l1), (2, .int l2)]) : W p l e R s m args below meth c H locs cells slots Q (F0 m 32 ls []) := by
  have hx := X.1.1
  have hb := X.1.2.1
  unfold fX6_moveFirst_32 at h
  refine lv_aload_n hx hb dX6_moveFirst_32 rfl (lv_at hl 0 rfl) ?_
  refine lv_iload_n hx hb dX6_moveFirst_33 rfl (lv_at hl 1 rfl) ?_
  obtain ⟨x_34, hc_34, h⟩ := obd h
  refine ksV_v (ws2 := (kwX6_moveFirst cI cZ cG q q_kindOf q_plotOf q_row q_standsOn v_houses v_front v_downFor v_row x_34.2 v_kindOf x_34.1)) (nW := 5) (ci := 6) (As := [.int l1]) (rest := []) X hw rfl rfl rfl (cX6_leavePlot_ct l D cI cZ cG q q_kindOf q_plotOf q_row q_standsOn v_houses v_front v_downFor v_plotOf v_standsOn l1 N x_34 hc_34 H.size) mX6_leavePlot tw_155 (hrm.call (by decide) (by decide)) [0, 4, 2] rfl (by decide) rfl (by decide) rfl ⟨rfl, ⟨rfl, trivial⟩⟩ rfl hl.1 rfl (Nat.le_of_ble_eq_true rfl) dX6_moveFirst_34 ⟨hrm.2.2.1, hrm.2.2.2⟩ (fun H locs hw => ?_)
  refine lv_aload_n hx hb dX6_moveFirst_37 rfl (lv_at hl 0 rfl) ?_
  refine kget (ci := 6) (v := .ref q_plotOf) X hw iX6 0 rfl rfl 1 (by decide) tw_114 rfl dX6_moveFirst_38 ?_
  refine lv_iload_n hx hb dX6_moveFirst_41 rfl (lv_at hl 1 rfl) ?_
  refine lv_iload_n hx hb dX6_moveFirst_42 rfl (lv_at hl 2 rfl) ?_
  obtain ⟨g_43, h⟩ := gd h
  refine kiast X hw 4 rfl rfl g_43 dX6_moveFirst_43 (fun H locs hw => ?_)
  have hw : WD D A (kwX6_moveFirst cI cZ cG q q_kindOf q_plotOf q_row q_standsOn v_houses v_front v_downFor v_row x_34.2 v_kindOf (upd x_34.1 (l1).toNatClampNeg l2)) s.heap H locs := hw
  refine lv_aload_n hx hb dX6_moveFirst_44 rfl (lv_at hl 0 rfl) ?_
  refine kget (ci := 6) (v := .ref q_standsOn) X hw iX6 0 rfl rfl 3 (by decide) tw_146 rfl dX6_moveFirst_45 ?_
  refine lv_iload_n hx hb dX6_moveFirst_48 rfl (lv_at hl 2 rfl) ?_
  refine lv_iload_n hx hb dX6_moveFirst_49 rfl (lv_at hl 1 rfl) ?_
  obtain ⟨g_50, h⟩ := gd h
  refine kiast X hw 2 rfl rfl g_50 dX6_moveFirst_50 (fun H locs hw => ?_)
  have hw : WD D A (kwX6_moveFirst cI cZ cG q q_kindOf q_plotOf q_row q_standsOn v_houses v_front v_downFor v_row (upd x_34.2 (l2).toNatClampNeg l1) v_kindOf (upd x_34.1 (l1).toNatClampNeg l2)) s.heap H locs := hw
  refine lv_aload_n hx hb dX6_moveFirst_51 rfl (lv_at hl 0 rfl) ?_
  refine lv_iload_n hx hb dX6_moveFirst_52 rfl (lv_at hl 2 rfl) ?_
  refine kput (ci := 6) (v := .int l2) (ty := .int) X hw iX6 tyX6_ok nmX6 0 rfl rfl 5 (by decide) tw_138 rfl rfl rfl rfl (Nat.le_of_ble_eq_true rfl) dX6_moveFirst_53 (fun H locs hw => ?_)
  have hw : WD D A (kwX6_moveFirst cI cZ cG q q_kindOf q_plotOf q_row q_standsOn v_houses l2 v_downFor v_row (upd x_34.2 (l2).toNatClampNeg l1) v_kindOf (upd x_34.1 (l1).toNatClampNeg l2)) s.heap H locs := hw
  refine lv_iconst (v := (1 : Int32)) hx hb dX6_moveFirst_56 (by decide) ?_
  refine lv_istore_n (lv' := [(3, .int (1 : Int32)), (0, .ref q), (1, .int l1), (2, .int l2)]) hx hb dX6_moveFirst_57 rfl hl (by decide) rfl (fun ls hl => ?_)
  exact wX6_moveFirst_58 X hrm ret  _ _ h _ _ _ hw (lv_sub hl [1, 2, 0] rfl)
set_option maxHeartbeats 4000000 in
set_option maxRecDepth 100000 in
theorem wX6_moveFirst {p : Program} {l : Launch} {e : Env} {R : Room} {s : State} {m : MethodId} {args : Array Value} {below : List Frame} {meth : Method} {c : Code} {cells slots : Nat} {Q : State → Prop} {D : va_G} {A : Nat → Prop} {cI cZ cG : ClassId} {q q_kindOf q_plotOf q_row q_standsOn : Nat} {v_houses : Int32} {v_front : Int32} {v_downFor : Int32} {v_row : (Nat → Int32)} {v_standsOn : (Nat → Int32)} {v_kindOf : (Nat → Int32)} {v_plotOf : (Nat → Int32)} {N : Nat} {ρ : Int32 × (Nat → Int32) × (Nat → Int32) × (Nat → Int32)} (X : CX p s m args c cX6_moveFirst 4 RX6 D (TY cI cZ cG) A) (hrm : RM R 1 23 cells slots) (ret : ∀ (pc : Nat) (H : Heap) (locs : List Loc) (ls : Array Slot), decode cX6_moveFirst pc = .ok (.return_, 1) → WD D A (kwX6_moveFirst cI cZ cG q q_kindOf q_plotOf q_row q_standsOn v_houses (ρ.1) v_downFor (ρ.2.1) (ρ.2.2.1) v_kindOf (ρ.2.2.2)) s.heap H locs → W p l e R s m args below meth c H locs cells slots Q (F0 m pc ls [])) (h : fX6_moveFirst N v_houses v_kindOf v_front v_row v_standsOn v_plotOf  = some ρ) (H : Heap) (locs : List Loc) (ls : Array Slot) (hw : WD D A (kwX6_moveFirst cI cZ cG q q_kindOf q_plotOf q_row q_standsOn v_houses v_front v_downFor v_row v_standsOn v_kindOf v_plotOf) s.heap H locs) (hl : lv_has ls 4 [(0, .ref q)]) : W p l e R s m args below meth c H locs cells slots Q (F0 m 0 ls []) := by
  have hx := X.1.1
  have hb := X.1.2.1
  unfold fX6_moveFirst at h
  refine lv_aload_n hx hb dX6_moveFirst_0 rfl (lv_at hl 0 rfl) ?_
  refine kget (ci := 6) (v := .ref q_row) X hw iX6 0 rfl rfl 2 (by decide) tw_145 rfl dX6_moveFirst_1 ?_
  refine lv_iconst (v := (0 : Int32)) hx hb dX6_moveFirst_4 (by decide) ?_
  refine kiald X hw 1 rfl rfl (by decide) dX6_moveFirst_5 ?_
  refine lv_istore_n (lv' := [(1, .int (v_row ((0 : Int32)).toNatClampNeg)), (0, .ref q)]) hx hb dX6_moveFirst_6 rfl hl (by decide) rfl (fun ls hl => ?_)
  refine lv_aload_n hx hb dX6_moveFirst_7 rfl (lv_at hl 1 rfl) ?_
  refine lv_aload_n hx hb dX6_moveFirst_8 rfl (lv_at hl 1 rfl) ?_
  refine kget (ci := 6) (v := .int v_front) X hw iX6 0 rfl rfl 5 (by decide) tw_138 rfl dX6_moveFirst_9 ?_
  obtain ⟨x_12, hc_12, h⟩ := obd h
  refine ksV_i (ws2 := (kwX6_moveFirst cI cZ cG q q_kindOf q_plotOf q_row q_standsOn v_houses v_front v_downFor v_row v_standsOn v_kindOf v_plotOf)) (nW := 5) (ci := 6) (As := [.int v_front]) (rest := []) X hw rfl rfl rfl (cX6_freeBeyond_ct l D cI cZ cG q q_kindOf q_plotOf q_row q_standsOn v_houses v_front v_downFor v_standsOn v_front N x_12 hc_12 H.size) mX6_freeBeyond tw_163 (hrm.call (by decide) (by decide)) [0, 2] rfl (by decide) rfl (by decide) rfl ⟨rfl, ⟨rfl, ⟨rfl, trivial⟩⟩⟩ rfl hl.1 rfl (Nat.le_of_ble_eq_true rfl) dX6_moveFirst_12 ⟨hrm.2.2.1, hrm.2.2.2⟩ (fun H locs hw => ?_)
  refine lv_istore_n (lv' := [(2, .int x_12), (1, .int (v_row ((0 : Int32)).toNatClampNeg)), (0, .ref q)]) hx hb dX6_moveFirst_15 rfl hl (by decide) rfl (fun ls hl => ?_)
  refine lv_aload_n hx hb dX6_moveFirst_16 rfl (lv_at hl 2 rfl) ?_
  refine kget (ci := 6) (v := .ref q_kindOf) X hw iX6 0 rfl rfl 0 (by decide) tw_140 rfl dX6_moveFirst_17 ?_
  refine lv_iload_n hx hb dX6_moveFirst_20 rfl (lv_at hl 1 rfl) ?_
  obtain ⟨g_21, h⟩ := gd h
  refine kiald X hw 3 rfl rfl g_21 dX6_moveFirst_21 ?_
  refine lv_iconst (v := (3 : Int32)) hx hb dX6_moveFirst_22 (by decide) ?_
  refine lv_icmp_ne (tgt := 32) hx hb dX6_moveFirst_23 (by decide) (fun c_23 => ?_) (fun c_23 => ?_)
  · have h := iff_ c_23 h
    exact wX6_moveFirst_32 X hrm ret  h _ _ _ hw (lv_sub hl [2, 1, 0] rfl)
  · have h := ift c_23 h
    refine lv_aload_n hx hb dX6_moveFirst_26 rfl (lv_at hl 2 rfl) ?_
    refine lv_iload_n hx hb dX6_moveFirst_27 rfl (lv_at hl 0 rfl) ?_
    obtain ⟨x_28, hc_28, h⟩ := obd h
    refine ksV_i (ws2 := (kwX6_moveFirst cI cZ cG q q_kindOf q_plotOf q_row q_standsOn v_houses v_front v_downFor v_row v_standsOn v_kindOf v_plotOf)) (nW := 5) (ci := 6) (As := [.int x_12]) (rest := []) X hw rfl rfl rfl (cX6_freeBeyond_ct l D cI cZ cG q q_kindOf q_plotOf q_row q_standsOn v_houses v_front v_downFor v_standsOn x_12 N x_28 hc_28 H.size) mX6_freeBeyond tw_163 (hrm.call (by decide) (by decide)) [0, 2] rfl (by decide) rfl (by decide) rfl ⟨rfl, ⟨rfl, ⟨rfl, trivial⟩⟩⟩ rfl hl.1 rfl (Nat.le_of_ble_eq_true rfl) dX6_moveFirst_28 ⟨hrm.2.2.1, hrm.2.2.2⟩ (fun H locs hw => ?_)
    refine lv_istore_n (lv' := [(2, .int x_28), (1, .int (v_row ((0 : Int32)).toNatClampNeg)), (0, .ref q)]) hx hb dX6_moveFirst_31 rfl hl (by decide) rfl (fun ls hl => ?_)
    exact wX6_moveFirst_32 X hrm ret  h _ _ _ hw (lv_sub hl [2, 1, 0] rfl)
set_option maxHeartbeats 4000000 in
set_option maxRecDepth 100000 in
theorem cX6_moveFirst_ct (l : Launch) (D : va_G) (cI cZ cG : ClassId) (q q_kindOf q_plotOf q_row q_standsOn : Nat)  (v_houses : Int32) (v_front : Int32) (v_downFor : Int32) (v_row : (Nat → Int32)) (v_standsOn : (Nat → Int32)) (v_kindOf : (Nat → Int32)) (v_plotOf : (Nat → Int32))  (N : Nat) (ρ : Int32 × (Nat → Int32) × (Nat → Int32) × (Nat → Int32)) (h : fX6_moveFirst N v_houses v_kindOf v_front v_row v_standsOn v_plotOf  = some ρ) (sz : Nat) : Met l yX6_moveFirst (wz yX6_moveFirst cX6_moveFirst 4 none) (cRm 1 23) (cPre D (TY cI cZ cG) [.ref q] (kwX6_moveFirst cI cZ cG q q_kindOf q_plotOf q_row q_standsOn v_houses v_front v_downFor v_row v_standsOn v_kindOf v_plotOf) sz) (cQv D (kwX6_moveFirst cI cZ cG q q_kindOf q_plotOf q_row q_standsOn v_houses v_front v_downFor v_row v_standsOn v_kindOf v_plotOf) (kwX6_moveFirst cI cZ cG q q_kindOf q_plotOf q_row q_standsOn v_houses (ρ.1) v_downFor (ρ.2.1) (ρ.2.2.1) v_kindOf (ρ.2.2.2)) sz) 0 0 (va_A (kwX6_moveFirst cI cZ cG q q_kindOf q_plotOf q_row q_standsOn v_houses v_front v_downFor v_row v_standsOn v_kindOf v_plotOf) sz) :=
  mk_v (by decide) (Nat.le_of_ble_eq_true rfl) (fun X hrm ret hw hl => wX6_moveFirst X hrm ret h _ _ _ hw hl)
theorem dX6_turn_0 : decode cX6_turn 0 = .ok (.aload_n 0, 1) := by decide +kernel
theorem dX6_turn_1 : decode cX6_turn 1 = .ok (.getfield 18, 3) := by decide +kernel
theorem dX6_turn_4 : decode cX6_turn 4 = .ok (.iconst 0, 1) := by decide +kernel
theorem dX6_turn_5 : decode cX6_turn 5 = .ok (.iaload, 1) := by decide +kernel
theorem dX6_turn_6 : decode cX6_turn 6 = .ok (.istore_n 1, 1) := by decide +kernel
theorem dX6_turn_7 : decode cX6_turn 7 = .ok (.aload_n 0, 1) := by decide +kernel
theorem dX6_turn_8 : decode cX6_turn 8 = .ok (.getfield 37, 3) := by decide +kernel
theorem dX6_turn_11 : decode cX6_turn 11 = .ok (.iconst 1, 1) := by decide +kernel
theorem dX6_turn_12 : decode cX6_turn 12 = .ok (.if_icmp .le 15, 3) := by decide +kernel
theorem dX6_turn_15 : decode cX6_turn 15 = .ok (.aload_n 0, 1) := by decide +kernel
theorem dX6_turn_16 : decode cX6_turn 16 = .ok (.dup, 1) := by decide +kernel
theorem dX6_turn_17 : decode cX6_turn 17 = .ok (.getfield 37, 3) := by decide +kernel
theorem dX6_turn_20 : decode cX6_turn 20 = .ok (.iconst 1, 1) := by decide +kernel
theorem dX6_turn_21 : decode cX6_turn 21 = .ok (.isub, 1) := by decide +kernel
theorem dX6_turn_22 : decode cX6_turn 22 = .ok (.putfield 37, 3) := by decide +kernel
theorem dX6_turn_25 : decode cX6_turn 25 = .ok (.iconst 0, 1) := by decide +kernel
theorem dX6_turn_26 : decode cX6_turn 26 = .ok (.ireturn, 1) := by decide +kernel
theorem dX6_turn_27 : decode cX6_turn 27 = .ok (.aload_n 0, 1) := by decide +kernel
theorem dX6_turn_28 : decode cX6_turn 28 = .ok (.getfield 37, 3) := by decide +kernel
theorem dX6_turn_31 : decode cX6_turn 31 = .ok (.ifCond .ne 23, 3) := by decide +kernel
theorem dX6_turn_34 : decode cX6_turn 34 = .ok (.aload_n 0, 1) := by decide +kernel
theorem dX6_turn_35 : decode cX6_turn 35 = .ok (.getfield 9, 3) := by decide +kernel
theorem dX6_turn_38 : decode cX6_turn 38 = .ok (.iload_n 1, 1) := by decide +kernel
theorem dX6_turn_39 : decode cX6_turn 39 = .ok (.iaload, 1) := by decide +kernel
theorem dX6_turn_40 : decode cX6_turn 40 = .ok (.invokestatic 46, 3) := by decide +kernel
theorem dX6_turn_43 : decode cX6_turn 43 = .ok (.iconst 1, 1) := by decide +kernel
theorem dX6_turn_44 : decode cX6_turn 44 = .ok (.if_icmp .le 10, 3) := by decide +kernel
theorem dX6_turn_47 : decode cX6_turn 47 = .ok (.aload_n 0, 1) := by decide +kernel
theorem dX6_turn_48 : decode cX6_turn 48 = .ok (.iload_n 1, 1) := by decide +kernel
theorem dX6_turn_49 : decode cX6_turn 49 = .ok (.invokevirtual 50, 3) := by decide +kernel
theorem dX6_turn_52 : decode cX6_turn 52 = .ok (.iconst 1, 1) := by decide +kernel
theorem dX6_turn_53 : decode cX6_turn 53 = .ok (.ireturn, 1) := by decide +kernel
theorem dX6_turn_54 : decode cX6_turn 54 = .ok (.aload_n 0, 1) := by decide +kernel
theorem dX6_turn_55 : decode cX6_turn 55 = .ok (.iconst 0, 1) := by decide +kernel
theorem dX6_turn_56 : decode cX6_turn 56 = .ok (.putfield 37, 3) := by decide +kernel
theorem dX6_turn_59 : decode cX6_turn 59 = .ok (.aload_n 0, 1) := by decide +kernel
theorem dX6_turn_60 : decode cX6_turn 60 = .ok (.invokevirtual 54, 3) := by decide +kernel
theorem dX6_turn_63 : decode cX6_turn 63 = .ok (.aload_n 0, 1) := by decide +kernel
theorem dX6_turn_64 : decode cX6_turn 64 = .ok (.getfield 9, 3) := by decide +kernel
theorem dX6_turn_67 : decode cX6_turn 67 = .ok (.iload_n 1, 1) := by decide +kernel
theorem dX6_turn_68 : decode cX6_turn 68 = .ok (.iaload, 1) := by decide +kernel
theorem dX6_turn_69 : decode cX6_turn 69 = .ok (.iconst 2, 1) := by decide +kernel
theorem dX6_turn_70 : decode cX6_turn 70 = .ok (.if_icmp .eq 5, 3) := by decide +kernel
theorem dX6_turn_73 : decode cX6_turn 73 = .ok (.iconst 1, 1) := by decide +kernel
theorem dX6_turn_74 : decode cX6_turn 74 = .ok (.ireturn, 1) := by decide +kernel
theorem dX6_turn_75 : decode cX6_turn 75 = .ok (.aload_n 0, 1) := by decide +kernel
theorem dX6_turn_76 : decode cX6_turn 76 = .ok (.invokevirtual 54, 3) := by decide +kernel
theorem dX6_turn_79 : decode cX6_turn 79 = .ok (.iconst 2, 1) := by decide +kernel
theorem dX6_turn_80 : decode cX6_turn 80 = .ok (.ireturn, 1) := by decide +kernel
abbrev kwX6_turn (cI cZ cG : ClassId) (q q_kindOf q_plotOf q_row q_standsOn : Nat) (v_houses : Int32) (v_front : Int32) (v_downFor : Int32) (v_row : (Nat → Int32)) (v_kindOf : (Nat → Int32)) (v_plotOf : (Nat → Int32)) (v_standsOn : (Nat → Int32)) : va_W := [(q, .inr (6, [.ref q_kindOf, .ref q_plotOf, .ref q_row, .ref q_standsOn, .int v_houses, .int v_front, .int v_downFor])), (q_row, .inl (cI, 6, .inl v_row)), (q_kindOf, .inl (cI, 6, .inl v_kindOf)), (q_plotOf, .inl (cI, 6, .inl v_plotOf)), (q_standsOn, .inl (cI, 12, .inl v_standsOn))]
noncomputable def fX6_turn_54 (N : Nat) (v_houses : Int32) (v_kindOf : (Nat → Int32))  (l1 : Int32) (v_front : Int32) (v_downFor : Int32) (v_row : (Nat → Int32)) (v_plotOf : (Nat → Int32)) (v_standsOn : (Nat → Int32)) : Option (Int32 × Int32 × Int32 × (Nat → Int32) × (Nat → Int32) × (Nat → Int32)) := (fX6_moveFirst N v_houses v_kindOf v_front v_row v_standsOn v_plotOf).bind (fun x_60 => if l1 < 0 ∨ 6 ≤ (l1).toNatClampNeg then none else (if (v_kindOf (l1).toNatClampNeg) = (2 : Int32) then ((fX6_moveFirst N v_houses v_kindOf x_60.1 x_60.2.1 x_60.2.2.1 x_60.2.2.2).bind (fun x_76 => some ((2 : Int32), x_76.1, (0 : Int32), x_76.2.1, x_76.2.2.2, x_76.2.2.1))) else (some ((1 : Int32), x_60.1, (0 : Int32), x_60.2.1, x_60.2.2.2, x_60.2.2.1))))
noncomputable def fX6_turn (N : Nat) (v_houses : Int32) (v_kindOf : (Nat → Int32)) (v_front : Int32) (v_downFor : Int32) (v_row : (Nat → Int32)) (v_plotOf : (Nat → Int32)) (v_standsOn : (Nat → Int32))  : Option (Int32 × Int32 × Int32 × (Nat → Int32) × (Nat → Int32) × (Nat → Int32)) := if v_downFor ≤ (1 : Int32) then (if v_downFor = 0 then (if (v_row ((0 : Int32)).toNatClampNeg) < 0 ∨ 6 ≤ ((v_row ((0 : Int32)).toNatClampNeg)).toNatClampNeg then none else ((fX6_nightsFor N (v_kindOf ((v_row ((0 : Int32)).toNatClampNeg)).toNatClampNeg)).bind (fun x_40 => if x_40 ≤ (1 : Int32) then (fX6_turn_54 N v_houses v_kindOf (v_row ((0 : Int32)).toNatClampNeg) v_front v_downFor v_row v_plotOf v_standsOn) else ((fX6_takeDown N v_kindOf (v_row ((0 : Int32)).toNatClampNeg) v_downFor v_plotOf v_standsOn).bind (fun x_49 => some ((1 : Int32), v_front, x_49.1, v_row, x_49.2.1, x_49.2.2)))))) else (fX6_turn_54 N v_houses v_kindOf (v_row ((0 : Int32)).toNatClampNeg) v_front v_downFor v_row v_plotOf v_standsOn)) else (some ((0 : Int32), v_front, (v_downFor - (1 : Int32)), v_row, v_plotOf, v_standsOn))
set_option maxHeartbeats 4000000 in
set_option maxRecDepth 100000 in
theorem wX6_turn_54 {p : Program} {l : Launch} {e : Env} {R : Room} {s : State} {m : MethodId} {args : Array Value} {below : List Frame} {meth : Method} {c : Code} {cells slots : Nat} {Q : State → Prop} {D : va_G} {A : Nat → Prop} {cI cZ cG : ClassId} {q q_kindOf q_plotOf q_row q_standsOn : Nat} {v_houses : Int32} {v_front : Int32} {v_downFor : Int32} {v_row : (Nat → Int32)} {v_kindOf : (Nat → Int32)} {v_plotOf : (Nat → Int32)} {v_standsOn : (Nat → Int32)} {N : Nat} {ρ : Int32 × Int32 × Int32 × (Nat → Int32) × (Nat → Int32) × (Nat → Int32)} (X : CX p s m args c cX6_turn 2 RX6 D (TY cI cZ cG) A) (hrm : RM R 2 46 cells slots) (ret : ∀ (pc : Nat) (H : Heap) (locs : List Loc) (ls : Array Slot), decode cX6_turn pc = .ok (.ireturn, 1) → WD D A (kwX6_turn cI cZ cG q q_kindOf q_plotOf q_row q_standsOn v_houses (ρ.2.1) (ρ.2.2.1) (ρ.2.2.2.1) v_kindOf (ρ.2.2.2.2.1) (ρ.2.2.2.2.2)) s.heap H locs → W p l e R s m args below meth c H locs cells slots Q (F0 m pc ls [.int ρ.1]))  {l1 : Int32} (h : fX6_turn_54 N v_houses v_kindOf l1 v_front v_downFor v_row v_plotOf v_standsOn = some ρ) (H : Heap) (locs : List Loc) (ls : Array Slot) (hw : WD D A (kwX6_turn cI cZ cG q q_kindOf q_plotOf q_row q_standsOn v_houses v_front v_downFor v_row v_kindOf v_plotOf v_standsOn) s.heap H locs) (hl : lv_has ls 2 [(0, .ref q), (1, .int l1)]) : W p l e R s m args below meth c H locs cells slots Q (F0 m 54 ls []) := by
  have hx := X.1.1
  have hb := X.1.2.1
  unfold fX6_turn_54 at h
  refine lv_aload_n hx hb dX6_turn_54 rfl (lv_at hl 0 rfl) ?_
  refine lv_iconst (v := (0 : Int32)) hx hb dX6_turn_55 (by decide) ?_
  refine kput (ci := 6) (v := .int (0 : Int32)) (ty := .int) X hw iX6 tyX6_ok nmX6 0 rfl rfl 6 (by decide) tw_139 rfl rfl rfl rfl (Nat.le_of_ble_eq_true rfl) dX6_turn_56 (fun H locs hw => ?_)
  have hw : WD D A (kwX6_turn cI cZ cG q q_kindOf q_plotOf q_row q_standsOn v_houses v_front (0 : Int32) v_row v_kindOf v_plotOf v_standsOn) s.heap H locs := hw
  refine lv_aload_n hx hb dX6_turn_59 rfl (lv_at hl 0 rfl) ?_
  obtain ⟨x_60, hc_60, h⟩ := obd h
  refine ksV_v (ws2 := (kwX6_turn cI cZ cG q q_kindOf q_plotOf q_row q_standsOn v_houses x_60.1 (0 : Int32) x_60.2.1 v_kindOf x_60.2.2.2 x_60.2.2.1)) (nW := 5) (ci := 6) (As := []) (rest := []) X hw rfl rfl rfl (cX6_moveFirst_ct l D cI cZ cG q q_kindOf q_plotOf q_row q_standsOn v_houses v_front (0 : Int32) v_row v_standsOn v_kindOf v_plotOf N x_60 hc_60 H.size) mX6_moveFirst tw_167 (hrm.call (by decide) (by decide)) [0, 1, 4, 2, 3] rfl (by decide) rfl (by decide) rfl trivial rfl hl.1 rfl (Nat.le_of_ble_eq_true rfl) dX6_turn_60 ⟨hrm.2.2.1, hrm.2.2.2⟩ (fun H locs hw => ?_)
  refine lv_aload_n hx hb dX6_turn_63 rfl (lv_at hl 0 rfl) ?_
  refine kget (ci := 6) (v := .ref q_kindOf) X hw iX6 0 rfl rfl 0 (by decide) tw_140 rfl dX6_turn_64 ?_
  refine lv_iload_n hx hb dX6_turn_67 rfl (lv_at hl 1 rfl) ?_
  obtain ⟨g_68, h⟩ := gd h
  refine kiald X hw 2 rfl rfl g_68 dX6_turn_68 ?_
  refine lv_iconst (v := (2 : Int32)) hx hb dX6_turn_69 (by decide) ?_
  refine lv_icmp_eq (tgt := 75) hx hb dX6_turn_70 (by decide) (fun c_70 => ?_) (fun c_70 => ?_)
  · have h := ift c_70 h
    refine lv_aload_n hx hb dX6_turn_75 rfl (lv_at hl 0 rfl) ?_
    obtain ⟨x_76, hc_76, h⟩ := obd h
    refine ksV_v (ws2 := (kwX6_turn cI cZ cG q q_kindOf q_plotOf q_row q_standsOn v_houses x_76.1 (0 : Int32) x_76.2.1 v_kindOf x_76.2.2.2 x_76.2.2.1)) (nW := 5) (ci := 6) (As := []) (rest := []) X hw rfl rfl rfl (cX6_moveFirst_ct l D cI cZ cG q q_kindOf q_plotOf q_row q_standsOn v_houses x_60.1 (0 : Int32) x_60.2.1 x_60.2.2.1 v_kindOf x_60.2.2.2 N x_76 hc_76 H.size) mX6_moveFirst tw_167 (hrm.call (by decide) (by decide)) [0, 1, 4, 2, 3] rfl (by decide) rfl (by decide) rfl trivial rfl hl.1 rfl (Nat.le_of_ble_eq_true rfl) dX6_turn_76 ⟨hrm.2.2.1, hrm.2.2.2⟩ (fun H locs hw => ?_)
    refine lv_iconst (v := (2 : Int32)) hx hb dX6_turn_79 (by decide) ?_
    obtain rfl := Option.some.inj h
    exact ret _ _ _ _ dX6_turn_80 hw
  · have h := iff_ c_70 h
    refine lv_iconst (v := (1 : Int32)) hx hb dX6_turn_73 (by decide) ?_
    obtain rfl := Option.some.inj h
    exact ret _ _ _ _ dX6_turn_74 hw
set_option maxHeartbeats 4000000 in
set_option maxRecDepth 100000 in
theorem wX6_turn {p : Program} {l : Launch} {e : Env} {R : Room} {s : State} {m : MethodId} {args : Array Value} {below : List Frame} {meth : Method} {c : Code} {cells slots : Nat} {Q : State → Prop} {D : va_G} {A : Nat → Prop} {cI cZ cG : ClassId} {q q_kindOf q_plotOf q_row q_standsOn : Nat} {v_houses : Int32} {v_front : Int32} {v_downFor : Int32} {v_row : (Nat → Int32)} {v_kindOf : (Nat → Int32)} {v_plotOf : (Nat → Int32)} {v_standsOn : (Nat → Int32)} {N : Nat} {ρ : Int32 × Int32 × Int32 × (Nat → Int32) × (Nat → Int32) × (Nat → Int32)} (X : CX p s m args c cX6_turn 2 RX6 D (TY cI cZ cG) A) (hrm : RM R 2 46 cells slots) (ret : ∀ (pc : Nat) (H : Heap) (locs : List Loc) (ls : Array Slot), decode cX6_turn pc = .ok (.ireturn, 1) → WD D A (kwX6_turn cI cZ cG q q_kindOf q_plotOf q_row q_standsOn v_houses (ρ.2.1) (ρ.2.2.1) (ρ.2.2.2.1) v_kindOf (ρ.2.2.2.2.1) (ρ.2.2.2.2.2)) s.heap H locs → W p l e R s m args below meth c H locs cells slots Q (F0 m pc ls [.int ρ.1])) (h : fX6_turn N v_houses v_kindOf v_front v_downFor v_row v_plotOf v_standsOn  = some ρ) (H : Heap) (locs : List Loc) (ls : Array Slot) (hw : WD D A (kwX6_turn cI cZ cG q q_kindOf q_plotOf q_row q_standsOn v_houses v_front v_downFor v_row v_kindOf v_plotOf v_standsOn) s.heap H locs) (hl : lv_has ls 2 [(0, .ref q)]) : W p l e R s m args below meth c H locs cells slots Q (F0 m 0 ls []) := by
  have hx := X.1.1
  have hb := X.1.2.1
  unfold fX6_turn at h
  refine lv_aload_n hx hb dX6_turn_0 rfl (lv_at hl 0 rfl) ?_
  refine kget (ci := 6) (v := .ref q_row) X hw iX6 0 rfl rfl 2 (by decide) tw_145 rfl dX6_turn_1 ?_
  refine lv_iconst (v := (0 : Int32)) hx hb dX6_turn_4 (by decide) ?_
  refine kiald X hw 1 rfl rfl (by decide) dX6_turn_5 ?_
  refine lv_istore_n (lv' := [(1, .int (v_row ((0 : Int32)).toNatClampNeg)), (0, .ref q)]) hx hb dX6_turn_6 rfl hl (by decide) rfl (fun ls hl => ?_)
  refine lv_aload_n hx hb dX6_turn_7 rfl (lv_at hl 1 rfl) ?_
  refine kget (ci := 6) (v := .int v_downFor) X hw iX6 0 rfl rfl 6 (by decide) tw_139 rfl dX6_turn_8 ?_
  refine lv_iconst (v := (1 : Int32)) hx hb dX6_turn_11 (by decide) ?_
  refine lv_icmp_le (tgt := 27) hx hb dX6_turn_12 (by decide) (fun c_12 => ?_) (fun c_12 => ?_)
  · have h := ift c_12 h
    refine lv_aload_n hx hb dX6_turn_27 rfl (lv_at hl 1 rfl) ?_
    refine kget (ci := 6) (v := .int v_downFor) X hw iX6 0 rfl rfl 6 (by decide) tw_139 rfl dX6_turn_28 ?_
    refine lv_if_ne (tgt := 54) hx hb dX6_turn_31 (by decide) (fun c_31 => ?_) (fun c_31 => ?_)
    · have h := iff_ c_31 h
      exact wX6_turn_54 X hrm ret  h _ _ _ hw (lv_sub hl [1, 0] rfl)
    · have h := ift c_31 h
      refine lv_aload_n hx hb dX6_turn_34 rfl (lv_at hl 1 rfl) ?_
      refine kget (ci := 6) (v := .ref q_kindOf) X hw iX6 0 rfl rfl 0 (by decide) tw_140 rfl dX6_turn_35 ?_
      refine lv_iload_n hx hb dX6_turn_38 rfl (lv_at hl 0 rfl) ?_
      obtain ⟨g_39, h⟩ := gd h
      refine kiald X hw 2 rfl rfl g_39 dX6_turn_39 ?_
      obtain ⟨x_40, hc_40, h⟩ := obd h
      refine ksS_i (ws2 := (kwX6_turn cI cZ cG q q_kindOf q_plotOf q_row q_standsOn v_houses v_front v_downFor v_row v_kindOf v_plotOf v_standsOn)) (nW := 5) (As := [.int (v_kindOf ((v_row ((0 : Int32)).toNatClampNeg)).toNatClampNeg)]) (rest := []) X hw (cX6_nightsFor_ct l D cI cZ cG (v_kindOf ((v_row ((0 : Int32)).toNatClampNeg)).toNatClampNeg) N x_40 hc_40 H.size) mX6_nightsFor tw_156 (hrm.call (by decide) (by decide)) [] rfl (by decide) rfl (by decide) rfl ⟨rfl, ⟨rfl, ⟨rfl, ⟨rfl, ⟨rfl, trivial⟩⟩⟩⟩⟩ rfl hl.1 rfl (Nat.le_of_ble_eq_true rfl) dX6_turn_40 ⟨hrm.2.2.1, hrm.2.2.2⟩ (fun H locs hw => ?_)
      refine lv_iconst (v := (1 : Int32)) hx hb dX6_turn_43 (by decide) ?_
      refine lv_icmp_le (tgt := 54) hx hb dX6_turn_44 (by decide) (fun c_44 => ?_) (fun c_44 => ?_)
      · have h := ift c_44 h
        exact wX6_turn_54 X hrm ret  h _ _ _ hw (lv_sub hl [1, 0] rfl)
      · have h := iff_ c_44 h
        refine lv_aload_n hx hb dX6_turn_47 rfl (lv_at hl 1 rfl) ?_
        refine lv_iload_n hx hb dX6_turn_48 rfl (lv_at hl 0 rfl) ?_
        obtain ⟨x_49, hc_49, h⟩ := obd h
        refine ksV_v (ws2 := (kwX6_turn cI cZ cG q q_kindOf q_plotOf q_row q_standsOn v_houses v_front x_49.1 v_row v_kindOf x_49.2.1 x_49.2.2)) (nW := 5) (ci := 6) (As := [.int (v_row ((0 : Int32)).toNatClampNeg)]) (rest := []) X hw rfl rfl rfl (cX6_takeDown_ct l D cI cZ cG q q_kindOf q_plotOf q_row q_standsOn v_houses v_front v_downFor v_plotOf v_standsOn v_kindOf (v_row ((0 : Int32)).toNatClampNeg) N x_49 hc_49 H.size) mX6_takeDown tw_168 (hrm.call (by decide) (by decide)) [0, 3, 4, 2] rfl (by decide) rfl (by decide) rfl ⟨rfl, trivial⟩ rfl hl.1 rfl (Nat.le_of_ble_eq_true rfl) dX6_turn_49 ⟨hrm.2.2.1, hrm.2.2.2⟩ (fun H locs hw => ?_)
        refine lv_iconst (v := (1 : Int32)) hx hb dX6_turn_52 (by decide) ?_
        obtain rfl := Option.some.inj h
        exact ret _ _ _ _ dX6_turn_53 hw
  · have h := iff_ c_12 h
    refine lv_aload_n hx hb dX6_turn_15 rfl (lv_at hl 1 rfl) ?_
    refine lv_dup hx hb dX6_turn_16 rfl ?_
    refine kget (ci := 6) (v := .int v_downFor) X hw iX6 0 rfl rfl 6 (by decide) tw_139 rfl dX6_turn_17 ?_
    refine lv_iconst (v := (1 : Int32)) hx hb dX6_turn_20 (by decide) ?_
    refine lv_isub hx hb dX6_turn_21 ?_
    refine kput (ci := 6) (v := .int (v_downFor - (1 : Int32))) (ty := .int) X hw iX6 tyX6_ok nmX6 0 rfl rfl 6 (by decide) tw_139 rfl rfl rfl rfl (Nat.le_of_ble_eq_true rfl) dX6_turn_22 (fun H locs hw => ?_)
    have hw : WD D A (kwX6_turn cI cZ cG q q_kindOf q_plotOf q_row q_standsOn v_houses v_front (v_downFor - (1 : Int32)) v_row v_kindOf v_plotOf v_standsOn) s.heap H locs := hw
    refine lv_iconst (v := (0 : Int32)) hx hb dX6_turn_25 (by decide) ?_
    obtain rfl := Option.some.inj h
    exact ret _ _ _ _ dX6_turn_26 hw
set_option maxHeartbeats 4000000 in
set_option maxRecDepth 100000 in
theorem cX6_turn_ct (l : Launch) (D : va_G) (cI cZ cG : ClassId) (q q_kindOf q_plotOf q_row q_standsOn : Nat)  (v_houses : Int32) (v_front : Int32) (v_downFor : Int32) (v_row : (Nat → Int32)) (v_kindOf : (Nat → Int32)) (v_plotOf : (Nat → Int32)) (v_standsOn : (Nat → Int32))  (N : Nat) (ρ : Int32 × Int32 × Int32 × (Nat → Int32) × (Nat → Int32) × (Nat → Int32)) (h : fX6_turn N v_houses v_kindOf v_front v_downFor v_row v_plotOf v_standsOn  = some ρ) (sz : Nat) : Met l yX6_turn (wz yX6_turn cX6_turn 2 (some .int)) (cRm 2 46) (cPre D (TY cI cZ cG) [.ref q] (kwX6_turn cI cZ cG q q_kindOf q_plotOf q_row q_standsOn v_houses v_front v_downFor v_row v_kindOf v_plotOf v_standsOn) sz) (cQi D (ρ.1) (kwX6_turn cI cZ cG q q_kindOf q_plotOf q_row q_standsOn v_houses v_front v_downFor v_row v_kindOf v_plotOf v_standsOn) (kwX6_turn cI cZ cG q q_kindOf q_plotOf q_row q_standsOn v_houses (ρ.2.1) (ρ.2.2.1) (ρ.2.2.2.1) v_kindOf (ρ.2.2.2.2.1) (ρ.2.2.2.2.2)) sz) 0 0 (va_A (kwX6_turn cI cZ cG q q_kindOf q_plotOf q_row q_standsOn v_houses v_front v_downFor v_row v_kindOf v_plotOf v_standsOn) sz) :=
  mk_i (by decide) (Nat.le_of_ble_eq_true rfl) (fun X hrm ret hw hl => wX6_turn X hrm ret h _ _ _ hw hl)
