/-! a call's cells put back at their places: the other cells are the same ones -/
def agr : List Bool → va_W → va_W → Prop
  | true :: fs, _ :: w, _ :: w' => agr fs w w'
  | false :: fs, a :: w, b :: w' => a = b ∧ agr fs w w'
  | [], [], [] => True
  | _, _, _ => False
theorem agr_get {q : Nat × va_E} : ∀ (fs : List Bool) (w w' : va_W), agr fs w w' → ∀ (k : Nat), w'[k]? = some q → fs[k]? = some true ∨ (fs[k]? = some false ∧ w[k]? = some q)
  | [], [], [], _, k, h => by simp at h
  | [], [], _ :: _, h, _, _ => by cases h
  | [], _ :: _, _, h, _, _ => by cases h
  | true :: _, [], _, h, _, _ => by cases h
  | true :: _, _ :: _, [], h, _, _ => by cases h
  | false :: _, [], _, h, _, _ => by cases h
  | false :: _, _ :: _, [], h, _, _ => by cases h
  | true :: fs, a :: w, b :: w', h, 0, hk => Or.inl rfl
  | true :: fs, a :: w, b :: w', h, k + 1, hk => by
    have h' : agr fs w w' := h
    simpa using agr_get fs w w' h' k (by simpa using hk)
  | false :: fs, a :: w, b :: w', h, 0, hk => by
    have h' : a = b := h.1
    refine Or.inr ⟨rfl, ?_⟩
    rw [h']
    simpa using hk
  | false :: fs, a :: w, b :: w', h, k + 1, hk => by
    have h' : agr fs w w' := h.2
    simpa using agr_get fs w w' h' k (by simpa using hk)
theorem va_D_by {A : Nat → Prop} {ws ws' : va_W} (key : ∀ (k : Nat) (q : Nat × va_E), ws'[k]? = some q → ∃ p, ws[k]? = some p ∧ p.1 = q.1) (hD : va_D A ws) : va_D A ws' := by
  refine ⟨fun i j p q hi hj e => ?_, fun k q hk => ?_⟩
  · obtain ⟨p', hp', ep⟩ := key i p hi
    obtain ⟨q', hq', eq⟩ := key j q hj
    exact hD.1 i j p' q' hp' hq' (by rw [ep, eq, e])
  · obtain ⟨p', hp', ep⟩ := key k q hk
    rw [← ep]
    exact hD.2 k p' hp'
theorem va_agr {A0 : Nat → Prop} {D : va_G} {cl : List vw_C} {ws ws' wc w1 : va_W} {H H1 : Heap} (hP : va_P D cl ws H) (hD : va_D A0 ws) (isC : List Nat) (fs : List Bool) (hC : isC.map (fun i => ws[i]?) = wc.map some) (hC1 : isC.map (fun i => ws'[i]?) = w1.map some) (had : w1.map (·.1) = wc.map (·.1)) (hag : agr fs ws ws') (hfs : ∀ k, fs[k]? = some true → k ∈ isC) (hsf : ∀ k ∈ isC, fs[k]? = some true)
    (hk : ∀ q : Nat, q < H.size → ¬ va_A wc H.size q → H1[q]? = H[q]?) (hP1 : va_P D cl w1 H1) : va_P D cl ws' H1 ∧ va_D A0 ws' := by
  have inC : ∀ (k : Nat) (q : Nat × va_E), k ∈ isC → ws'[k]? = some q → ∃ j p, w1[j]? = some q ∧ ws[k]? = some p ∧ p.1 = q.1 := fun k q hkc hq => by
    obtain ⟨j, hj⟩ := List.getElem?_of_mem hkc
    have h1 : (isC.map (fun i => ws'[i]?))[j]? = some (some q) := by rw [List.getElem?_map, hj, Option.map_some, hq]
    rw [hC1, List.getElem?_map] at h1
    obtain ⟨q', hq', e⟩ := Option.map_eq_some_iff.mp h1
    cases e
    have h2 : (w1.map (·.1))[j]? = some q.1 := by rw [List.getElem?_map, hq']; rfl
    rw [had, List.getElem?_map] at h2
    obtain ⟨p, hp, ep⟩ := Option.map_eq_some_iff.mp h2
    have h3 : (wc.map some)[j]? = some (some p) := by rw [List.getElem?_map, hp]; rfl
    rw [← hC, List.getElem?_map, hj, Option.map_some] at h3
    exact ⟨j, p, hq', Option.some.inj h3, ep⟩
  refine ⟨fun k q hkq => ?_, va_D_by (fun k q hkq => ?_) hD⟩
  · rcases agr_get fs ws ws' hag k hkq with h1 | ⟨h1, h2⟩
    · obtain ⟨j, p, hj, -, -⟩ := inC k q (hfs k h1) hkq
      exact hP1 j q hj
    · have hlt := (hP k q h2).lt
      refine (hP k q h2).kept (hk q.1 hlt ?_)
      rintro (⟨j, e, hj⟩ | hsz)
      · have h3 : (isC.map (fun i => ws[i]?))[j]? = some (some (q.1, e)) := by rw [hC, List.getElem?_map, hj]; rfl
        rw [List.getElem?_map] at h3
        obtain ⟨i, hi, hw⟩ := Option.map_eq_some_iff.mp h3
        have e9 := hD.1 k i q (q.1, e) h2 hw rfl
        have h4 := hsf i (List.mem_of_getElem? hi)
        rw [← e9, h1] at h4
        cases h4
      · omega
  · rcases agr_get fs ws ws' hag k hkq with h1 | ⟨h1, h2⟩
    · obtain ⟨j, p, -, hp, ep⟩ := inC k q (hfs k h1) hkq
      exact ⟨p, hp, ep⟩
    · exact ⟨q, h2, rfl⟩
/-- flags and places say the same -/
def flg (n : Nat) (isC : List Nat) : List Bool := (List.range n).map (fun i => decide (i ∈ isC))
theorem flg_1 {n : Nat} {isC : List Nat} : ∀ k, (flg n isC)[k]? = some true → k ∈ isC := fun k h => by
  unfold flg at h
  rw [List.getElem?_map] at h
  obtain ⟨i, hi, e⟩ := Option.map_eq_some_iff.mp h
  have : i = k := by
    by_cases hk : k < n
    · rw [List.getElem?_range hk] at hi
      exact (Option.some.inj hi).symm
    · rw [List.getElem?_eq_none (by rw [List.length_range]; omega)] at hi
      cases hi
  rw [← this]
  exact of_decide_eq_true e
theorem flg_2 {n : Nat} {isC : List Nat} (h : isC.all (fun i => decide (i < n)) = true) : ∀ k ∈ isC, (flg n isC)[k]? = some true := fun k hk => by
  have hn := of_decide_eq_true (List.all_eq_true.mp h k hk)
  unfold flg
  rw [List.getElem?_map, List.getElem?_range hn, Option.map_some, decide_eq_true hk]
section KS
variable {p : Program} {l : Launch} {e : Env} {R : Room} {s : State} {m : MethodId} {args : Array Value} {below : List Frame} {meth : Method} {c : Code} {H : Heap} {locs : List Loc} {cells slots : Nat} {Q : State → Prop}
variable {cc : ByteArray} {pc nL : Nat} {ls : Array Slot} {rest : List Value} {D : va_G} {A : Nat → Prop} {a : Nat} {tys : List (ClassId × FieldType)} {ws : va_W} {own : String}
theorem ES_recv (X : CX p s m args c cc nL own D tys A) (hw : WD D A ws s.heap H locs) : ∃ cellB : Cell, H[D.2 100 1]? = some cellB ∧ cellB.vm.isStatics = false ∧ s.vm.findClass "java/lang/String" = some cellB.cls := by
  obtain ⟨cell, h1, h2, h3, h4⟩ := X.2.2.2.2.2.2.1
  exact ⟨cell, by rw [hw.2.2.2.1 _ (Array.getElem?_eq_some_iff.mp h1).1 h4]; exact h1, h2, h3⟩
theorem ksV_i {index maxL f n k : Nat} {y : MethodName} {bytes : ByteArray} {ret : Option FieldType} {As st : List Value} {wc w1 ws2 : va_W} {nW : Nat} {r : Int32} (X : CX p s m args c cc nL own D tys A) (hw : WD D A ws s.heap H locs)
    {C : String} {qC : vw_C} {ci : Nat} {fs : List Value} (hq : wc[0]? = some (a, .inr (ci, fs))) (hc : vwCl[ci]? = some qC) (hcC : qC.1 = C) (hM : Met l y (wz y bytes maxL ret) (cRm f n) (cPre D tys (.ref a :: As) wc H.size) (cQi D r wc w1 H.size) 0 0 (va_A wc H.size)) (hm : MV y C bytes maxL ret k) (hlk : Cond.methodLink own index y ∈ TT) (hrm : f + 1 ≤ R.frames ∧ 8 + (maxL + 11) + n ≤ R.locals)
    (isC : List Nat) (hC : isC.map (fun i => ws[i]?) = wc.map some) (hnC : va_nd isC = true) (had : w1.map (·.1) = wc.map (·.1)) (hnW : isC.all (fun i => decide (i < nW)) = true) (hC1 : isC.map (fun i => ws2[i]?) = w1.map some) (hag : agr (flg nW isC) ws ws2)
    (hk : As.length = k) (hsz : ls.size = nL) (hst : st = As.reverse ++ .ref a :: rest) (hW8 : (rest.map fun v => v.category).sum ≤ 8) (hdg : decode cc pc = .ok (.invokevirtual index, 3)) (hcs : cells ≤ R.cells ∧ slots ≤ R.slots)
    (kk : ∀ (H1 : Heap) (locs1 : List Loc), WD D A ws2 s.heap H1 locs1 → W p l e R s m args below meth c H1 locs1 cells slots Q (F0 m (pc + 3) ls (.int r :: rest))) : W p l e R s m args below meth c H locs cells slots Q (F0 m pc ls st) := by
  have hPc : va_P D vwCl wc H := hw.1.sub isC (fm_of_map hC)
  have hDc : va_D A wc := hw.2.1.sub isC hnC hC
  have hFc := va_free (wc := wc) hw.2.1 hw.2.2 X.2.2.1 isC hC
  subst hst
  refine va_calli (va_runV (As := As) (rest := rest) X.1 hM (cwV k X.1.2.2.2.2 (gV hlk hm) rfl rfl rfl hm.2.2.2.2 hrm) ⟨cPre_blind, by rw [← hcC]; exact va_recv X.2.1.1 hPc hc hq, fun U hU hW => ⟨rfl, by rw [hU], by rw [hU]; exact hPc, X.2.1.warm hW, hDc.weaken (fun _ _ _ _ => trivial), X.2.2.2.call hw.2.2 hW hU hFc⟩⟩ rfl hk hsz rfl (lv_room hW8) hdg ⟨hcs.1, hcs.2⟩) hw.2.2 (fun q _ h => hFc q h) hFc (fun r' u t H1 locs1 ht hvm hpost hB hz1 hk1 hS => ?_)
  obtain rfl := hpost
  obtain ⟨hP1, hD1⟩ := hB
  rw [ht] at hP1
  obtain ⟨hP2, hD2⟩ := va_agr hw.1 hw.2.1 isC (flg nW isC) hC hC1 had hag flg_1 (flg_2 hnW) hk1 hP1
  exact kk H1 locs1 ⟨hP2, hD2, hS⟩
theorem ksV_l {index maxL f n k : Nat} {y : MethodName} {bytes : ByteArray} {ret : Option FieldType} {As st : List Value} {wc w1 ws2 : va_W} {nW : Nat} {r : Int64} (X : CX p s m args c cc nL own D tys A) (hw : WD D A ws s.heap H locs)
    {C : String} {qC : vw_C} {ci : Nat} {fs : List Value} (hq : wc[0]? = some (a, .inr (ci, fs))) (hc : vwCl[ci]? = some qC) (hcC : qC.1 = C) (hM : Met l y (wz y bytes maxL ret) (cRm f n) (cPre D tys (.ref a :: As) wc H.size) (cQl D r wc w1 H.size) 0 0 (va_A wc H.size)) (hm : MV y C bytes maxL ret k) (hlk : Cond.methodLink own index y ∈ TT) (hrm : f + 1 ≤ R.frames ∧ 8 + (maxL + 11) + n ≤ R.locals)
    (isC : List Nat) (hC : isC.map (fun i => ws[i]?) = wc.map some) (hnC : va_nd isC = true) (had : w1.map (·.1) = wc.map (·.1)) (hnW : isC.all (fun i => decide (i < nW)) = true) (hC1 : isC.map (fun i => ws2[i]?) = w1.map some) (hag : agr (flg nW isC) ws ws2)
    (hk : As.length = k) (hsz : ls.size = nL) (hst : st = As.reverse ++ .ref a :: rest) (hW8 : (rest.map fun v => v.category).sum ≤ 8) (hdg : decode cc pc = .ok (.invokevirtual index, 3)) (hcs : cells ≤ R.cells ∧ slots ≤ R.slots)
    (kk : ∀ (H1 : Heap) (locs1 : List Loc), WD D A ws2 s.heap H1 locs1 → W p l e R s m args below meth c H1 locs1 cells slots Q (F0 m (pc + 3) ls (.long r :: rest))) : W p l e R s m args below meth c H locs cells slots Q (F0 m pc ls st) := by
  have hPc : va_P D vwCl wc H := hw.1.sub isC (fm_of_map hC)
  have hDc : va_D A wc := hw.2.1.sub isC hnC hC
  have hFc := va_free (wc := wc) hw.2.1 hw.2.2 X.2.2.1 isC hC
  subst hst
  refine va_calll (va_runV (As := As) (rest := rest) X.1 hM (cwV k X.1.2.2.2.2 (gV hlk hm) rfl rfl rfl hm.2.2.2.2 hrm) ⟨cPre_blind, by rw [← hcC]; exact va_recv X.2.1.1 hPc hc hq, fun U hU hW => ⟨rfl, by rw [hU], by rw [hU]; exact hPc, X.2.1.warm hW, hDc.weaken (fun _ _ _ _ => trivial), X.2.2.2.call hw.2.2 hW hU hFc⟩⟩ rfl hk hsz rfl (lv_room hW8) hdg ⟨hcs.1, hcs.2⟩) hw.2.2 (fun q _ h => hFc q h) hFc (fun r' u t H1 locs1 ht hvm hpost hB hz1 hk1 hS => ?_)
  obtain rfl := hpost
  obtain ⟨hP1, hD1⟩ := hB
  rw [ht] at hP1
  obtain ⟨hP2, hD2⟩ := va_agr hw.1 hw.2.1 isC (flg nW isC) hC hC1 had hag flg_1 (flg_2 hnW) hk1 hP1
  exact kk H1 locs1 ⟨hP2, hD2, hS⟩
theorem ksV_v {index maxL f n k : Nat} {y : MethodName} {bytes : ByteArray} {As st : List Value} {wc w1 ws2 : va_W} {nW : Nat} (X : CX p s m args c cc nL own D tys A) (hw : WD D A ws s.heap H locs)
    {C : String} {qC : vw_C} {ci : Nat} {fs : List Value} (hq : wc[0]? = some (a, .inr (ci, fs))) (hc : vwCl[ci]? = some qC) (hcC : qC.1 = C) (hM : Met l y (wz y bytes maxL none) (cRm f n) (cPre D tys (.ref a :: As) wc H.size) (cQv D wc w1 H.size) 0 0 (va_A wc H.size)) (hm : MV y C bytes maxL none k) (hlk : Cond.methodLink own index y ∈ TT) (hrm : f + 1 ≤ R.frames ∧ 8 + (maxL + 11) + n ≤ R.locals)
    (isC : List Nat) (hC : isC.map (fun i => ws[i]?) = wc.map some) (hnC : va_nd isC = true) (had : w1.map (·.1) = wc.map (·.1)) (hnW : isC.all (fun i => decide (i < nW)) = true) (hC1 : isC.map (fun i => ws2[i]?) = w1.map some) (hag : agr (flg nW isC) ws ws2)
    (hk : As.length = k) (hsz : ls.size = nL) (hst : st = As.reverse ++ .ref a :: rest) (hW8 : (rest.map fun v => v.category).sum ≤ 8) (hdg : decode cc pc = .ok (.invokevirtual index, 3)) (hcs : cells ≤ R.cells ∧ slots ≤ R.slots)
    (kk : ∀ (H1 : Heap) (locs1 : List Loc), WD D A ws2 s.heap H1 locs1 → W p l e R s m args below meth c H1 locs1 cells slots Q (F0 m (pc + 3) ls (rest))) : W p l e R s m args below meth c H locs cells slots Q (F0 m pc ls st) := by
  have hPc : va_P D vwCl wc H := hw.1.sub isC (fm_of_map hC)
  have hDc : va_D A wc := hw.2.1.sub isC hnC hC
  have hFc := va_free (wc := wc) hw.2.1 hw.2.2 X.2.2.1 isC hC
  subst hst
  refine va_callv (va_runV (As := As) (rest := rest) X.1 hM (cwV k X.1.2.2.2.2 (gV hlk hm) rfl rfl rfl hm.2.2.2.2 hrm) ⟨cPre_blind, by rw [← hcC]; exact va_recv X.2.1.1 hPc hc hq, fun U hU hW => ⟨rfl, by rw [hU], by rw [hU]; exact hPc, X.2.1.warm hW, hDc.weaken (fun _ _ _ _ => trivial), X.2.2.2.call hw.2.2 hW hU hFc⟩⟩ rfl hk hsz rfl (lv_room hW8) hdg ⟨hcs.1, hcs.2⟩) hw.2.2 (fun q _ h => hFc q h) hFc (fun u t H1 locs1 ht hvm hpost hB hz1 hk1 hS => ?_)
  obtain ⟨hP1, hD1⟩ := hB
  rw [ht] at hP1
  obtain ⟨hP2, hD2⟩ := va_agr hw.1 hw.2.1 isC (flg nW isC) hC hC1 had hag flg_1 (flg_2 hnW) hk1 hP1
  exact kk H1 locs1 ⟨hP2, hD2, hS⟩
theorem ksS_i {index maxL f n k : Nat} {y : MethodName} {bytes : ByteArray} {ret : Option FieldType} {As st : List Value} {wc w1 ws2 : va_W} {nW : Nat} {r : Int32} (X : CX p s m args c cc nL own D tys A) (hw : WD D A ws s.heap H locs)
    (hM : Met l y (wz y bytes maxL ret) (cRm f n) (cPre D tys As wc H.size) (cQi D r wc w1 H.size) 0 0 (va_A wc H.size)) (hm : MS y bytes maxL ret k) (hlk : Cond.methodLink own index y ∈ TT) (hrm : f + 1 ≤ R.frames ∧ 8 + (maxL + 11) + n ≤ R.locals)
    (isC : List Nat) (hC : isC.map (fun i => ws[i]?) = wc.map some) (hnC : va_nd isC = true) (had : w1.map (·.1) = wc.map (·.1)) (hnW : isC.all (fun i => decide (i < nW)) = true) (hC1 : isC.map (fun i => ws2[i]?) = w1.map some) (hag : agr (flg nW isC) ws ws2)
    (hk : As.length = k) (hsz : ls.size = nL) (hst : st = As.reverse ++ rest) (hW8 : (rest.map fun v => v.category).sum ≤ 8) (hdg : decode cc pc = .ok (.invokestatic index, 3)) (hcs : cells ≤ R.cells ∧ slots ≤ R.slots)
    (kk : ∀ (H1 : Heap) (locs1 : List Loc), WD D A ws2 s.heap H1 locs1 → W p l e R s m args below meth c H1 locs1 cells slots Q (F0 m (pc + 3) ls (.int r :: rest))) : W p l e R s m args below meth c H locs cells slots Q (F0 m pc ls st) := by
  have hPc : va_P D vwCl wc H := hw.1.sub isC (fm_of_map hC)
  have hDc : va_D A wc := hw.2.1.sub isC hnC hC
  have hFc := va_free (wc := wc) hw.2.1 hw.2.2 X.2.2.1 isC hC
  subst hst
  refine va_calli (va_runS (As := As) (rest := rest) X.1 hM (va_cwS k X.1.2.2.2.2 (gS hlk hm) rfl rfl rfl hm.2.2.2 hrm) ⟨cPre_blind, fun U hU hW => ⟨rfl, by rw [hU], by rw [hU]; exact hPc, X.2.1.warm hW, hDc.weaken (fun _ _ _ _ => trivial), X.2.2.2.call hw.2.2 hW hU hFc⟩⟩ rfl hk hsz rfl (lv_room hW8) hdg ⟨hcs.1, hcs.2⟩) hw.2.2 (fun q _ h => hFc q h) hFc (fun r' u t H1 locs1 ht hvm hpost hB hz1 hk1 hS => ?_)
  obtain rfl := hpost
  obtain ⟨hP1, hD1⟩ := hB
  rw [ht] at hP1
  obtain ⟨hP2, hD2⟩ := va_agr hw.1 hw.2.1 isC (flg nW isC) hC hC1 had hag flg_1 (flg_2 hnW) hk1 hP1
  exact kk H1 locs1 ⟨hP2, hD2, hS⟩
theorem ksS_l {index maxL f n k : Nat} {y : MethodName} {bytes : ByteArray} {ret : Option FieldType} {As st : List Value} {wc w1 ws2 : va_W} {nW : Nat} {r : Int64} (X : CX p s m args c cc nL own D tys A) (hw : WD D A ws s.heap H locs)
    (hM : Met l y (wz y bytes maxL ret) (cRm f n) (cPre D tys As wc H.size) (cQl D r wc w1 H.size) 0 0 (va_A wc H.size)) (hm : MS y bytes maxL ret k) (hlk : Cond.methodLink own index y ∈ TT) (hrm : f + 1 ≤ R.frames ∧ 8 + (maxL + 11) + n ≤ R.locals)
    (isC : List Nat) (hC : isC.map (fun i => ws[i]?) = wc.map some) (hnC : va_nd isC = true) (had : w1.map (·.1) = wc.map (·.1)) (hnW : isC.all (fun i => decide (i < nW)) = true) (hC1 : isC.map (fun i => ws2[i]?) = w1.map some) (hag : agr (flg nW isC) ws ws2)
    (hk : As.length = k) (hsz : ls.size = nL) (hst : st = As.reverse ++ rest) (hW8 : (rest.map fun v => v.category).sum ≤ 8) (hdg : decode cc pc = .ok (.invokestatic index, 3)) (hcs : cells ≤ R.cells ∧ slots ≤ R.slots)
    (kk : ∀ (H1 : Heap) (locs1 : List Loc), WD D A ws2 s.heap H1 locs1 → W p l e R s m args below meth c H1 locs1 cells slots Q (F0 m (pc + 3) ls (.long r :: rest))) : W p l e R s m args below meth c H locs cells slots Q (F0 m pc ls st) := by
  have hPc : va_P D vwCl wc H := hw.1.sub isC (fm_of_map hC)
  have hDc : va_D A wc := hw.2.1.sub isC hnC hC
  have hFc := va_free (wc := wc) hw.2.1 hw.2.2 X.2.2.1 isC hC
  subst hst
  refine va_calll (va_runS (As := As) (rest := rest) X.1 hM (va_cwS k X.1.2.2.2.2 (gS hlk hm) rfl rfl rfl hm.2.2.2 hrm) ⟨cPre_blind, fun U hU hW => ⟨rfl, by rw [hU], by rw [hU]; exact hPc, X.2.1.warm hW, hDc.weaken (fun _ _ _ _ => trivial), X.2.2.2.call hw.2.2 hW hU hFc⟩⟩ rfl hk hsz rfl (lv_room hW8) hdg ⟨hcs.1, hcs.2⟩) hw.2.2 (fun q _ h => hFc q h) hFc (fun r' u t H1 locs1 ht hvm hpost hB hz1 hk1 hS => ?_)
  obtain rfl := hpost
  obtain ⟨hP1, hD1⟩ := hB
  rw [ht] at hP1
  obtain ⟨hP2, hD2⟩ := va_agr hw.1 hw.2.1 isC (flg nW isC) hC hC1 had hag flg_1 (flg_2 hnW) hk1 hP1
  exact kk H1 locs1 ⟨hP2, hD2, hS⟩
theorem ksS_v {index maxL f n k : Nat} {y : MethodName} {bytes : ByteArray} {As st : List Value} {wc w1 ws2 : va_W} {nW : Nat} (X : CX p s m args c cc nL own D tys A) (hw : WD D A ws s.heap H locs)
    (hM : Met l y (wz y bytes maxL none) (cRm f n) (cPre D tys As wc H.size) (cQv D wc w1 H.size) 0 0 (va_A wc H.size)) (hm : MS y bytes maxL none k) (hlk : Cond.methodLink own index y ∈ TT) (hrm : f + 1 ≤ R.frames ∧ 8 + (maxL + 11) + n ≤ R.locals)
    (isC : List Nat) (hC : isC.map (fun i => ws[i]?) = wc.map some) (hnC : va_nd isC = true) (had : w1.map (·.1) = wc.map (·.1)) (hnW : isC.all (fun i => decide (i < nW)) = true) (hC1 : isC.map (fun i => ws2[i]?) = w1.map some) (hag : agr (flg nW isC) ws ws2)
    (hk : As.length = k) (hsz : ls.size = nL) (hst : st = As.reverse ++ rest) (hW8 : (rest.map fun v => v.category).sum ≤ 8) (hdg : decode cc pc = .ok (.invokestatic index, 3)) (hcs : cells ≤ R.cells ∧ slots ≤ R.slots)
    (kk : ∀ (H1 : Heap) (locs1 : List Loc), WD D A ws2 s.heap H1 locs1 → W p l e R s m args below meth c H1 locs1 cells slots Q (F0 m (pc + 3) ls (rest))) : W p l e R s m args below meth c H locs cells slots Q (F0 m pc ls st) := by
  have hPc : va_P D vwCl wc H := hw.1.sub isC (fm_of_map hC)
  have hDc : va_D A wc := hw.2.1.sub isC hnC hC
  have hFc := va_free (wc := wc) hw.2.1 hw.2.2 X.2.2.1 isC hC
  subst hst
  refine va_callv (va_runS (As := As) (rest := rest) X.1 hM (va_cwS k X.1.2.2.2.2 (gS hlk hm) rfl rfl rfl hm.2.2.2 hrm) ⟨cPre_blind, fun U hU hW => ⟨rfl, by rw [hU], by rw [hU]; exact hPc, X.2.1.warm hW, hDc.weaken (fun _ _ _ _ => trivial), X.2.2.2.call hw.2.2 hW hU hFc⟩⟩ rfl hk hsz rfl (lv_room hW8) hdg ⟨hcs.1, hcs.2⟩) hw.2.2 (fun q _ h => hFc q h) hFc (fun u t H1 locs1 ht hvm hpost hB hz1 hk1 hS => ?_)
  obtain ⟨hP1, hD1⟩ := hB
  rw [ht] at hP1
  obtain ⟨hP2, hD2⟩ := va_agr hw.1 hw.2.1 isC (flg nW isC) hC hC1 had hag flg_1 (flg_2 hnW) hk1 hP1
  exact kk H1 locs1 ⟨hP2, hD2, hS⟩
theorem ksSN_i {index maxL f n k : Nat} {y : MethodName} {bytes : ByteArray} {ret : Option FieldType} {As st : List Value} {wc w1 ws2 : va_W} {nW : Nat} {r : Int32} (X : CX p s m args c cc nL own D tys A) (hw : WD D A ws s.heap H locs)
    (hM : Met l y (wz y bytes maxL ret) (cRm f n) (cPre D tys As wc H.size) (cQi D r wc w1 H.size) 0 0 (va_A wc H.size)) (hm : MS y bytes maxL ret k) {host : String} (hlk : (own, index, y, host) ∈ nestM) (hrm : f + 1 ≤ R.frames ∧ 8 + (maxL + 11) + n ≤ R.locals)
    (isC : List Nat) (hC : isC.map (fun i => ws[i]?) = wc.map some) (hnC : va_nd isC = true) (had : w1.map (·.1) = wc.map (·.1)) (hnW : isC.all (fun i => decide (i < nW)) = true) (hC1 : isC.map (fun i => ws2[i]?) = w1.map some) (hag : agr (flg nW isC) ws ws2)
    (hk : As.length = k) (hsz : ls.size = nL) (hst : st = As.reverse ++ rest) (hW8 : (rest.map fun v => v.category).sum ≤ 8) (hdg : decode cc pc = .ok (.invokestatic index, 3)) (hcs : cells ≤ R.cells ∧ slots ≤ R.slots)
    (kk : ∀ (H1 : Heap) (locs1 : List Loc), WD D A ws2 s.heap H1 locs1 → W p l e R s m args below meth c H1 locs1 cells slots Q (F0 m (pc + 3) ls (.int r :: rest))) : W p l e R s m args below meth c H locs cells slots Q (F0 m pc ls st) := by
  have hPc : va_P D vwCl wc H := hw.1.sub isC (fm_of_map hC)
  have hDc : va_D A wc := hw.2.1.sub isC hnC hC
  have hFc := va_free (wc := wc) hw.2.1 hw.2.2 X.2.2.1 isC hC
  subst hst
  refine va_calli (va_runSN (As := As) (rest := rest) X.1 hM ⟨va_cnB k X.1.2.2.2.2 (wz_good hm.1) rfl rfl rfl (X.2.1.2.1 _ hlk) (X.1.2.2.2.2 _ hm.2.2.1) hm.2.2.2 hrm, X.1.2.2.2.2 _ hm.2.1, trivial⟩ ⟨cPre_blind, fun U hU hW => ⟨rfl, by rw [hU], by rw [hU]; exact hPc, X.2.1.warm hW, hDc.weaken (fun _ _ _ _ => trivial), X.2.2.2.call hw.2.2 hW hU hFc⟩⟩ rfl hk hsz rfl (lv_room hW8) hdg ⟨hcs.1, hcs.2⟩) hw.2.2 (fun q _ h => hFc q h) hFc (fun r' u t H1 locs1 ht hvm hpost hB hz1 hk1 hS => ?_)
  obtain rfl := hpost
  obtain ⟨hP1, hD1⟩ := hB
  rw [ht] at hP1
  obtain ⟨hP2, hD2⟩ := va_agr hw.1 hw.2.1 isC (flg nW isC) hC hC1 had hag flg_1 (flg_2 hnW) hk1 hP1
  exact kk H1 locs1 ⟨hP2, hD2, hS⟩
theorem ksSN_l {index maxL f n k : Nat} {y : MethodName} {bytes : ByteArray} {ret : Option FieldType} {As st : List Value} {wc w1 ws2 : va_W} {nW : Nat} {r : Int64} (X : CX p s m args c cc nL own D tys A) (hw : WD D A ws s.heap H locs)
    (hM : Met l y (wz y bytes maxL ret) (cRm f n) (cPre D tys As wc H.size) (cQl D r wc w1 H.size) 0 0 (va_A wc H.size)) (hm : MS y bytes maxL ret k) {host : String} (hlk : (own, index, y, host) ∈ nestM) (hrm : f + 1 ≤ R.frames ∧ 8 + (maxL + 11) + n ≤ R.locals)
    (isC : List Nat) (hC : isC.map (fun i => ws[i]?) = wc.map some) (hnC : va_nd isC = true) (had : w1.map (·.1) = wc.map (·.1)) (hnW : isC.all (fun i => decide (i < nW)) = true) (hC1 : isC.map (fun i => ws2[i]?) = w1.map some) (hag : agr (flg nW isC) ws ws2)
    (hk : As.length = k) (hsz : ls.size = nL) (hst : st = As.reverse ++ rest) (hW8 : (rest.map fun v => v.category).sum ≤ 8) (hdg : decode cc pc = .ok (.invokestatic index, 3)) (hcs : cells ≤ R.cells ∧ slots ≤ R.slots)
    (kk : ∀ (H1 : Heap) (locs1 : List Loc), WD D A ws2 s.heap H1 locs1 → W p l e R s m args below meth c H1 locs1 cells slots Q (F0 m (pc + 3) ls (.long r :: rest))) : W p l e R s m args below meth c H locs cells slots Q (F0 m pc ls st) := by
  have hPc : va_P D vwCl wc H := hw.1.sub isC (fm_of_map hC)
  have hDc : va_D A wc := hw.2.1.sub isC hnC hC
  have hFc := va_free (wc := wc) hw.2.1 hw.2.2 X.2.2.1 isC hC
  subst hst
  refine va_calll (va_runSN (As := As) (rest := rest) X.1 hM ⟨va_cnB k X.1.2.2.2.2 (wz_good hm.1) rfl rfl rfl (X.2.1.2.1 _ hlk) (X.1.2.2.2.2 _ hm.2.2.1) hm.2.2.2 hrm, X.1.2.2.2.2 _ hm.2.1, trivial⟩ ⟨cPre_blind, fun U hU hW => ⟨rfl, by rw [hU], by rw [hU]; exact hPc, X.2.1.warm hW, hDc.weaken (fun _ _ _ _ => trivial), X.2.2.2.call hw.2.2 hW hU hFc⟩⟩ rfl hk hsz rfl (lv_room hW8) hdg ⟨hcs.1, hcs.2⟩) hw.2.2 (fun q _ h => hFc q h) hFc (fun r' u t H1 locs1 ht hvm hpost hB hz1 hk1 hS => ?_)
  obtain rfl := hpost
  obtain ⟨hP1, hD1⟩ := hB
  rw [ht] at hP1
  obtain ⟨hP2, hD2⟩ := va_agr hw.1 hw.2.1 isC (flg nW isC) hC hC1 had hag flg_1 (flg_2 hnW) hk1 hP1
  exact kk H1 locs1 ⟨hP2, hD2, hS⟩
theorem ksSN_v {index maxL f n k : Nat} {y : MethodName} {bytes : ByteArray} {As st : List Value} {wc w1 ws2 : va_W} {nW : Nat} (X : CX p s m args c cc nL own D tys A) (hw : WD D A ws s.heap H locs)
    (hM : Met l y (wz y bytes maxL none) (cRm f n) (cPre D tys As wc H.size) (cQv D wc w1 H.size) 0 0 (va_A wc H.size)) (hm : MS y bytes maxL none k) {host : String} (hlk : (own, index, y, host) ∈ nestM) (hrm : f + 1 ≤ R.frames ∧ 8 + (maxL + 11) + n ≤ R.locals)
    (isC : List Nat) (hC : isC.map (fun i => ws[i]?) = wc.map some) (hnC : va_nd isC = true) (had : w1.map (·.1) = wc.map (·.1)) (hnW : isC.all (fun i => decide (i < nW)) = true) (hC1 : isC.map (fun i => ws2[i]?) = w1.map some) (hag : agr (flg nW isC) ws ws2)
    (hk : As.length = k) (hsz : ls.size = nL) (hst : st = As.reverse ++ rest) (hW8 : (rest.map fun v => v.category).sum ≤ 8) (hdg : decode cc pc = .ok (.invokestatic index, 3)) (hcs : cells ≤ R.cells ∧ slots ≤ R.slots)
    (kk : ∀ (H1 : Heap) (locs1 : List Loc), WD D A ws2 s.heap H1 locs1 → W p l e R s m args below meth c H1 locs1 cells slots Q (F0 m (pc + 3) ls (rest))) : W p l e R s m args below meth c H locs cells slots Q (F0 m pc ls st) := by
  have hPc : va_P D vwCl wc H := hw.1.sub isC (fm_of_map hC)
  have hDc : va_D A wc := hw.2.1.sub isC hnC hC
  have hFc := va_free (wc := wc) hw.2.1 hw.2.2 X.2.2.1 isC hC
  subst hst
  refine va_callv (va_runSN (As := As) (rest := rest) X.1 hM ⟨va_cnB k X.1.2.2.2.2 (wz_good hm.1) rfl rfl rfl (X.2.1.2.1 _ hlk) (X.1.2.2.2.2 _ hm.2.2.1) hm.2.2.2 hrm, X.1.2.2.2.2 _ hm.2.1, trivial⟩ ⟨cPre_blind, fun U hU hW => ⟨rfl, by rw [hU], by rw [hU]; exact hPc, X.2.1.warm hW, hDc.weaken (fun _ _ _ _ => trivial), X.2.2.2.call hw.2.2 hW hU hFc⟩⟩ rfl hk hsz rfl (lv_room hW8) hdg ⟨hcs.1, hcs.2⟩) hw.2.2 (fun q _ h => hFc q h) hFc (fun u t H1 locs1 ht hvm hpost hB hz1 hk1 hS => ?_)
  obtain ⟨hP1, hD1⟩ := hB
  rw [ht] at hP1
  obtain ⟨hP2, hD2⟩ := va_agr hw.1 hw.2.1 isC (flg nW isC) hC hC1 had hag flg_1 (flg_2 hnW) hk1 hP1
  exact kk H1 locs1 ⟨hP2, hD2, hS⟩
theorem ksK_i {index maxL f n k : Nat} {y : MethodName} {bytes : ByteArray} {ret : Option FieldType} {As st : List Value} {wc w1 ws2 : va_W} {nW : Nat} {r : Int32} (X : CX p s m args c cc nL own D tys A) (hw : WD D A ws s.heap H locs)
    (hM : Met l y (wz y bytes maxL ret) (cRm f n) (cPre D tys (.ref (D.2 100 1) :: As) wc H.size) (cQi D r wc w1 H.size) 0 0 (va_A wc H.size)) (hm : MV y "java/lang/String" bytes maxL ret k) (hlk : Cond.methodLink own index y ∈ TT) (hrm : f + 1 ≤ R.frames ∧ 8 + (maxL + 11) + n ≤ R.locals)
    (isC : List Nat) (hC : isC.map (fun i => ws[i]?) = wc.map some) (hnC : va_nd isC = true) (had : w1.map (·.1) = wc.map (·.1)) (hnW : isC.all (fun i => decide (i < nW)) = true) (hC1 : isC.map (fun i => ws2[i]?) = w1.map some) (hag : agr (flg nW isC) ws ws2)
    (hk : As.length = k) (hsz : ls.size = nL) (hst : st = As.reverse ++ .ref (D.2 100 1) :: rest) (hW8 : (rest.map fun v => v.category).sum ≤ 8) (hdg : decode cc pc = .ok (.invokevirtual index, 3)) (hcs : cells ≤ R.cells ∧ slots ≤ R.slots)
    (kk : ∀ (H1 : Heap) (locs1 : List Loc), WD D A ws2 s.heap H1 locs1 → W p l e R s m args below meth c H1 locs1 cells slots Q (F0 m (pc + 3) ls (.int r :: rest))) : W p l e R s m args below meth c H locs cells slots Q (F0 m pc ls st) := by
  have hPc : va_P D vwCl wc H := hw.1.sub isC (fm_of_map hC)
  have hDc : va_D A wc := hw.2.1.sub isC hnC hC
  have hFc := va_free (wc := wc) hw.2.1 hw.2.2 X.2.2.1 isC hC
  subst hst
  refine va_calli (va_runV (As := As) (rest := rest) X.1 hM (cwV k X.1.2.2.2.2 (gV hlk hm) rfl rfl rfl hm.2.2.2.2 hrm) ⟨cPre_blind, ES_recv X hw, fun U hU hW => ⟨rfl, by rw [hU], by rw [hU]; exact hPc, X.2.1.warm hW, hDc.weaken (fun _ _ _ _ => trivial), X.2.2.2.call hw.2.2 hW hU hFc⟩⟩ rfl hk hsz rfl (lv_room hW8) hdg ⟨hcs.1, hcs.2⟩) hw.2.2 (fun q _ h => hFc q h) hFc (fun r' u t H1 locs1 ht hvm hpost hB hz1 hk1 hS => ?_)
  obtain rfl := hpost
  obtain ⟨hP1, hD1⟩ := hB
  rw [ht] at hP1
  obtain ⟨hP2, hD2⟩ := va_agr hw.1 hw.2.1 isC (flg nW isC) hC hC1 had hag flg_1 (flg_2 hnW) hk1 hP1
  exact kk H1 locs1 ⟨hP2, hD2, hS⟩
theorem ksK_l {index maxL f n k : Nat} {y : MethodName} {bytes : ByteArray} {ret : Option FieldType} {As st : List Value} {wc w1 ws2 : va_W} {nW : Nat} {r : Int64} (X : CX p s m args c cc nL own D tys A) (hw : WD D A ws s.heap H locs)
    (hM : Met l y (wz y bytes maxL ret) (cRm f n) (cPre D tys (.ref (D.2 100 1) :: As) wc H.size) (cQl D r wc w1 H.size) 0 0 (va_A wc H.size)) (hm : MV y "java/lang/String" bytes maxL ret k) (hlk : Cond.methodLink own index y ∈ TT) (hrm : f + 1 ≤ R.frames ∧ 8 + (maxL + 11) + n ≤ R.locals)
    (isC : List Nat) (hC : isC.map (fun i => ws[i]?) = wc.map some) (hnC : va_nd isC = true) (had : w1.map (·.1) = wc.map (·.1)) (hnW : isC.all (fun i => decide (i < nW)) = true) (hC1 : isC.map (fun i => ws2[i]?) = w1.map some) (hag : agr (flg nW isC) ws ws2)
    (hk : As.length = k) (hsz : ls.size = nL) (hst : st = As.reverse ++ .ref (D.2 100 1) :: rest) (hW8 : (rest.map fun v => v.category).sum ≤ 8) (hdg : decode cc pc = .ok (.invokevirtual index, 3)) (hcs : cells ≤ R.cells ∧ slots ≤ R.slots)
    (kk : ∀ (H1 : Heap) (locs1 : List Loc), WD D A ws2 s.heap H1 locs1 → W p l e R s m args below meth c H1 locs1 cells slots Q (F0 m (pc + 3) ls (.long r :: rest))) : W p l e R s m args below meth c H locs cells slots Q (F0 m pc ls st) := by
  have hPc : va_P D vwCl wc H := hw.1.sub isC (fm_of_map hC)
  have hDc : va_D A wc := hw.2.1.sub isC hnC hC
  have hFc := va_free (wc := wc) hw.2.1 hw.2.2 X.2.2.1 isC hC
  subst hst
  refine va_calll (va_runV (As := As) (rest := rest) X.1 hM (cwV k X.1.2.2.2.2 (gV hlk hm) rfl rfl rfl hm.2.2.2.2 hrm) ⟨cPre_blind, ES_recv X hw, fun U hU hW => ⟨rfl, by rw [hU], by rw [hU]; exact hPc, X.2.1.warm hW, hDc.weaken (fun _ _ _ _ => trivial), X.2.2.2.call hw.2.2 hW hU hFc⟩⟩ rfl hk hsz rfl (lv_room hW8) hdg ⟨hcs.1, hcs.2⟩) hw.2.2 (fun q _ h => hFc q h) hFc (fun r' u t H1 locs1 ht hvm hpost hB hz1 hk1 hS => ?_)
  obtain rfl := hpost
  obtain ⟨hP1, hD1⟩ := hB
  rw [ht] at hP1
  obtain ⟨hP2, hD2⟩ := va_agr hw.1 hw.2.1 isC (flg nW isC) hC hC1 had hag flg_1 (flg_2 hnW) hk1 hP1
  exact kk H1 locs1 ⟨hP2, hD2, hS⟩
theorem ksK_v {index maxL f n k : Nat} {y : MethodName} {bytes : ByteArray} {As st : List Value} {wc w1 ws2 : va_W} {nW : Nat} (X : CX p s m args c cc nL own D tys A) (hw : WD D A ws s.heap H locs)
    (hM : Met l y (wz y bytes maxL none) (cRm f n) (cPre D tys (.ref (D.2 100 1) :: As) wc H.size) (cQv D wc w1 H.size) 0 0 (va_A wc H.size)) (hm : MV y "java/lang/String" bytes maxL none k) (hlk : Cond.methodLink own index y ∈ TT) (hrm : f + 1 ≤ R.frames ∧ 8 + (maxL + 11) + n ≤ R.locals)
    (isC : List Nat) (hC : isC.map (fun i => ws[i]?) = wc.map some) (hnC : va_nd isC = true) (had : w1.map (·.1) = wc.map (·.1)) (hnW : isC.all (fun i => decide (i < nW)) = true) (hC1 : isC.map (fun i => ws2[i]?) = w1.map some) (hag : agr (flg nW isC) ws ws2)
    (hk : As.length = k) (hsz : ls.size = nL) (hst : st = As.reverse ++ .ref (D.2 100 1) :: rest) (hW8 : (rest.map fun v => v.category).sum ≤ 8) (hdg : decode cc pc = .ok (.invokevirtual index, 3)) (hcs : cells ≤ R.cells ∧ slots ≤ R.slots)
    (kk : ∀ (H1 : Heap) (locs1 : List Loc), WD D A ws2 s.heap H1 locs1 → W p l e R s m args below meth c H1 locs1 cells slots Q (F0 m (pc + 3) ls (rest))) : W p l e R s m args below meth c H locs cells slots Q (F0 m pc ls st) := by
  have hPc : va_P D vwCl wc H := hw.1.sub isC (fm_of_map hC)
  have hDc : va_D A wc := hw.2.1.sub isC hnC hC
  have hFc := va_free (wc := wc) hw.2.1 hw.2.2 X.2.2.1 isC hC
  subst hst
  refine va_callv (va_runV (As := As) (rest := rest) X.1 hM (cwV k X.1.2.2.2.2 (gV hlk hm) rfl rfl rfl hm.2.2.2.2 hrm) ⟨cPre_blind, ES_recv X hw, fun U hU hW => ⟨rfl, by rw [hU], by rw [hU]; exact hPc, X.2.1.warm hW, hDc.weaken (fun _ _ _ _ => trivial), X.2.2.2.call hw.2.2 hW hU hFc⟩⟩ rfl hk hsz rfl (lv_room hW8) hdg ⟨hcs.1, hcs.2⟩) hw.2.2 (fun q _ h => hFc q h) hFc (fun u t H1 locs1 ht hvm hpost hB hz1 hk1 hS => ?_)
  obtain ⟨hP1, hD1⟩ := hB
  rw [ht] at hP1
  obtain ⟨hP2, hD2⟩ := va_agr hw.1 hw.2.1 isC (flg nW isC) hC hC1 had hag flg_1 (flg_2 hnW) hk1 hP1
  exact kk H1 locs1 ⟨hP2, hD2, hS⟩
end KS
