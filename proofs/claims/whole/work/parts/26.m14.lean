/-! what the changes leave within bounds -/
theorem VB.by9 {K : Nat} {V W : Nat → Nat} (h : VB K V) (h0 : W 0 = V 0) (h1 : W 1 ≤ 30) (h2 : W 2 = V 2) (h3 : W 3 ≤ 6) (h4 : ∀ k, k < 8 → W (4 + k) = V (4 + k)) (h12 : ∀ k, k < 8 → W (12 + k) = V (12 + k) ∨ (k < V 2 ∧ W (12 + k) ≤ 60)) (h20 : ∀ k, k < 8 → W (20 + k) = V (20 + k) ∨ (k < V 2 ∧ W (20 + k) ≤ V 0)) (h28 : ∀ k, k < 8 → W (28 + k) = V (28 + k)) (h36 : ∀ k, k < 3 → W (36 + k) ≤ 60 ∧ W (39 + k) < 8) (h42 : ∀ k, k < 6 → W (42 + k) ≤ 60) : VB K W := by
  refine ⟨by rw [h0]; exact h.now, h.kk, h1, by rw [h2]; exact h.cnt, h3, fun k hk => ⟨by rw [h4 k hk]; exact h.len hk, fun z => by rw [h4 k hk]; exact h.len1 (by omega)⟩, fun k hk => ?_, h36, h42⟩
  have a1 := h.amp hk
  have a2 := h.start hk
  have a3 := h.sw hk
  have b1 := h12 k hk
  have b2 := h20 k hk
  have b3 := h28 k hk
  refine ⟨by omega, by omega, by omega, fun z => ?_⟩
  have a4 := h.dead hk (by omega)
  omega
theorem VB.add9 {K : Nat} {V : Nat → Nat} {a : Nat} (h : VB K V) (hc : V 2 < 8) (ha : 1 ≤ a ∧ a ≤ 99) : VB K (va_up (va_up V (4 + V 2) a) 2 (V 2 + 1)) := by
  have e : ∀ j, j ≠ 2 → j ≠ 4 + V 2 → va_up (va_up V (4 + V 2) a) 2 (V 2 + 1) j = V j := fun j h1 h2 => by rw [up_ne h1, up_ne h2]
  have e2 : va_up (va_up V (4 + V 2) a) 2 (V 2 + 1) 2 = V 2 + 1 := up_self
  refine ⟨by rw [e 0 (by omega) (by omega)]; exact h.now, h.kk, by rw [e 1 (by omega) (by omega)]; exact h.fric, by rw [e2]; omega, by rw [e 3 (by omega) (by omega)]; exact h.legs, fun k hk => ?_, fun k hk => ?_, fun k hk => ?_, fun k hk => by rw [e _ (by omega) (by omega)]; exact h.wish hk⟩
  · by_cases z : k = V 2
    · subst z
      rw [up_ne (by omega), up_self]
      exact ⟨ha.2, fun _ => ha.1⟩
    · rw [e _ (by omega) (by omega), e2]
      exact ⟨h.len hk, fun y => h.len1 (by omega)⟩
  · rw [e _ (by omega) (by omega), e _ (by omega) (by omega), e _ (by omega) (by omega), e _ (by omega) (by omega), e2]
    exact ⟨h.amp hk, h.start hk, h.sw hk, fun y => h.dead hk (by omega)⟩
  · rw [e _ (by omega) (by omega), e _ (by omega) (by omega)]
    exact ⟨h.rec hk, h.hol hk⟩
theorem VB.push9 {K : Nat} {V : Nat → Nat} {k a : Nat} (h : VB K V) (hk : k < V 2) (ha : a ≤ 60) : VB K (pushV V k a) := by
  have hc := h.cnt
  have hq := kindN_lt (V (4 + k))
  have key : ∀ j, pushV V k a j = V j ∨ (j = 12 + k ∧ pushV V k a j = a) ∨ (j = 20 + k ∧ pushV V k a j = V 0) ∨ (36 ≤ j ∧ j < 39 ∧ pushV V k a j = a) ∨ (39 ≤ j ∧ j < 42 ∧ pushV V k a j = k) := by
    intro j
    have e1 : ∀ j, (va_up (if V (12 + k) = 0 then va_up V (20 + k) (V 0) else V) (12 + k) a) j = V j ∨ (j = 12 + k ∧ (va_up (if V (12 + k) = 0 then va_up V (20 + k) (V 0) else V) (12 + k) a) j = a) ∨ (j = 20 + k ∧ (va_up (if V (12 + k) = 0 then va_up V (20 + k) (V 0) else V) (12 + k) a) j = V 0) := by
      intro j
      by_cases z : j = 12 + k
      · exact Or.inr (Or.inl ⟨z, by rw [z, up_self]⟩)
      · rw [up_ne z]
        split
        · by_cases y : j = 20 + k
          · exact Or.inr (Or.inr ⟨y, by rw [y, up_self]⟩)
          · rw [up_ne y]; exact Or.inl rfl
        · exact Or.inl rfl
    unfold pushV
    split
    · by_cases z : j = 39 + kindN (V (4 + k))
      · exact Or.inr (Or.inr (Or.inr (Or.inr ⟨by omega, by omega, by rw [z, up_self]⟩)))
      · rw [up_ne z]
        by_cases y : j = 36 + kindN (V (4 + k))
        · exact Or.inr (Or.inr (Or.inr (Or.inl ⟨by omega, by omega, by rw [y, up_self]⟩)))
        · rw [up_ne y]
          rcases e1 j with q | q | q
          · exact Or.inl q
          · exact Or.inr (Or.inl q)
          · exact Or.inr (Or.inr (Or.inl q))
    · rcases e1 j with q | q | q
      · exact Or.inl q
      · exact Or.inr (Or.inl q)
      · exact Or.inr (Or.inr (Or.inl q))
  have hf := h.fric
  have hl := h.legs
  refine VB.by9 h (by have := key 0; omega) (by have := key 1; omega) (by have := key 2; omega) (by have := key 3; omega) (fun i hi => by have := key (4 + i); omega) (fun i hi => by have := key (12 + i); omega) (fun i hi => by have := key (20 + i); omega) (fun i hi => by have := key (28 + i); omega) (fun i hi => ?_) (fun i hi => by have := key (42 + i); have := h.wish hi; omega)
  have := h.rec hi
  have := h.hol hi
  have := key (36 + i)
  have := key (39 + i)
  omega
theorem VB.catch9 {K : Nat} {V : Nat → Nat} {k : Nat} (h : VB K V) (hk : k < V 2) : VB K (va_up V (12 + k) 0) := by
  have hc := h.cnt
  have hf := h.fric
  have hl := h.legs
  refine VB.by9 h (up_ne (by omega)) (by rw [up_ne (by omega)]; exact hf) (up_ne (by omega)) (by rw [up_ne (by omega)]; exact hl) (fun i hi => up_ne (by omega)) (fun i hi => ?_) (fun i hi => Or.inl (up_ne (by omega))) (fun i hi => up_ne (by omega)) (fun i hi => by rw [up_ne (by omega), up_ne (by omega)]; exact ⟨h.rec hi, h.hol hi⟩) (fun i hi => by rw [up_ne (by omega)]; exact h.wish hi)
  by_cases z : i = k
  · subst z; rw [up_self]; exact Or.inr ⟨hk, Nat.zero_le _⟩
  · exact Or.inl (up_ne (by omega))
theorem VB.fric9 {K : Nat} {V : Nat → Nat} {a : Nat} (h : VB K V) (ha : a ≤ 30) : VB K (va_up V 1 a) :=
  VB.by9 h (up_ne (by omega)) (by rw [up_self]; exact ha) (up_ne (by omega)) (by rw [up_ne (by omega)]; exact h.legs) (fun i hi => up_ne (by omega)) (fun i hi => Or.inl (up_ne (by omega))) (fun i hi => Or.inl (up_ne (by omega))) (fun i hi => up_ne (by omega)) (fun i hi => by rw [up_ne (by omega), up_ne (by omega)]; exact ⟨h.rec hi, h.hol hi⟩) (fun i hi => by rw [up_ne (by omega)]; exact h.wish hi)
theorem VB.leg9 {K : Nat} {V : Nat → Nat} {a : Nat} (h : VB K V) (h3 : V 3 < 6) (ha : a ≤ 60) : VB K (va_up (va_up V (42 + V 3) a) 3 (V 3 + 1)) := by
  have e : ∀ j, j ≠ 3 → j < 42 → va_up (va_up V (42 + V 3) a) 3 (V 3 + 1) j = V j := fun j h1 h2 => by rw [up_ne h1, up_ne (by omega)]
  refine VB.by9 h (e _ (by omega) (by omega)) (by rw [e _ (by omega) (by omega)]; exact h.fric) (e _ (by omega) (by omega)) (by rw [up_self]; omega) (fun i hi => e _ (by omega) (by omega)) (fun i hi => Or.inl (e _ (by omega) (by omega))) (fun i hi => Or.inl (e _ (by omega) (by omega))) (fun i hi => e _ (by omega) (by omega)) (fun i hi => by rw [e _ (by omega) (by omega), e _ (by omega) (by omega)]; exact ⟨h.rec hi, h.hol hi⟩) (fun i hi => ?_)
  rw [up_ne (by omega)]
  by_cases z : i = V 3
  · rw [z, up_self]; exact ha
  · rw [up_ne (by omega)]; exact h.wish hi
theorem VB.cut9 {K : Nat} {V : Nat → Nat} {k : Nat} (h : VB K V) : VB K (va_up (cutV V k 5) 3 (V 3 - 1)) := by
  have hl := h.legs
  have e : ∀ j, j ≠ 3 → j < 42 → va_up (cutV V k 5) 3 (V 3 - 1) j = V j := fun j h1 h2 => by rw [up_ne h1]; unfold cutV; rw [if_neg (by omega)]
  refine VB.by9 h (e _ (by omega) (by omega)) (by rw [e _ (by omega) (by omega)]; exact h.fric) (e _ (by omega) (by omega)) (by rw [up_self]; omega) (fun i hi => e _ (by omega) (by omega)) (fun i hi => Or.inl (e _ (by omega) (by omega))) (fun i hi => Or.inl (e _ (by omega) (by omega))) (fun i hi => e _ (by omega) (by omega)) (fun i hi => by rw [e _ (by omega) (by omega), e _ (by omega) (by omega)]; exact ⟨h.rec hi, h.hol hi⟩) (fun i hi => ?_)
  rw [up_ne (by omega)]
  unfold cutV
  split
  · rw [show 42 + i + 1 = 42 + (i + 1) by omega]; exact h.wish (by omega)
  · exact h.wish hi
/-- a change keeps the bounds; only passing moves the clock -/
def VBq (K : Nat) (q : Nat × Nat × (Nat → Nat)) : Prop := VB (K + 500) q.2.2
theorem vq_add {K : Nat} {V : Nat → Nat} (h : VB K V) (hK : K + 500 < 16000000) (a : Int32) : VBq K (opAdd V a) := by
  have hm := h.mono (K' := K + 500) (by omega) hK
  have hc := h.cnt
  unfold VBq opAdd
  split
  · exact hm
  · next h1 =>
    split
    · exact hm
    · obtain ⟨x, x0, x1, rfl⟩ := inB_of (by decide) (by decide) (eq_true_of_ne_false h1)
      rw [nIc (by omega)]
      exact VB.add9 hm (by omega) ⟨x0, x1⟩
theorem vq_push {K : Nat} {V : Nat → Nat} (h : VB K V) (hK : K + 500 < 16000000) (p d : Int32) : VBq K (opPush V p d) := by
  have hm := h.mono (K' := K + 500) (by omega) hK
  have hc := h.cnt
  unfold VBq opPush
  split
  · exact hm
  · next h1 =>
    split
    · exact hm
    · split
      · exact hm
      · obtain ⟨x, x0, rfl⟩ := isK_of (by omega) (eq_true_of_ne_false h1)
        rw [nIc (show x < 2 ^ 31 by omega)] at *
        exact VB.push9 hm x0 (by omega)
theorem vq_catch {K : Nat} {V : Nat → Nat} (h : VB K V) (hK : K + 500 < 16000000) (p : Int32) : VBq K (opCatch V p) := by
  have hm := h.mono (K' := K + 500) (by omega) hK
  have hc := h.cnt
  unfold VBq opCatch
  split
  · exact hm
  · next h1 =>
    split
    · exact hm
    · obtain ⟨x, x0, rfl⟩ := isK_of (by omega) (eq_true_of_ne_false h1)
      rw [nIc (show x < 2 ^ 31 by omega)] at *
      exact VB.catch9 hm x0
theorem vq_fric {K : Nat} {V : Nat → Nat} (h : VB K V) (hK : K + 500 < 16000000) (a : Int32) : VBq K (opFric V a) := by
  have hm := h.mono (K' := K + 500) (by omega) hK
  unfold VBq opFric
  split
  · exact hm
  · next h1 =>
    obtain ⟨x, x0, x1, rfl⟩ := inB_of (by decide) (by decide) (eq_true_of_ne_false h1)
    rw [nIc (by omega)]
    exact VB.fric9 hm x1
theorem vq_pass {K : Nat} {V : Nat → Nat} (h : VB K V) (hK : K + 500 < 16000000) (a : Int32) : VBq K (opPass V a) := by
  have hm := h.mono (K' := K + 500) (by omega) hK
  unfold VBq opPass
  split
  · exact hm
  · next h1 =>
    obtain ⟨x, x0, x1, rfl⟩ := inB_of (by decide) (by decide) (eq_true_of_ne_false h1)
    rw [nIc (by omega)]
    exact (VB.tks (K := K) (V := V) x h (by omega)).mono (by omega) hK
theorem vq_leg {K : Nat} {V : Nat → Nat} (h : VB K V) (hK : K + 500 < 16000000) (a : Int32) : VBq K (opLeg V a) := by
  have hm := h.mono (K' := K + 500) (by omega) hK
  have hl := h.legs
  unfold VBq opLeg
  split
  · exact hm
  · next h1 =>
    split
    · exact hm
    · obtain ⟨x, x0, x1, rfl⟩ := inB_of (by decide) (by decide) (eq_true_of_ne_false h1)
      rw [nIc (by omega)]
      exact VB.leg9 hm (by omega) x1
theorem vq_cut {K : Nat} {V : Nat → Nat} (h : VB K V) (hK : K + 500 < 16000000) (p : Int32) : VBq K (opCut V p) := by
  have hm := h.mono (K' := K + 500) (by omega) hK
  unfold VBq opCut
  split
  · exact hm
  · exact VB.cut9 hm
/-! programs -/
def opC (V : Nat → Nat) (c : Nat × Nat × Nat) : Nat × Nat × (Nat → Nat) :=
  if c.1 = 104 then opAdd V (nI c.2.1) else if c.1 = 112 then opPush V (nI c.2.1) (nI c.2.2) else if c.1 = 99 then opCatch V (nI c.2.1) else if c.1 = 102 then opFric V (nI c.2.1) else if c.1 = 108 then opLeg V (nI c.2.1) else if c.1 = 117 then opCut V (nI c.2.1) else opPass V (nI c.2.1)
def isC (x : Nat) : Prop := x = 104 ∨ x = 112 ∨ x = 99 ∨ x = 102 ∨ x = 108 ∨ x = 117 ∨ x = 116
theorem isC_117 : isC 117 := by unfold isC; decide
theorem isC_99 : isC 99 := by unfold isC; decide
theorem isC_102 : isC 102 := by unfold isC; decide
theorem isC_108 : isC 108 := by unfold isC; decide
theorem isC_116 : isC 116 := by unfold isC; decide
theorem opC_z {V : Nat → Nat} {c : Nat × Nat × Nat} : (opC V c).1 ≠ 0 → (opC V c).2.1 = 0 := by
  unfold opC
  (repeat' split) <;> first | exact opAdd_z _ _ | exact opPush_z _ _ _ | exact opCatch_z _ _ | exact opFric_z _ _ | exact opLeg_z _ _ | exact opCut_z _ _ | exact opPass_z _ _
theorem opC_4 {V : Nat → Nat} {c : Nat × Nat × Nat} : (opC V c).1 < 4 := by
  unfold opC
  (repeat' split) <;> first | exact opAdd_4 _ _ | exact opPush_4 _ _ _ | exact opCatch_4 _ _ | exact opFric_4 _ _ | exact opLeg_4 _ _ | exact opCut_4 _ _ | exact opPass_4 _ _
theorem vq_C {K : Nat} {V : Nat → Nat} (h : VB K V) (hK : K + 500 < 16000000) (c : Nat × Nat × Nat) : VBq K (opC V c) := by
  unfold opC
  (repeat' split) <;> first | exact vq_add h hK _ | exact vq_push h hK _ _ | exact vq_catch h hK _ | exact vq_fric h hK _ | exact vq_leg h hK _ | exact vq_cut h hK _ | exact vq_pass h hK _
theorem need_ge {tn c : Nat} {tx : Nat → Nat} {p : Nat × Bool} : p.1 ≤ (needN tn tx p c).1 := by
  unfold needN
  split
  · exact Nat.le_succ _
  · exact Nat.le_refl _
theorem need3_ge {tn a b c : Nat} {tx : Nat → Nat} {p : Nat × Bool} : p.1 ≤ (need3 tn tx p a b c).1 := Nat.le_trans need_ge (Nat.le_trans need_ge need_ge)
theorem run_ge {tn : Nat} {tx : Nat → Nat} : ∀ m v sp, sp ≤ (runN tn tx m v sp).2 := by
  intro m
  induction m with
  | zero => intro v sp; exact Nat.le_refl _
  | succ m ih =>
    intro v sp
    cases hd : isD (hN tn tx sp) with
    | false => rw [run_no hd]; exact Nat.le_refl _
    | true => rw [run_yes hd]; exact Nat.le_trans (Nat.le_succ _) (ih _ _)
theorem dig_ge {tn most : Nat} {tx : Nat → Nat} {p : Nat × Bool} : p.1 ≤ (digN tn tx most p).2.1 := by
  unfold digN
  split
  · exact Nat.le_trans need_ge (run_ge _ _ _)
  · exact need_ge
theorem cmd_ge {tn sp : Nat} {tx : Nat → Nat} : (cmdN tn tx sp).2.2 = false → sp + 1 ≤ (cmdN tn tx sp).2.1 ∧ isC (cmdN tn tx sp).1.1 := by
  unfold cmdN
  split
  · exact fun _ => ⟨Nat.le_trans (need3_ge (p := (sp + 1, false))) dig_ge, Or.inl rfl⟩
  · split
    · exact fun _ => ⟨Nat.le_trans (need3_ge (p := (sp + 1, false))) (Nat.le_trans dig_ge dig_ge), Or.inr (Or.inl rfl)⟩
    · split
      · unfold pcN
        split
        · exact fun _ => ⟨Nat.le_trans (need_ge (p := (sp + 1, false))) (Nat.le_trans need_ge dig_ge), isC_117⟩
        · exact fun _ => ⟨Nat.le_trans (need3_ge (p := (sp + 1, false))) (Nat.le_trans need_ge dig_ge), isC_99⟩
      · split
        · exact fun _ => ⟨Nat.le_trans (need3_ge (p := (sp + 1, false))) (Nat.le_trans need3_ge (Nat.le_trans need_ge dig_ge)), isC_102⟩
        · split
          · exact fun _ => ⟨Nat.le_trans (need_ge (p := (sp + 1, false))) (Nat.le_trans need_ge dig_ge), isC_108⟩
          · split
            · exact fun _ => ⟨Nat.le_trans (need3_ge (p := (sp + 1, false))) dig_ge, isC_116⟩
            · exact fun h => Bool.noConfusion h
abbrev MX11_carriesOut : MT := (RX11, cX11_carriesOut, 3, (some .int), [], "carriesOut")
set_option maxHeartbeats 4000000 in
theorem m_carriesOut {l : Launch} {G : GT} {n : Nat} {f : HT} {o : Nat} {I : Nat → Int32} {A : Nat → Nat → Int32} {K : Nat} {V : Nat → Nat} (hA : Mok A V) (hB : VB K V) (hK : K + 500 < 16000000) {k : Nat} {c : Nat × Nat × Nat} (hk : k ≤ 177) (hPK : PK (A 7) k c) (hC : isC c.1) : AM l G yX11_carriesOut (.code yX11_carriesOut cX11_carriesOut 3 (some .int)) 3 180 0 0 [.ref o, .int (nI k)] (mU f o I A) n (PO f o I A (opC V c) n) := by
  refine aw_enter (M := MX11_carriesOut) rfl rfl (by decide +kernel) rfl (Nat.le_of_ble_eq_true rfl) ?_
  show AW l G MX11_carriesOut 3 180 0 0 _ n 0 0 0 [(0, .ref o), (1, .int (nI k))] [] _ n
  refine aw_aload_n dX11_carriesOut_0 rfl rfl ?_
  refine aw_get (v := .ref (o + 8)) fl_X11_39 mU_0 rfl dX11_carriesOut_1 ?_
  refine aw_iload_n dX11_carriesOut_4 rfl rfl ?_
  refine aw_iconst_n 1 dX11_carriesOut_5 (by decide) ?_
  refine aw_iadd_n dX11_carriesOut_6 ?_
  refine aw_iald_n (k := k + 1) (v := (nI c.2.1)) mU_8 (by omega) (by decide) (hPK.2.1) dX11_carriesOut_7 ?_
  refine aw_istore_n (L' := [(2, .int (nI c.2.1)), (0, .ref o), (1, .int (nI k))]) dX11_carriesOut_8 rfl (by decide) rfl ?_
  refine aw_aload_n dX11_carriesOut_9 rfl rfl ?_
  refine aw_get (v := .ref (o + 8)) fl_X11_39 mU_0 rfl dX11_carriesOut_10 ?_
  refine aw_iload_n dX11_carriesOut_13 rfl rfl ?_
  refine aw_iald_n (k := k) (v := (nI c.1)) mU_8 (by omega) (by decide) (hPK.1) dX11_carriesOut_14 ?_
  rcases hC with q | q | q | q | q | q | q
  · have e : opC V c = opAdd V (nI c.2.1) := by unfold opC; rw [if_pos q]
    rw [q, e]
    refine aw_tableIn (tgt := 104) dX11_carriesOut_15 (by decide) (by decide) (off := 89) (by decide) (by decide) ?_
    refine aw_aload_n dX11_carriesOut_104 rfl rfl ?_
    refine aw_iload_n dX11_carriesOut_105 rfl rfl ?_
    refine aw_vP (as := [Value.int (nI c.2.1)]) (rest := []) mV_X11_adds (m_adds hA hB (nI c.2.1)) ml_X11_66 mU_0 rfl dX11_carriesOut_106 rfl rfl (by decide) (Nat.le_of_ble_eq_true rfl) (by decide) (fun _ _ _ h => by cases h.1) (fun r f9 n9 _ h => ?_)
    have h1 := h.1
    cases h1
    exact aw_iret rfl (by decide) (by decide) dX11_carriesOut_109 h
  · have e : opC V c = opPush V (nI c.2.1) (nI c.2.2) := by unfold opC; rw [if_neg (by omega), if_pos q]
    rw [q, e]
    refine aw_tableIn (tgt := 110) dX11_carriesOut_15 (by decide) (by decide) (off := 95) (by decide) (by decide) ?_
    refine aw_aload_n dX11_carriesOut_110 rfl rfl ?_
    refine aw_iload_n dX11_carriesOut_111 rfl rfl ?_
    refine aw_aload_n dX11_carriesOut_112 rfl rfl ?_
    refine aw_get (v := .ref (o + 8)) fl_X11_39 mU_0 rfl dX11_carriesOut_113 ?_
    refine aw_iload_n dX11_carriesOut_116 rfl rfl ?_
    refine aw_iconst_n 2 dX11_carriesOut_117 (by decide) ?_
    refine aw_iadd_n dX11_carriesOut_118 ?_
    refine aw_iald_n (k := k + 2) (v := (nI c.2.2)) mU_8 (by omega) (by decide) (hPK.2.2 q) dX11_carriesOut_119 ?_
    refine aw_vP (as := [Value.int (nI c.2.1), Value.int (nI c.2.2)]) (rest := []) mV_X11_pushes (m_pushes hA hB (nI c.2.1) (nI c.2.2)) ml_X11_82 mU_0 rfl dX11_carriesOut_120 rfl rfl (by decide) (Nat.le_of_ble_eq_true rfl) (by decide) (fun _ _ _ h => by cases h.1) (fun r f9 n9 _ h => ?_)
    have h1 := h.1
    cases h1
    exact aw_iret rfl (by decide) (by decide) dX11_carriesOut_123 h
  · have e : opC V c = opCatch V (nI c.2.1) := by unfold opC; rw [if_neg (by omega), if_neg (by omega), if_pos q]
    rw [q, e]
    refine aw_tableIn (tgt := 124) dX11_carriesOut_15 (by decide) (by decide) (off := 109) (by decide) (by decide) ?_
    refine aw_aload_n dX11_carriesOut_124 rfl rfl ?_
    refine aw_iload_n dX11_carriesOut_125 rfl rfl ?_
    refine aw_vP (as := [Value.int (nI c.2.1)]) (rest := []) mV_X11_catches (m_catches hA hB (nI c.2.1)) ml_X11_86 mU_0 rfl dX11_carriesOut_126 rfl rfl (by decide) (Nat.le_of_ble_eq_true rfl) (by decide) (fun _ _ _ h => by cases h.1) (fun r f9 n9 _ h => ?_)
    have h1 := h.1
    cases h1
    exact aw_iret rfl (by decide) (by decide) dX11_carriesOut_129 h
  · have e : opC V c = opFric V (nI c.2.1) := by unfold opC; rw [if_neg (by omega), if_neg (by omega), if_neg (by omega), if_pos q]
    rw [q, e]
    refine aw_tableIn (tgt := 130) dX11_carriesOut_15 (by decide) (by decide) (off := 115) (by decide) (by decide) ?_
    refine aw_aload_n dX11_carriesOut_130 rfl rfl ?_
    refine aw_iload_n dX11_carriesOut_131 rfl rfl ?_
    refine aw_vP (as := [Value.int (nI c.2.1)]) (rest := []) mV_X11_rubs (m_rubs hA hB (nI c.2.1)) ml_X11_89 mU_0 rfl dX11_carriesOut_132 rfl rfl (by decide) (Nat.le_of_ble_eq_true rfl) (by decide) (fun _ _ _ h => by cases h.1) (fun r f9 n9 _ h => ?_)
    have h1 := h.1
    cases h1
    exact aw_iret rfl (by decide) (by decide) dX11_carriesOut_135 h
  · have e : opC V c = opLeg V (nI c.2.1) := by unfold opC; rw [if_neg (by omega), if_neg (by omega), if_neg (by omega), if_neg (by omega), if_pos q]
    rw [q, e]
    refine aw_tableIn (tgt := 136) dX11_carriesOut_15 (by decide) (by decide) (off := 121) (by decide) (by decide) ?_
    refine aw_aload_n dX11_carriesOut_136 rfl rfl ?_
    refine aw_iload_n dX11_carriesOut_137 rfl rfl ?_
    refine aw_vP (as := [Value.int (nI c.2.1)]) (rest := []) mV_X11_addsLeg (m_addsLeg hA hB (nI c.2.1)) ml_X11_142 mU_0 rfl dX11_carriesOut_138 rfl rfl (by decide) (Nat.le_of_ble_eq_true rfl) (by decide) (fun _ _ _ h => by cases h.1) (fun r f9 n9 _ h => ?_)
    have h1 := h.1
    cases h1
    exact aw_iret rfl (by decide) (by decide) dX11_carriesOut_141 h
  · have e : opC V c = opCut V (nI c.2.1) := by unfold opC; rw [if_neg (by omega), if_neg (by omega), if_neg (by omega), if_neg (by omega), if_neg (by omega), if_pos q]
    rw [q, e]
    refine aw_tableIn (tgt := 142) dX11_carriesOut_15 (by decide) (by decide) (off := 127) (by decide) (by decide) ?_
    refine aw_aload_n dX11_carriesOut_142 rfl rfl ?_
    refine aw_iload_n dX11_carriesOut_143 rfl rfl ?_
    refine aw_vP (as := [Value.int (nI c.2.1)]) (rest := []) mV_X11_cuts (m_cuts hA hB (nI c.2.1)) ml_X11_148 mU_0 rfl dX11_carriesOut_144 rfl rfl (by decide) (Nat.le_of_ble_eq_true rfl) (by decide) (fun _ _ _ h => by cases h.1) (fun r f9 n9 _ h => ?_)
    have h1 := h.1
    cases h1
    exact aw_iret rfl (by decide) (by decide) dX11_carriesOut_147 h
  · have e : opC V c = opPass V (nI c.2.1) := by unfold opC; rw [if_neg (by omega), if_neg (by omega), if_neg (by omega), if_neg (by omega), if_neg (by omega), if_neg (by omega)]
    rw [q, e]
    refine aw_tableIn (tgt := 148) dX11_carriesOut_15 (by decide) (by decide) (off := 133) (by decide) (by decide) ?_
    refine aw_aload_n dX11_carriesOut_148 rfl rfl ?_
    refine aw_iload_n dX11_carriesOut_149 rfl rfl ?_
    refine aw_vP (as := [Value.int (nI c.2.1)]) (rest := []) mV_X11_passes (m_passes hA hB hK (nI c.2.1)) ml_X11_102 mU_0 rfl dX11_carriesOut_150 rfl rfl (by decide) (Nat.le_of_ble_eq_true rfl) (by decide) (fun _ _ _ h => by cases h.1) (fun r f9 n9 _ h => ?_)
    have h1 := h.1
    cases h1
    exact aw_iret rfl (by decide) (by decide) dX11_carriesOut_153 h
