theorem opAdd_z (V : Nat → Nat) (a : Int32) : (opAdd V a).1 ≠ 0 → (opAdd V a).2.1 = 0 := by
  unfold opAdd
  (repeat' split) <;> first | exact fun _ => rfl | exact fun h => absurd rfl h
theorem opAdd_4 (V : Nat → Nat) (a : Int32) : (opAdd V a).1 < 4 := by
  unfold opAdd
  (repeat' split) <;> exact Nat.le_of_ble_eq_true rfl
theorem opPush_z (V : Nat → Nat) (a d : Int32) : (opPush V a d).1 ≠ 0 → (opPush V a d).2.1 = 0 := by
  unfold opPush
  (repeat' split) <;> first | exact fun _ => rfl | exact fun h => absurd rfl h
theorem opPush_4 (V : Nat → Nat) (a d : Int32) : (opPush V a d).1 < 4 := by
  unfold opPush
  (repeat' split) <;> exact Nat.le_of_ble_eq_true rfl
theorem opCatch_z (V : Nat → Nat) (a : Int32) : (opCatch V a).1 ≠ 0 → (opCatch V a).2.1 = 0 := by
  unfold opCatch
  (repeat' split) <;> first | exact fun _ => rfl | exact fun h => absurd rfl h
theorem opCatch_4 (V : Nat → Nat) (a : Int32) : (opCatch V a).1 < 4 := by
  unfold opCatch
  (repeat' split) <;> exact Nat.le_of_ble_eq_true rfl
theorem opFric_z (V : Nat → Nat) (a : Int32) : (opFric V a).1 ≠ 0 → (opFric V a).2.1 = 0 := by
  unfold opFric
  (repeat' split) <;> first | exact fun _ => rfl | exact fun h => absurd rfl h
theorem opFric_4 (V : Nat → Nat) (a : Int32) : (opFric V a).1 < 4 := by
  unfold opFric
  (repeat' split) <;> exact Nat.le_of_ble_eq_true rfl
theorem opPass_z (V : Nat → Nat) (a : Int32) : (opPass V a).1 ≠ 0 → (opPass V a).2.1 = 0 := by
  unfold opPass
  (repeat' split) <;> first | exact fun _ => rfl | exact fun h => absurd rfl h
theorem opPass_4 (V : Nat → Nat) (a : Int32) : (opPass V a).1 < 4 := by
  unfold opPass
  (repeat' split) <;> exact Nat.le_of_ble_eq_true rfl
theorem opLeg_z (V : Nat → Nat) (a : Int32) : (opLeg V a).1 ≠ 0 → (opLeg V a).2.1 = 0 := by
  unfold opLeg
  (repeat' split) <;> first | exact fun _ => rfl | exact fun h => absurd rfl h
theorem opLeg_4 (V : Nat → Nat) (a : Int32) : (opLeg V a).1 < 4 := by
  unfold opLeg
  (repeat' split) <;> exact Nat.le_of_ble_eq_true rfl
theorem opCut_z (V : Nat → Nat) (a : Int32) : (opCut V a).1 ≠ 0 → (opCut V a).2.1 = 0 := by
  unfold opCut
  (repeat' split) <;> first | exact fun _ => rfl | exact fun h => absurd rfl h
theorem opCut_4 (V : Nat → Nat) (a : Int32) : (opCut V a).1 < 4 := by
  unfold opCut
  (repeat' split) <;> exact Nat.le_of_ble_eq_true rfl
abbrev MX11_addPendulum : MT := (RX11, cX11_addPendulum, 2, (some .int), [], "addPendulum")
set_option maxHeartbeats 4000000 in
theorem mo_addPendulum {l : Launch} {G : GT} {n : Nat} {f : HT} {o : Nat} {I : Nat → Int32} {A : Nat → Nat → Int32} {K : Nat} {s : SG} (hR : MR I A s) (hB : VB K s.1) (hc : s.2.1.1 ≤ 8) (a : Int32) : AM l G yX11_addPendulum (.code yX11_addPendulum cX11_addPendulum 2 (some .int)) 3 180 0 0 [.ref o, .int a] (mU f o I A) n (PP f o (opAdd s.1 a) s n) := by
  refine aw_enter (M := MX11_addPendulum) rfl rfl (by decide +kernel) rfl (Nat.le_of_ble_eq_true rfl) ?_
  have hA1 : Mok (va_up A 1 (va_cpy (A 0) (A 1) 0 0 48)) s.1 := fun i hi => by rw [up_ne (by decide)]; exact hR.1 i hi
  show AW l G MX11_addPendulum 3 180 0 0 _ n 0 0 0 [(0, .ref o), (1, .int a)] [] _ n
  refine aw_aload_n dX11_addPendulum_0 rfl rfl ?_
  refine aw_vV (as := []) (rest := []) mV_X11_begin m_begin ml_X11_63 mU_0 rfl dX11_addPendulum_1 rfl rfl (by decide) (Nat.le_of_ble_eq_true rfl) (by decide) ?_
  refine aw_aload_n dX11_addPendulum_4 rfl rfl ?_
  refine aw_aload_n dX11_addPendulum_5 rfl rfl ?_
  refine aw_iload_n dX11_addPendulum_6 rfl rfl ?_
  refine aw_vP (as := [Value.int a]) (rest := [Value.ref o]) mV_X11_adds (m_adds (A := (va_up A 1 (va_cpy (A 0) (A 1) 0 0 48))) hA1 hB a) ml_X11_66 mU_0 rfl dX11_addPendulum_7 rfl rfl (by decide) (Nat.le_of_ble_eq_true rfl) (by decide) (fun _ _ _ h => by cases h.1) (fun r f9 n9 _ h => ?_)
  obtain ⟨h1, h2, A2, h3, hA2, hR2⟩ := h
  cases h1; subst h2; subst h3
  exact m_fin (M := MX11_addPendulum) (pc := 10) (I := I) (A := A) (s := s) ml_X11_69 rfl dX11_addPendulum_10 dX11_addPendulum_13 hR hc hA2 hR2 (opAdd_z _ _) (opAdd_4 _ _)
abbrev MX11_push : MT := (RX11, cX11_push, 3, (some .int), [], "push")
set_option maxHeartbeats 4000000 in
theorem mo_push {l : Launch} {G : GT} {n : Nat} {f : HT} {o : Nat} {I : Nat → Int32} {A : Nat → Nat → Int32} {K : Nat} {s : SG} (hR : MR I A s) (hB : VB K s.1) (hc : s.2.1.1 ≤ 8) (a d : Int32) : AM l G yX11_push (.code yX11_push cX11_push 3 (some .int)) 3 180 0 0 [.ref o, .int a, .int d] (mU f o I A) n (PP f o (opPush s.1 a d) s n) := by
  refine aw_enter (M := MX11_push) rfl rfl (by decide +kernel) rfl (Nat.le_of_ble_eq_true rfl) ?_
  have hA1 : Mok (va_up A 1 (va_cpy (A 0) (A 1) 0 0 48)) s.1 := fun i hi => by rw [up_ne (by decide)]; exact hR.1 i hi
  show AW l G MX11_push 3 180 0 0 _ n 0 0 0 [(0, .ref o), (1, .int a), (2, .int d)] [] _ n
  refine aw_aload_n dX11_push_0 rfl rfl ?_
  refine aw_vV (as := []) (rest := []) mV_X11_begin m_begin ml_X11_63 mU_0 rfl dX11_push_1 rfl rfl (by decide) (Nat.le_of_ble_eq_true rfl) (by decide) ?_
  refine aw_aload_n dX11_push_4 rfl rfl ?_
  refine aw_aload_n dX11_push_5 rfl rfl ?_
  refine aw_iload_n dX11_push_6 rfl rfl ?_
  refine aw_iload_n dX11_push_7 rfl rfl ?_
  refine aw_vP (as := [Value.int a, Value.int d]) (rest := [Value.ref o]) mV_X11_pushes (m_pushes (A := (va_up A 1 (va_cpy (A 0) (A 1) 0 0 48))) hA1 hB a d) ml_X11_82 mU_0 rfl dX11_push_8 rfl rfl (by decide) (Nat.le_of_ble_eq_true rfl) (by decide) (fun _ _ _ h => by cases h.1) (fun r f9 n9 _ h => ?_)
  obtain ⟨h1, h2, A2, h3, hA2, hR2⟩ := h
  cases h1; subst h2; subst h3
  exact m_fin (M := MX11_push) (pc := 11) (I := I) (A := A) (s := s) ml_X11_69 rfl dX11_push_11 dX11_push_14 hR hc hA2 hR2 (opPush_z _ _ _) (opPush_4 _ _ _)
abbrev MX11_catchPendulum : MT := (RX11, cX11_catchPendulum, 2, (some .int), [], "catchPendulum")
set_option maxHeartbeats 4000000 in
theorem mo_catchPendulum {l : Launch} {G : GT} {n : Nat} {f : HT} {o : Nat} {I : Nat → Int32} {A : Nat → Nat → Int32} {K : Nat} {s : SG} (hR : MR I A s) (hB : VB K s.1) (hc : s.2.1.1 ≤ 8) (a : Int32) : AM l G yX11_catchPendulum (.code yX11_catchPendulum cX11_catchPendulum 2 (some .int)) 3 180 0 0 [.ref o, .int a] (mU f o I A) n (PP f o (opCatch s.1 a) s n) := by
  refine aw_enter (M := MX11_catchPendulum) rfl rfl (by decide +kernel) rfl (Nat.le_of_ble_eq_true rfl) ?_
  have hA1 : Mok (va_up A 1 (va_cpy (A 0) (A 1) 0 0 48)) s.1 := fun i hi => by rw [up_ne (by decide)]; exact hR.1 i hi
  show AW l G MX11_catchPendulum 3 180 0 0 _ n 0 0 0 [(0, .ref o), (1, .int a)] [] _ n
  refine aw_aload_n dX11_catchPendulum_0 rfl rfl ?_
  refine aw_vV (as := []) (rest := []) mV_X11_begin m_begin ml_X11_63 mU_0 rfl dX11_catchPendulum_1 rfl rfl (by decide) (Nat.le_of_ble_eq_true rfl) (by decide) ?_
  refine aw_aload_n dX11_catchPendulum_4 rfl rfl ?_
  refine aw_aload_n dX11_catchPendulum_5 rfl rfl ?_
  refine aw_iload_n dX11_catchPendulum_6 rfl rfl ?_
  refine aw_vP (as := [Value.int a]) (rest := [Value.ref o]) mV_X11_catches (m_catches (A := (va_up A 1 (va_cpy (A 0) (A 1) 0 0 48))) hA1 hB a) ml_X11_86 mU_0 rfl dX11_catchPendulum_7 rfl rfl (by decide) (Nat.le_of_ble_eq_true rfl) (by decide) (fun _ _ _ h => by cases h.1) (fun r f9 n9 _ h => ?_)
  obtain ⟨h1, h2, A2, h3, hA2, hR2⟩ := h
  cases h1; subst h2; subst h3
  exact m_fin (M := MX11_catchPendulum) (pc := 10) (I := I) (A := A) (s := s) ml_X11_69 rfl dX11_catchPendulum_10 dX11_catchPendulum_13 hR hc hA2 hR2 (opCatch_z _ _) (opCatch_4 _ _)
abbrev MX11_setFriction : MT := (RX11, cX11_setFriction, 2, (some .int), [], "setFriction")
set_option maxHeartbeats 4000000 in
theorem mo_setFriction {l : Launch} {G : GT} {n : Nat} {f : HT} {o : Nat} {I : Nat → Int32} {A : Nat → Nat → Int32} {K : Nat} {s : SG} (hR : MR I A s) (hB : VB K s.1) (hc : s.2.1.1 ≤ 8) (a : Int32) : AM l G yX11_setFriction (.code yX11_setFriction cX11_setFriction 2 (some .int)) 3 180 0 0 [.ref o, .int a] (mU f o I A) n (PP f o (opFric s.1 a) s n) := by
  refine aw_enter (M := MX11_setFriction) rfl rfl (by decide +kernel) rfl (Nat.le_of_ble_eq_true rfl) ?_
  have hA1 : Mok (va_up A 1 (va_cpy (A 0) (A 1) 0 0 48)) s.1 := fun i hi => by rw [up_ne (by decide)]; exact hR.1 i hi
  show AW l G MX11_setFriction 3 180 0 0 _ n 0 0 0 [(0, .ref o), (1, .int a)] [] _ n
  refine aw_aload_n dX11_setFriction_0 rfl rfl ?_
  refine aw_vV (as := []) (rest := []) mV_X11_begin m_begin ml_X11_63 mU_0 rfl dX11_setFriction_1 rfl rfl (by decide) (Nat.le_of_ble_eq_true rfl) (by decide) ?_
  refine aw_aload_n dX11_setFriction_4 rfl rfl ?_
  refine aw_aload_n dX11_setFriction_5 rfl rfl ?_
  refine aw_iload_n dX11_setFriction_6 rfl rfl ?_
  refine aw_vP (as := [Value.int a]) (rest := [Value.ref o]) mV_X11_rubs (m_rubs (A := (va_up A 1 (va_cpy (A 0) (A 1) 0 0 48))) hA1 hB a) ml_X11_89 mU_0 rfl dX11_setFriction_7 rfl rfl (by decide) (Nat.le_of_ble_eq_true rfl) (by decide) (fun _ _ _ h => by cases h.1) (fun r f9 n9 _ h => ?_)
  obtain ⟨h1, h2, A2, h3, hA2, hR2⟩ := h
  cases h1; subst h2; subst h3
  exact m_fin (M := MX11_setFriction) (pc := 10) (I := I) (A := A) (s := s) ml_X11_69 rfl dX11_setFriction_10 dX11_setFriction_13 hR hc hA2 hR2 (opFric_z _ _) (opFric_4 _ _)
abbrev MX11_pass : MT := (RX11, cX11_pass, 2, (some .int), [], "pass")
set_option maxHeartbeats 4000000 in
theorem mo_pass {l : Launch} {G : GT} {n : Nat} {f : HT} {o : Nat} {I : Nat → Int32} {A : Nat → Nat → Int32} {K : Nat} {s : SG} (hR : MR I A s) (hB : VB K s.1) (hc : s.2.1.1 ≤ 8) (hK : K + 500 < 16000000) (a : Int32) : AM l G yX11_pass (.code yX11_pass cX11_pass 2 (some .int)) 3 180 0 0 [.ref o, .int a] (mU f o I A) n (PP f o (opPass s.1 a) s n) := by
  refine aw_enter (M := MX11_pass) rfl rfl (by decide +kernel) rfl (Nat.le_of_ble_eq_true rfl) ?_
  have hA1 : Mok (va_up A 1 (va_cpy (A 0) (A 1) 0 0 48)) s.1 := fun i hi => by rw [up_ne (by decide)]; exact hR.1 i hi
  show AW l G MX11_pass 3 180 0 0 _ n 0 0 0 [(0, .ref o), (1, .int a)] [] _ n
  refine aw_aload_n dX11_pass_0 rfl rfl ?_
  refine aw_vV (as := []) (rest := []) mV_X11_begin m_begin ml_X11_63 mU_0 rfl dX11_pass_1 rfl rfl (by decide) (Nat.le_of_ble_eq_true rfl) (by decide) ?_
  refine aw_aload_n dX11_pass_4 rfl rfl ?_
  refine aw_aload_n dX11_pass_5 rfl rfl ?_
  refine aw_iload_n dX11_pass_6 rfl rfl ?_
  refine aw_vP (as := [Value.int a]) (rest := [Value.ref o]) mV_X11_passes (m_passes (A := (va_up A 1 (va_cpy (A 0) (A 1) 0 0 48))) hA1 hB hK a) ml_X11_102 mU_0 rfl dX11_pass_7 rfl rfl (by decide) (Nat.le_of_ble_eq_true rfl) (by decide) (fun _ _ _ h => by cases h.1) (fun r f9 n9 _ h => ?_)
  obtain ⟨h1, h2, A2, h3, hA2, hR2⟩ := h
  cases h1; subst h2; subst h3
  exact m_fin (M := MX11_pass) (pc := 10) (I := I) (A := A) (s := s) ml_X11_69 rfl dX11_pass_10 dX11_pass_13 hR hc hA2 hR2 (opPass_z _ _) (opPass_4 _ _)
abbrev MX11_addLeg : MT := (RX11, cX11_addLeg, 2, (some .int), [], "addLeg")
set_option maxHeartbeats 4000000 in
theorem mo_addLeg {l : Launch} {G : GT} {n : Nat} {f : HT} {o : Nat} {I : Nat → Int32} {A : Nat → Nat → Int32} {K : Nat} {s : SG} (hR : MR I A s) (hB : VB K s.1) (hc : s.2.1.1 ≤ 8) (a : Int32) : AM l G yX11_addLeg (.code yX11_addLeg cX11_addLeg 2 (some .int)) 3 180 0 0 [.ref o, .int a] (mU f o I A) n (PP f o (opLeg s.1 a) s n) := by
  refine aw_enter (M := MX11_addLeg) rfl rfl (by decide +kernel) rfl (Nat.le_of_ble_eq_true rfl) ?_
  have hA1 : Mok (va_up A 1 (va_cpy (A 0) (A 1) 0 0 48)) s.1 := fun i hi => by rw [up_ne (by decide)]; exact hR.1 i hi
  show AW l G MX11_addLeg 3 180 0 0 _ n 0 0 0 [(0, .ref o), (1, .int a)] [] _ n
  refine aw_aload_n dX11_addLeg_0 rfl rfl ?_
  refine aw_vV (as := []) (rest := []) mV_X11_begin m_begin ml_X11_63 mU_0 rfl dX11_addLeg_1 rfl rfl (by decide) (Nat.le_of_ble_eq_true rfl) (by decide) ?_
  refine aw_aload_n dX11_addLeg_4 rfl rfl ?_
  refine aw_aload_n dX11_addLeg_5 rfl rfl ?_
  refine aw_iload_n dX11_addLeg_6 rfl rfl ?_
  refine aw_vP (as := [Value.int a]) (rest := [Value.ref o]) mV_X11_addsLeg (m_addsLeg (A := (va_up A 1 (va_cpy (A 0) (A 1) 0 0 48))) hA1 hB a) ml_X11_142 mU_0 rfl dX11_addLeg_7 rfl rfl (by decide) (Nat.le_of_ble_eq_true rfl) (by decide) (fun _ _ _ h => by cases h.1) (fun r f9 n9 _ h => ?_)
  obtain ⟨h1, h2, A2, h3, hA2, hR2⟩ := h
  cases h1; subst h2; subst h3
  exact m_fin (M := MX11_addLeg) (pc := 10) (I := I) (A := A) (s := s) ml_X11_69 rfl dX11_addLeg_10 dX11_addLeg_13 hR hc hA2 hR2 (opLeg_z _ _) (opLeg_4 _ _)
abbrev MX11_removeLeg : MT := (RX11, cX11_removeLeg, 2, (some .int), [], "removeLeg")
set_option maxHeartbeats 4000000 in
theorem mo_removeLeg {l : Launch} {G : GT} {n : Nat} {f : HT} {o : Nat} {I : Nat → Int32} {A : Nat → Nat → Int32} {K : Nat} {s : SG} (hR : MR I A s) (hB : VB K s.1) (hc : s.2.1.1 ≤ 8) (a : Int32) : AM l G yX11_removeLeg (.code yX11_removeLeg cX11_removeLeg 2 (some .int)) 3 180 0 0 [.ref o, .int a] (mU f o I A) n (PP f o (opCut s.1 a) s n) := by
  refine aw_enter (M := MX11_removeLeg) rfl rfl (by decide +kernel) rfl (Nat.le_of_ble_eq_true rfl) ?_
  have hA1 : Mok (va_up A 1 (va_cpy (A 0) (A 1) 0 0 48)) s.1 := fun i hi => by rw [up_ne (by decide)]; exact hR.1 i hi
  show AW l G MX11_removeLeg 3 180 0 0 _ n 0 0 0 [(0, .ref o), (1, .int a)] [] _ n
  refine aw_aload_n dX11_removeLeg_0 rfl rfl ?_
  refine aw_vV (as := []) (rest := []) mV_X11_begin m_begin ml_X11_63 mU_0 rfl dX11_removeLeg_1 rfl rfl (by decide) (Nat.le_of_ble_eq_true rfl) (by decide) ?_
  refine aw_aload_n dX11_removeLeg_4 rfl rfl ?_
  refine aw_aload_n dX11_removeLeg_5 rfl rfl ?_
  refine aw_iload_n dX11_removeLeg_6 rfl rfl ?_
  refine aw_vP (as := [Value.int a]) (rest := [Value.ref o]) mV_X11_cuts (m_cuts (A := (va_up A 1 (va_cpy (A 0) (A 1) 0 0 48))) hA1 hB a) ml_X11_148 mU_0 rfl dX11_removeLeg_7 rfl rfl (by decide) (Nat.le_of_ble_eq_true rfl) (by decide) (fun _ _ _ h => by cases h.1) (fun r f9 n9 _ h => ?_)
  obtain ⟨h1, h2, A2, h3, hA2, hR2⟩ := h
  cases h1; subst h2; subst h3
  exact m_fin (M := MX11_removeLeg) (pc := 10) (I := I) (A := A) (s := s) ml_X11_69 rfl dX11_removeLeg_10 dX11_removeLeg_13 hR hc hA2 hR2 (opCut_z _ _) (opCut_4 _ _)
