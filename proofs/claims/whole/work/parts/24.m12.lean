/-! the remaining small methods -/
theorem in_isK {v : Int32} {c : Nat} (hc : c ≤ 1000) : inB v (nI 0) (nI c - nI 1) = isK v c := by
  have h1 : (nI c - nI 1).toInt = (c : Int) - 1 := pk_sub_toInt (a := c) (b := 1) (by omega) (by decide)
  have h0 : (nI 0).toInt = 0 := by decide
  unfold inB isK
  rw [← Bool.decide_and]
  apply decide_eq_decide.mpr
  rw [Int32.le_iff_toInt_le, Int32.le_iff_toInt_le, h1, h0]
  omega
def qAt (s : SG) (v : Int32) : Nat × Nat := if isK v s.2.2.2.2.2.1 = true then (0, s.2.2.2.2.2.2 v.toNatClampNeg) else (1, 0)
def qType (s : SG) (v : Int32) : Nat × Nat := if inB v (nI 32) (nI 126) = true then (if s.2.2.2.1.1 = 60 then (2, 0) else (0, s.2.2.2.1.1 + 1)) else (1, 0)
def typS (s : SG) (v : Int32) : SG := if (qType s v).1 = 0 then (s.1, s.2.1, s.2.2.1, (s.2.2.2.1.1 + 1, va_up s.2.2.2.1.2 s.2.2.2.1.1 v.toNatClampNeg), s.2.2.2.2) else s
def qE (e : Int32) : Nat × Int32 := if e = -1 then (1, nI 0) else (0, e)
def undS (s : SG) : SG := if s.2.1.1 = 0 then s else (s.2.1.2 (s.2.1.1 - 1), (s.2.1.1 - 1, s.2.1.2), s.2.2)
def savS (s : SG) : SG := (s.1, s.2.1, (true, s.1), s.2.2.2)
def resS (s : SG) : SG := if s.2.2.1.1 = true then (s.2.2.1.2, (0, s.2.1.2), s.2.2) else s
def qUndo (s : SG) : Nat × Nat := if s.2.1.1 = 0 then (1, 0) else (0, s.2.1.1 - 1)
def qRes (s : SG) : Nat × Nat := if s.2.2.1.1 = true then (0, s.2.2.1.2 0) else (1, 0)
theorem MR.typ {I : Nat → Int32} {A : Nat → Nat → Int32} {s : SG} {x : Nat} {d : Int32} (h : MR I A s) (ht : s.2.2.2.1.1 ≤ 60) : MR (va_up (va_up I 7 (nI (s.2.2.2.1.1 + 1))) 12 d) (va_up A 4 (upd (A 4) s.2.2.2.1.1 (nI x))) (s.1, s.2.1, s.2.2.1, (s.2.2.2.1.1 + 1, va_up s.2.2.2.1.2 s.2.2.2.1.1 x), s.2.2.2.2) := by
  obtain ⟨h1, ⟨h2, h3⟩, ⟨h4, h5⟩, ⟨h6, h7⟩, ⟨h8, h9⟩, h10, h11⟩ := h
  refine ⟨fun i hi => by (repeat rw [up_ne (by decide)]); exact h1 i hi, ⟨by (repeat rw [up_ne (by decide)]); exact h2, by (repeat rw [up_ne (by decide)]); exact h3⟩, ⟨by (repeat rw [up_ne (by decide)]); exact h4, fun z i hi => by (repeat rw [up_ne (by decide)]); exact h5 z i hi⟩, ⟨by rw [up_ne (by decide)]; exact up_self, fun i hi => ?_⟩, ⟨by (repeat rw [up_ne (by decide)]); exact h8, by (repeat rw [up_ne (by decide)]); exact h9⟩, by (repeat rw [up_ne (by decide)]); exact h10, fun i hi => by (repeat rw [up_ne (by decide)]); exact h11 i hi⟩
  rw [up_self]
  show upd (A 4) s.2.2.2.1.1 (nI x) i = nI (va_up s.2.2.2.1.2 s.2.2.2.1.1 x i)
  by_cases e : i = s.2.2.2.1.1
  · rw [e, pk_us, up_self]
  · rw [pk_un e, up_ne e]
    have hi' : i < s.2.2.2.1.1 + 1 := hi
    exact h7 i (by omega)
theorem MR.und {I : Nat → Int32} {A : Nat → Nat → Int32} {s : SG} {d : Int32} (h : MR I A s) (hc : s.2.1.1 ≠ 0) : MR (va_up (va_up I 3 (nI (s.2.1.1 - 1))) 12 d) (va_up A 0 (va_cpy (A 2) (A 0) ((s.2.1.1 - 1) * 48) 0 48)) (s.2.1.2 (s.2.1.1 - 1), (s.2.1.1 - 1, s.2.1.2), s.2.2) := by
  obtain ⟨h1, ⟨h2, h3⟩, ⟨h4, h5⟩, ⟨h6, h7⟩, ⟨h8, h9⟩, h10, h11⟩ := h
  refine ⟨fun i hi => ?_, ⟨by rw [up_ne (by decide)]; exact up_self, ?_⟩, ⟨by (repeat rw [up_ne (by decide)]); exact h4, fun z i hi => by (repeat rw [up_ne (by decide)]); exact h5 z i hi⟩, ⟨by (repeat rw [up_ne (by decide)]); exact h6, fun i hi => by (repeat rw [up_ne (by decide)]); exact h7 i hi⟩, ⟨by (repeat rw [up_ne (by decide)]); exact h8, by (repeat rw [up_ne (by decide)]); exact h9⟩, by (repeat rw [up_ne (by decide)]); exact h10, fun i hi => by (repeat rw [up_ne (by decide)]); exact h11 i hi⟩
  · rw [up_self, pk_cpy_in (Nat.zero_le _) (by omega), show (s.2.1.1 - 1) * 48 + (i - 0) = 48 * (s.2.1.1 - 1) + i by omega]
    exact h3 _ (by omega) i hi
  · rw [up_ne (by decide)]
    exact fun j hj i hi => h3 j (by show j < s.2.1.1; have : j < s.2.1.1 - 1 := hj; omega) i hi
theorem MR.sav {I : Nat → Int32} {A : Nat → Nat → Int32} {s : SG} {d : Int32} (h : MR I A s) : MR (va_up (va_up I 5 (nI 1)) 12 d) (va_up A 3 (va_cpy (A 0) (A 3) 0 0 48)) (savS s) := by
  obtain ⟨h1, ⟨h2, h3⟩, ⟨h4, h5⟩, ⟨h6, h7⟩, ⟨h8, h9⟩, h10, h11⟩ := h
  refine ⟨fun i hi => by (repeat rw [up_ne (by decide)]); exact h1 i hi, ⟨by (repeat rw [up_ne (by decide)]); exact h2, by (repeat rw [up_ne (by decide)]); exact h3⟩, ⟨by rw [up_ne (by decide), up_self]; rfl, fun z i hi => ?_⟩, ⟨by (repeat rw [up_ne (by decide)]); exact h6, fun i hi => by (repeat rw [up_ne (by decide)]); exact h7 i hi⟩, ⟨by (repeat rw [up_ne (by decide)]); exact h8, by (repeat rw [up_ne (by decide)]); exact h9⟩, by (repeat rw [up_ne (by decide)]); exact h10, fun i hi => by (repeat rw [up_ne (by decide)]); exact h11 i hi⟩
  rw [up_self, pk_cpy_in (Nat.zero_le _) (by omega), show 0 + (i - 0) = i by omega]
  exact h1 i hi
theorem MR.res {I : Nat → Int32} {A : Nat → Nat → Int32} {s : SG} {d : Int32} (h : MR I A s) (hb : s.2.2.1.1 = true) : MR (va_up (va_up I 3 (nI 0)) 12 d) (va_up A 0 (va_cpy (A 3) (A 0) 0 0 48)) (s.2.2.1.2, (0, s.2.1.2), s.2.2) := by
  obtain ⟨h1, ⟨h2, h3⟩, ⟨h4, h5⟩, ⟨h6, h7⟩, ⟨h8, h9⟩, h10, h11⟩ := h
  refine ⟨fun i hi => ?_, ⟨by rw [up_ne (by decide)]; exact up_self, fun j hj => absurd hj (Nat.not_lt_zero _)⟩, ⟨by (repeat rw [up_ne (by decide)]); exact h4, fun z i hi => by (repeat rw [up_ne (by decide)]); exact h5 z i hi⟩, ⟨by (repeat rw [up_ne (by decide)]); exact h6, fun i hi => by (repeat rw [up_ne (by decide)]); exact h7 i hi⟩, ⟨by (repeat rw [up_ne (by decide)]); exact h8, by (repeat rw [up_ne (by decide)]); exact h9⟩, by (repeat rw [up_ne (by decide)]); exact h10, fun i hi => by (repeat rw [up_ne (by decide)]); exact h11 i hi⟩
  rw [up_self, pk_cpy_in (Nat.zero_le _) (by omega), show 0 + (i - 0) = i by omega]
  exact h5 hb i hi
theorem MR.up12 {I : Nat → Int32} {A : Nat → Nat → Int32} {s : SG} {d : Int32} (h : MR I A s) : MR (va_up I 12 d) A s := h.keep (fun _ h1 _ _ => up_ne h1) (fun _ _ _ _ => rfl)
abbrev MX11_cardAt : MT := (RX11, cX11_cardAt, 2, (some .char), [], "cardAt")
set_option maxHeartbeats 4000000 in
theorem m_cardAt {l : Launch} {G : GT} {n : Nat} {f : HT} {o : Nat} {I : Nat → Int32} {A : Nat → Nat → Int32} {s : SG} (hR : MR I A s) (hc60 : s.2.2.2.2.2.1 ≤ 60) (hlt : ∀ i, i < s.2.2.2.2.2.1 → s.2.2.2.2.2.2 i < 128) (v : Int32) : AM l G yX11_cardAt (.code yX11_cardAt cX11_cardAt 2 (some .char)) 2 120 0 0 [.ref o, .int v] (mU f o I A) n (RQ f o I A (qAt s v) n) := by
  refine aw_enter (M := MX11_cardAt) rfl rfl (by decide +kernel) rfl (Nat.le_of_ble_eq_true rfl) ?_
  show AW l G MX11_cardAt 2 120 0 0 _ n 0 0 0 [(0, .ref o), (1, .int v)] [] _ n
  refine aw_aload_n dX11_cardAt_0 rfl rfl ?_
  refine aw_iload_n dX11_cardAt_1 rfl rfl ?_
  refine aw_iconst_n 0 dX11_cardAt_2 (by decide) ?_
  refine aw_aload_n dX11_cardAt_3 rfl rfl ?_
  refine aw_get (v := .int (nI s.2.2.2.2.2.1)) fl_X11_171 mU_0 (congrArg (fun z => some (Value.int z)) hR.2.2.2.2.2.1) dX11_cardAt_4 ?_
  refine aw_iconst_n 1 dX11_cardAt_7 (by decide) ?_
  refine aw_isub dX11_cardAt_8 ?_
  refine aw_sI (as := [Value.int v, Value.int (nI 0), Value.int ((nI s.2.2.2.2.2.1) - (nI 1))]) (rest := [Value.ref o]) mS_X11_in (m_in _ _ _) ml_X11_52 dX11_cardAt_9 rfl rfl (by decide) (Nat.le_of_ble_eq_true rfl) (by decide) ?_
  rw [in_isK (by omega)]
  refine aw_if_eq_b (tgt := 19) dX11_cardAt_12 (by decide) (fun c_1 => ?_) (fun c_1 => ?_)
  · refine aw_iconst_n 1 dX11_cardAt_19 (by decide) ?_
    refine aw_mput fp_X11_42 (by decide) rfl rfl dX11_cardAt_20 ?_
    refine aw_aload_n dX11_cardAt_23 rfl rfl ?_
    refine aw_get (v := .int (nI 1)) fl_X11_42 mU_0 rfl dX11_cardAt_24 ?_
    refine aw_if_ne_n (by omega) (tgt := 39) dX11_cardAt_27 (by decide) (fun c_2 => ?_) (fun c_2 => by exfalso; omega)
    refine aw_iconst_n 0 dX11_cardAt_39 (by decide) ?_
    have e : qAt s v = (1, 0) := by simp [qAt, c_1]
    rw [e]
    exact aw_zret rfl rfl (by decide) (by decide) dX11_cardAt_40 ⟨rfl, rfl, rfl⟩
  · obtain ⟨x, hx1, rfl⟩ := isK_of (by omega) c_1
    have hlx := hlt x hx1
    refine aw_iconst_n 0 dX11_cardAt_15 (by decide) ?_
    refine aw_goto (tgt := 20) dX11_cardAt_16 (by decide) ?_
    refine aw_mput fp_X11_42 (by decide) rfl rfl dX11_cardAt_20 ?_
    refine aw_aload_n dX11_cardAt_23 rfl rfl ?_
    refine aw_get (v := .int (nI 0)) fl_X11_42 mU_0 rfl dX11_cardAt_24 ?_
    refine aw_if_ne_n (by omega) (tgt := 39) dX11_cardAt_27 (by decide) (fun c_3 => by exfalso; omega) (fun c_3 => ?_)
    refine aw_aload_n dX11_cardAt_30 rfl rfl ?_
    refine aw_get (v := .ref (o + 6)) fl_X11_33 mU_0 rfl dX11_cardAt_31 ?_
    refine aw_iload_n dX11_cardAt_34 rfl rfl ?_
    refine aw_cald_n (k := x) (v := (nI (s.2.2.2.2.2.2 x))) mU_6 (by omega) (by decide) (hR.2.2.2.2.2.2 _ hx1) dX11_cardAt_35 ?_
    refine aw_goto (tgt := 40) dX11_cardAt_36 (by decide) ?_
    have e : qAt s (nI x) = (0, s.2.2.2.2.2.2 x) := by simp [qAt, c_1, nIc (show x < 2 ^ 31 by omega)]
    rw [e]
    exact aw_zret rfl (c128_narrow (by omega)) (by decide) (by decide) dX11_cardAt_40 ⟨rfl, rfl, rfl⟩
abbrev MX11_type : MT := (RX11, cX11_type, 2, (some .int), [], "type")
set_option maxHeartbeats 4000000 in
theorem m_type {l : Launch} {G : GT} {n : Nat} {f : HT} {o : Nat} {I : Nat → Int32} {A : Nat → Nat → Int32} {s : SG} (hR : MR I A s) (ht60 : s.2.2.2.1.1 ≤ 60) (v : Int32) : AM l G yX11_type (.code yX11_type cX11_type 2 (some .int)) 2 120 0 0 [.ref o, .int v] (mU f o I A) n (PG f o (nI (qType s v).2) (typS s v) (qType s v).1 n) := by
  refine aw_enter (M := MX11_type) rfl rfl (by decide +kernel) rfl (Nat.le_of_ble_eq_true rfl) ?_
  show AW l G MX11_type 2 120 0 0 _ n 0 0 0 [(0, .ref o), (1, .int v)] [] _ n
  refine aw_iload_n dX11_type_0 rfl rfl ?_
  refine aw_bipush_n 32 dX11_type_1 (by decide) ?_
  refine aw_bipush_n 126 dX11_type_3 (by decide) ?_
  refine aw_sI (as := [Value.int v, Value.int (nI 32), Value.int (nI 126)]) (rest := []) mS_X11_in (m_in _ _ _) ml_X11_52 dX11_type_5 rfl rfl (by decide) (Nat.le_of_ble_eq_true rfl) (by decide) ?_
  refine aw_if_ne_b (tgt := 17) dX11_type_8 (by decide) (fun c_1 => ?_) (fun c_1 => ?_)
  · obtain ⟨x, hx0, hx1, rfl⟩ := inB_of (by decide) (by decide) c_1
    have hnx := nIc (show x < 2 ^ 31 by omega)
    refine aw_aload_n dX11_type_17 rfl rfl ?_
    refine aw_get (v := .int (nI s.2.2.2.1.1)) fl_X11_185 mU_0 (congrArg (fun z => some (Value.int z)) hR.2.2.2.1.1) dX11_type_18 ?_
    refine aw_bipush_n 60 dX11_type_21 (by decide) ?_
    refine aw_icmp_ne_n (by omega) (by omega) (tgt := 32) dX11_type_23 (by decide) (fun c_2 => ?_) (fun c_2 => ?_)
    · refine aw_aload_n dX11_type_32 rfl rfl ?_
      refine aw_get (v := .ref (o + 5)) fl_X11_22 mU_0 rfl dX11_type_33 ?_
      refine aw_aload_n dX11_type_36 rfl rfl ?_
      refine aw_get (v := .int (nI s.2.2.2.1.1)) fl_X11_185 mU_0 (congrArg (fun z => some (Value.int z)) hR.2.2.2.1.1) dX11_type_37 ?_
      refine aw_iload_n dX11_type_40 rfl rfl ?_
      refine aw_cast_n (k := s.2.2.2.1.1) mU_5 (by omega) (by decide) (c128_nar (by omega)) dX11_type_41 ?_
      rw [mU_A4]
      refine aw_aload_n dX11_type_42 rfl rfl ?_
      refine aw_dup dX11_type_43 rfl ?_
      refine aw_get (v := .int (nI s.2.2.2.1.1)) fl_X11_185 mU_0 (congrArg (fun z => some (Value.int z)) hR.2.2.2.1.1) dX11_type_44 ?_
      refine aw_iconst_n 1 dX11_type_47 (by decide) ?_
      refine aw_iadd_n dX11_type_48 ?_
      refine aw_mput fp_X11_185 (by decide) rfl rfl dX11_type_49 ?_
      refine aw_aload_n dX11_type_52 rfl rfl ?_
      refine aw_aload_n dX11_type_53 rfl rfl ?_
      refine aw_get (v := .int (nI (s.2.2.2.1.1 + 1))) fl_X11_185 mU_0 rfl dX11_type_54 ?_
      refine aw_vI (as := [Value.int (nI (s.2.2.2.1.1 + 1))]) (rest := []) mV_X11_done (m_done (nI (s.2.2.2.1.1 + 1))) ml_X11_60 mU_0 rfl dX11_type_57 rfl rfl (by decide) (Nat.le_of_ble_eq_true rfl) (by decide) ?_
      have e : qType s (nI x) = (0, s.2.2.2.1.1 + 1) := by unfold qType; rw [if_pos c_1, if_neg (by omega)]
      have e2 : typS s (nI x) = (s.1, s.2.1, s.2.2.1, (s.2.2.2.1.1 + 1, va_up s.2.2.2.1.2 s.2.2.2.1.1 x), s.2.2.2.2) := by unfold typS; rw [e, if_pos rfl, hnx]
      rw [e2, e]
      exact aw_iret rfl (by decide) (by decide) dX11_type_60 ⟨rfl, rfl, _, _, rfl, MR.typ hR (by omega), up_self⟩
    · refine aw_aload_n dX11_type_26 rfl rfl ?_
      refine aw_iconst_n 2 dX11_type_27 (by decide) ?_
      refine aw_vI (as := [Value.int (nI 2)]) (rest := []) mV_X11_fails (m_fails 2) ml_X11_56 mU_0 rfl dX11_type_28 rfl rfl (by decide) (Nat.le_of_ble_eq_true rfl) (by decide) ?_
      have e : qType s (nI x) = (2, 0) := by unfold qType; rw [if_pos c_1, if_pos (by omega)]
      have e2 : typS s (nI x) = s := by unfold typS; rw [e, if_neg (by decide)]
      rw [e2, e]
      exact aw_iret rfl (by decide) (by decide) dX11_type_31 ⟨rfl, rfl, _, _, rfl, hR.up12, up_self⟩
  · refine aw_aload_n dX11_type_11 rfl rfl ?_
    refine aw_iconst_n 1 dX11_type_12 (by decide) ?_
    refine aw_vI (as := [Value.int (nI 1)]) (rest := []) mV_X11_fails (m_fails 1) ml_X11_56 mU_0 rfl dX11_type_13 rfl rfl (by decide) (Nat.le_of_ble_eq_true rfl) (by decide) ?_
    have e : qType s v = (1, 0) := by simp [qType, c_1]
    have e2 : typS s v = s := by unfold typS; rw [e, if_neg (by decide)]
    rw [e2, e]
    exact aw_iret rfl (by decide) (by decide) dX11_type_16 ⟨rfl, rfl, _, _, rfl, hR.up12, up_self⟩
abbrev MX11_errorPosition : MT := (RX11, cX11_errorPosition, 1, (some .int), [], "errorPosition")
set_option maxHeartbeats 4000000 in
theorem m_errorPosition {l : Launch} {G : GT} {n : Nat} {f : HT} {o : Nat} {I : Nat → Int32} {A : Nat → Nat → Int32} {s : SG} (hR : MR I A s) : AM l G yX11_errorPosition (.code yX11_errorPosition cX11_errorPosition 1 (some .int)) 2 120 0 0 [.ref o] (mU f o I A) n (PG f o (qE s.2.2.2.2.1.1).2 s (qE s.2.2.2.2.1.1).1 n) := by
  refine aw_enter (M := MX11_errorPosition) rfl rfl (by decide +kernel) rfl (Nat.le_of_ble_eq_true rfl) ?_
  show AW l G MX11_errorPosition 2 120 0 0 _ n 0 0 0 [(0, .ref o)] [] _ n
  refine aw_aload_n dX11_errorPosition_0 rfl rfl ?_
  refine aw_get (v := .int s.2.2.2.2.1.1) fl_X11_26 mU_0 (congrArg (fun z => some (Value.int z)) hR.2.2.2.2.1.1) dX11_errorPosition_1 ?_
  refine aw_iconst (v := -1) dX11_errorPosition_4 (by decide) ?_
  refine aw_icmp_ne (tgt := 16) dX11_errorPosition_5 (by decide) (fun c_1 => ?_) (fun c_1 => ?_)
  · refine aw_aload_n dX11_errorPosition_16 rfl rfl ?_
    refine aw_aload_n dX11_errorPosition_17 rfl rfl ?_
    refine aw_get (v := .int s.2.2.2.2.1.1) fl_X11_26 mU_0 (congrArg (fun z => some (Value.int z)) hR.2.2.2.2.1.1) dX11_errorPosition_18 ?_
    refine aw_vI (as := [Value.int s.2.2.2.2.1.1]) (rest := []) mV_X11_done (m_done s.2.2.2.2.1.1) ml_X11_60 mU_0 rfl dX11_errorPosition_21 rfl rfl (by decide) (Nat.le_of_ble_eq_true rfl) (by decide) ?_
    have e : qE s.2.2.2.2.1.1 = (0, s.2.2.2.2.1.1) := by unfold qE; rw [if_neg c_1]
    rw [e]
    exact aw_iret rfl (by decide) (by decide) dX11_errorPosition_24 ⟨rfl, rfl, _, _, rfl, hR.up12, up_self⟩
  · refine aw_aload_n dX11_errorPosition_8 rfl rfl ?_
    refine aw_iconst_n 1 dX11_errorPosition_9 (by decide) ?_
    refine aw_vI (as := [Value.int (nI 1)]) (rest := []) mV_X11_fails (m_fails 1) ml_X11_56 mU_0 rfl dX11_errorPosition_10 rfl rfl (by decide) (Nat.le_of_ble_eq_true rfl) (by decide) ?_
    refine aw_goto (tgt := 24) dX11_errorPosition_13 (by decide) ?_
    have e : qE s.2.2.2.2.1.1 = (1, nI 0) := by unfold qE; rw [if_pos (by simpa using c_1)]
    rw [e]
    exact aw_iret rfl (by decide) (by decide) dX11_errorPosition_24 ⟨rfl, rfl, _, _, rfl, hR.up12, up_self⟩
abbrev MX11_failedCommand : MT := (RX11, cX11_failedCommand, 1, (some .int), [], "failedCommand")
set_option maxHeartbeats 4000000 in
theorem m_failedCommand {l : Launch} {G : GT} {n : Nat} {f : HT} {o : Nat} {I : Nat → Int32} {A : Nat → Nat → Int32} {s : SG} (hR : MR I A s) : AM l G yX11_failedCommand (.code yX11_failedCommand cX11_failedCommand 1 (some .int)) 2 120 0 0 [.ref o] (mU f o I A) n (PG f o (qE s.2.2.2.2.1.2).2 s (qE s.2.2.2.2.1.2).1 n) := by
  refine aw_enter (M := MX11_failedCommand) rfl rfl (by decide +kernel) rfl (Nat.le_of_ble_eq_true rfl) ?_
  show AW l G MX11_failedCommand 2 120 0 0 _ n 0 0 0 [(0, .ref o)] [] _ n
  refine aw_aload_n dX11_failedCommand_0 rfl rfl ?_
  refine aw_get (v := .int s.2.2.2.2.1.2) fl_X11_30 mU_0 (congrArg (fun z => some (Value.int z)) hR.2.2.2.2.1.2) dX11_failedCommand_1 ?_
  refine aw_iconst (v := -1) dX11_failedCommand_4 (by decide) ?_
  refine aw_icmp_ne (tgt := 16) dX11_failedCommand_5 (by decide) (fun c_1 => ?_) (fun c_1 => ?_)
  · refine aw_aload_n dX11_failedCommand_16 rfl rfl ?_
    refine aw_aload_n dX11_failedCommand_17 rfl rfl ?_
    refine aw_get (v := .int s.2.2.2.2.1.2) fl_X11_30 mU_0 (congrArg (fun z => some (Value.int z)) hR.2.2.2.2.1.2) dX11_failedCommand_18 ?_
    refine aw_vI (as := [Value.int s.2.2.2.2.1.2]) (rest := []) mV_X11_done (m_done s.2.2.2.2.1.2) ml_X11_60 mU_0 rfl dX11_failedCommand_21 rfl rfl (by decide) (Nat.le_of_ble_eq_true rfl) (by decide) ?_
    have e : qE s.2.2.2.2.1.2 = (0, s.2.2.2.2.1.2) := by unfold qE; rw [if_neg c_1]
    rw [e]
    exact aw_iret rfl (by decide) (by decide) dX11_failedCommand_24 ⟨rfl, rfl, _, _, rfl, hR.up12, up_self⟩
  · refine aw_aload_n dX11_failedCommand_8 rfl rfl ?_
    refine aw_iconst_n 1 dX11_failedCommand_9 (by decide) ?_
    refine aw_vI (as := [Value.int (nI 1)]) (rest := []) mV_X11_fails (m_fails 1) ml_X11_56 mU_0 rfl dX11_failedCommand_10 rfl rfl (by decide) (Nat.le_of_ble_eq_true rfl) (by decide) ?_
    refine aw_goto (tgt := 24) dX11_failedCommand_13 (by decide) ?_
    have e : qE s.2.2.2.2.1.2 = (1, nI 0) := by unfold qE; rw [if_pos (by simpa using c_1)]
    rw [e]
    exact aw_iret rfl (by decide) (by decide) dX11_failedCommand_24 ⟨rfl, rfl, _, _, rfl, hR.up12, up_self⟩
abbrev MX11_undo : MT := (RX11, cX11_undo, 1, (some .int), [], "undo")
set_option maxHeartbeats 4000000 in
theorem m_undo {l : Launch} {G : GT} {n : Nat} {f : HT} {o : Nat} {I : Nat → Int32} {A : Nat → Nat → Int32} {s : SG} (hR : MR I A s) (hc8 : s.2.1.1 ≤ 8) : AM l G yX11_undo (.code yX11_undo cX11_undo 1 (some .int)) 2 120 0 0 [.ref o] (mU f o I A) n (PG f o (nI (qUndo s).2) (undS s) (qUndo s).1 n) := by
  refine aw_enter (M := MX11_undo) rfl rfl (by decide +kernel) rfl (Nat.le_of_ble_eq_true rfl) ?_
  show AW l G MX11_undo 2 120 0 0 _ n 0 0 0 [(0, .ref o)] [] _ n
  refine aw_aload_n dX11_undo_0 rfl rfl ?_
  refine aw_get (v := .int (nI s.2.1.1)) fl_X11_49 mU_0 (congrArg (fun z => some (Value.int z)) hR.2.1.1) dX11_undo_1 ?_
  refine aw_if_ne_n (by omega) (tgt := 13) dX11_undo_4 (by decide) (fun c_1 => ?_) (fun c_1 => ?_)
  · refine aw_aload_n dX11_undo_13 rfl rfl ?_
    refine aw_dup dX11_undo_14 rfl ?_
    refine aw_get (v := .int (nI s.2.1.1)) fl_X11_49 mU_0 (congrArg (fun z => some (Value.int z)) hR.2.1.1) dX11_undo_15 ?_
    refine aw_iconst_n 1 dX11_undo_18 (by decide) ?_
    refine aw_isub_n (by omega) dX11_undo_19 ?_
    refine aw_mput fp_X11_49 (by decide) rfl rfl dX11_undo_20 ?_
    refine aw_aload_n dX11_undo_23 rfl rfl ?_
    refine aw_get (v := .ref (o + 3)) fl_X11_16 mU_0 rfl dX11_undo_24 ?_
    refine aw_aload_n dX11_undo_27 rfl rfl ?_
    refine aw_get (v := .int (nI (s.2.1.1 - 1))) fl_X11_49 mU_0 rfl dX11_undo_28 ?_
    refine aw_bipush_n 48 dX11_undo_31 (by decide) ?_
    refine aw_imul_n dX11_undo_33 ?_
    refine aw_aload_n dX11_undo_34 rfl rfl ?_
    refine aw_get (v := .ref (o + 1)) fl_X11_7 mU_0 rfl dX11_undo_35 ?_
    refine aw_iconst_n 0 dX11_undo_38 (by decide) ?_
    refine aw_sV (as := [Value.ref (o + 3), Value.int (nI ((s.2.1.1 - 1) * 48)), Value.ref (o + 1), Value.int (nI 0)]) (rest := []) mS_X11_copy (m_copy (by omega) mU_3 mU_1 (by omega) (by omega) (by decide) (by decide)) ml_X11_45 dX11_undo_39 rfl rfl (by decide) (Nat.le_of_ble_eq_true rfl) (by decide) ?_
    rw [mU_A0]
    refine aw_aload_n dX11_undo_42 rfl rfl ?_
    refine aw_aload_n dX11_undo_43 rfl rfl ?_
    refine aw_get (v := .int (nI (s.2.1.1 - 1))) fl_X11_49 mU_0 rfl dX11_undo_44 ?_
    refine aw_vI (as := [Value.int (nI (s.2.1.1 - 1))]) (rest := []) mV_X11_done (m_done (nI (s.2.1.1 - 1))) ml_X11_60 mU_0 rfl dX11_undo_47 rfl rfl (by decide) (Nat.le_of_ble_eq_true rfl) (by decide) ?_
    have e : qUndo s = (0, s.2.1.1 - 1) := by unfold qUndo; rw [if_neg (by omega)]
    have e2 : undS s = (s.2.1.2 (s.2.1.1 - 1), (s.2.1.1 - 1, s.2.1.2), s.2.2) := by unfold undS; rw [if_neg (by omega)]
    rw [e2, e]
    exact aw_iret rfl (by decide) (by decide) dX11_undo_50 ⟨rfl, rfl, _, _, rfl, MR.und hR (by omega), up_self⟩
  · refine aw_aload_n dX11_undo_7 rfl rfl ?_
    refine aw_iconst_n 1 dX11_undo_8 (by decide) ?_
    refine aw_vI (as := [Value.int (nI 1)]) (rest := []) mV_X11_fails (m_fails 1) ml_X11_56 mU_0 rfl dX11_undo_9 rfl rfl (by decide) (Nat.le_of_ble_eq_true rfl) (by decide) ?_
    have e : qUndo s = (1, 0) := by unfold qUndo; rw [if_pos (by omega)]
    have e2 : undS s = s := by unfold undS; rw [if_pos (by omega)]
    rw [e2, e]
    exact aw_iret rfl (by decide) (by decide) dX11_undo_12 ⟨rfl, rfl, _, _, rfl, hR.up12, up_self⟩
abbrev MX11_save : MT := (RX11, cX11_save, 1, (some .int), [], "save")
set_option maxHeartbeats 4000000 in
theorem m_save {l : Launch} {G : GT} {n : Nat} {f : HT} {o : Nat} {I : Nat → Int32} {A : Nat → Nat → Int32} {s : SG} (hR : MR I A s) : AM l G yX11_save (.code yX11_save cX11_save 1 (some .int)) 2 120 0 0 [.ref o] (mU f o I A) n (PG f o (nI (s.1 0)) (savS s) 0 n) := by
  refine aw_enter (M := MX11_save) rfl rfl (by decide +kernel) rfl (Nat.le_of_ble_eq_true rfl) ?_
  show AW l G MX11_save 2 120 0 0 _ n 0 0 0 [(0, .ref o)] [] _ n
  refine aw_aload_n dX11_save_0 rfl rfl ?_
  refine aw_get (v := .ref (o + 1)) fl_X11_7 mU_0 rfl dX11_save_1 ?_
  refine aw_iconst_n 0 dX11_save_4 (by decide) ?_
  refine aw_aload_n dX11_save_5 rfl rfl ?_
  refine aw_get (v := .ref (o + 4)) fl_X11_19 mU_0 rfl dX11_save_6 ?_
  refine aw_iconst_n 0 dX11_save_9 (by decide) ?_
  refine aw_sV (as := [Value.ref (o + 1), Value.int (nI 0), Value.ref (o + 4), Value.int (nI 0)]) (rest := []) mS_X11_copy (m_copy (by omega) mU_1 mU_4 (by omega) (by omega) (by decide) (by decide)) ml_X11_45 dX11_save_10 rfl rfl (by decide) (Nat.le_of_ble_eq_true rfl) (by decide) ?_
  rw [mU_A3]
  refine aw_aload_n dX11_save_13 rfl rfl ?_
  refine aw_iconst_n 1 dX11_save_14 (by decide) ?_
  refine aw_mput fp_X11_217 (by decide) rfl rfl dX11_save_15 ?_
  refine aw_aload_n dX11_save_18 rfl rfl ?_
  refine aw_aload_n dX11_save_19 rfl rfl ?_
  refine aw_get (v := .ref (o + 1)) fl_X11_7 mU_0 rfl dX11_save_20 ?_
  refine aw_iconst_n 0 dX11_save_23 (by decide) ?_
  refine aw_iald_n (k := 0) (v := (nI (s.1 0))) mU_1 (by omega) (by decide) (by rw [up_ne (by decide)]; exact hR.1 0 (by decide)) dX11_save_24 ?_
  refine aw_vI (as := [Value.int (nI (s.1 0))]) (rest := []) mV_X11_done (m_done (nI (s.1 0))) ml_X11_60 mU_0 rfl dX11_save_25 rfl rfl (by decide) (Nat.le_of_ble_eq_true rfl) (by decide) ?_
  
  exact aw_iret rfl (by decide) (by decide) dX11_save_28 ⟨rfl, rfl, _, _, rfl, MR.sav hR, up_self⟩
abbrev MX11_restore : MT := (RX11, cX11_restore, 1, (some .int), [], "restore")
set_option maxHeartbeats 4000000 in
theorem m_restore {l : Launch} {G : GT} {n : Nat} {f : HT} {o : Nat} {I : Nat → Int32} {A : Nat → Nat → Int32} {s : SG} (hR : MR I A s) : AM l G yX11_restore (.code yX11_restore cX11_restore 1 (some .int)) 2 120 0 0 [.ref o] (mU f o I A) n (PG f o (nI (qRes s).2) (resS s) (qRes s).1 n) := by
  refine aw_enter (M := MX11_restore) rfl rfl (by decide +kernel) rfl (Nat.le_of_ble_eq_true rfl) ?_
  show AW l G MX11_restore 2 120 0 0 _ n 0 0 0 [(0, .ref o)] [] _ n
  refine aw_aload_n dX11_restore_0 rfl rfl ?_
  refine aw_get (v := .int (bI s.2.2.1.1)) fl_X11_217 mU_0 (congrArg (fun z => some (Value.int z)) hR.2.2.1.1) dX11_restore_1 ?_
  refine aw_if_ne_b (tgt := 13) dX11_restore_4 (by decide) (fun c_1 => ?_) (fun c_1 => ?_)
  · refine aw_aload_n dX11_restore_13 rfl rfl ?_
    refine aw_get (v := .ref (o + 4)) fl_X11_19 mU_0 rfl dX11_restore_14 ?_
    refine aw_iconst_n 0 dX11_restore_17 (by decide) ?_
    refine aw_aload_n dX11_restore_18 rfl rfl ?_
    refine aw_get (v := .ref (o + 1)) fl_X11_7 mU_0 rfl dX11_restore_19 ?_
    refine aw_iconst_n 0 dX11_restore_22 (by decide) ?_
    refine aw_sV (as := [Value.ref (o + 4), Value.int (nI 0), Value.ref (o + 1), Value.int (nI 0)]) (rest := []) mS_X11_copy (m_copy (by omega) mU_4 mU_1 (by omega) (by omega) (by decide) (by decide)) ml_X11_45 dX11_restore_23 rfl rfl (by decide) (Nat.le_of_ble_eq_true rfl) (by decide) ?_
    rw [mU_A0]
    refine aw_aload_n dX11_restore_26 rfl rfl ?_
    refine aw_iconst_n 0 dX11_restore_27 (by decide) ?_
    refine aw_mput fp_X11_49 (by decide) rfl rfl dX11_restore_28 ?_
    refine aw_aload_n dX11_restore_31 rfl rfl ?_
    refine aw_aload_n dX11_restore_32 rfl rfl ?_
    refine aw_get (v := .ref (o + 1)) fl_X11_7 mU_0 rfl dX11_restore_33 ?_
    refine aw_iconst_n 0 dX11_restore_36 (by decide) ?_
    refine aw_iald_n (k := 0) (v := (nI (s.2.2.1.2 0))) mU_1 (by omega) (by decide) (by rw [up_self, pk_cpy_in (Nat.zero_le _) (by omega)]; exact hR.2.2.1.2 c_1 0 (by decide)) dX11_restore_37 ?_
    refine aw_vI (as := [Value.int (nI (s.2.2.1.2 0))]) (rest := []) mV_X11_done (m_done (nI (s.2.2.1.2 0))) ml_X11_60 mU_0 rfl dX11_restore_38 rfl rfl (by decide) (Nat.le_of_ble_eq_true rfl) (by decide) ?_
    have e : qRes s = (0, s.2.2.1.2 0) := by unfold qRes; rw [if_pos c_1]
    have e2 : resS s = (s.2.2.1.2, (0, s.2.1.2), s.2.2) := by unfold resS; rw [if_pos c_1]
    rw [e2, e]
    exact aw_iret rfl (by decide) (by decide) dX11_restore_41 ⟨rfl, rfl, _, _, rfl, MR.res hR c_1, up_self⟩
  · refine aw_aload_n dX11_restore_7 rfl rfl ?_
    refine aw_iconst_n 1 dX11_restore_8 (by decide) ?_
    refine aw_vI (as := [Value.int (nI 1)]) (rest := []) mV_X11_fails (m_fails 1) ml_X11_56 mU_0 rfl dX11_restore_9 rfl rfl (by decide) (Nat.le_of_ble_eq_true rfl) (by decide) ?_
    have e : qRes s = (1, 0) := by simp [qRes, c_1]
    have e2 : resS s = s := by simp [resS, c_1]
    rw [e2, e]
    exact aw_iret rfl (by decide) (by decide) dX11_restore_12 ⟨rfl, rfl, _, _, rfl, hR.up12, up_self⟩
abbrev MX11_thrown : MT := (RX11, cX11_thrown, 1, (some .int), [], "thrown")
set_option maxHeartbeats 4000000 in
theorem m_thrown {l : Launch} {G : GT} {n : Nat} {f : HT} {o : Nat} {I : Nat → Int32} {A : Nat → Nat → Int32} {c : Nat} (h12 : I 12 = nI c) : AM l G yX11_thrown (.code yX11_thrown cX11_thrown 1 (some .int)) 0 0 0 0 [.ref o] (mU f o I A) n (rI (nI c) (mU f o I A) n) := by
  refine aw_enter (M := MX11_thrown) rfl rfl (by decide +kernel) rfl (Nat.le_of_ble_eq_true rfl) ?_
  show AW l G MX11_thrown 0 0 0 0 _ n 0 0 0 [(0, .ref o)] [] _ n
  refine aw_aload_n dX11_thrown_0 rfl rfl ?_
  refine aw_get (v := .int (I 12)) fl_X11_42 mU_0 rfl dX11_thrown_1 ?_
  exact aw_iret rfl (by decide) (by decide) dX11_thrown_4 (rI_of (by rw [h12]))
