abbrev MX11_adds : MT := (RX11, cX11_adds, 2, (some .int), [], "adds")
set_option maxHeartbeats 4000000 in
theorem m_adds {l : Launch} {G : GT} {n : Nat} {f : HT} {o : Nat} {I : Nat → Int32} {A : Nat → Nat → Int32} {K : Nat} {V : Nat → Nat} (hA : Mok A V) (hB : VB K V) (a : Int32) : AM l G yX11_adds (.code yX11_adds cX11_adds 2 (some .int)) 2 120 0 0 [.ref o, .int a] (mU f o I A) n (PO f o I A (opAdd V a) n) := by
  refine aw_enter (M := MX11_adds) rfl rfl (by decide +kernel) rfl (Nat.le_of_ble_eq_true rfl) ?_
  have hcnt := VB.cnt hB
  have hleg := VB.legs hB
  have hfr := VB.fric hB
  show AW l G MX11_adds 2 120 0 0 _ n 0 0 0 [(0, .ref o), (1, .int a)] [] _ n
  refine aw_iload_n dX11_adds_0 rfl rfl ?_
  refine aw_iconst_n 1 dX11_adds_1 (by decide) ?_
  refine aw_bipush_n 99 dX11_adds_2 (by decide) ?_
  refine aw_sI (as := [Value.int a, Value.int (nI 1), Value.int (nI 99)]) (rest := []) mS_X11_in (m_in _ _ _) ml_X11_52 dX11_adds_4 rfl rfl (by decide) (Nat.le_of_ble_eq_true rfl) (by decide) ?_
  refine aw_if_ne_b (tgt := 16) dX11_adds_7 (by decide) (fun c_1 => ?_) (fun c_1 => ?_)
  · obtain ⟨x, hx1, hx2, rfl⟩ := inB_of (by decide) (by decide) c_1
    refine aw_aload_n dX11_adds_16 rfl rfl ?_
    refine aw_get (v := .ref (o + 1)) fl_X11_7 mU_0 rfl dX11_adds_17 ?_
    refine aw_iconst_n 2 dX11_adds_20 (by decide) ?_
    refine aw_mld hA (k := 2) (by omega) dX11_adds_21 ?_
    have hb_2 : V 2 < 16000000 := VB.lt hB (by omega)
    refine aw_bipush_n 8 dX11_adds_22 (by decide) ?_
    refine aw_icmp_ne_n (by omega) (by omega) (tgt := 33) dX11_adds_24 (by decide) (fun c_3 => ?_) (fun c_3 => ?_)
    · refine aw_aload_n dX11_adds_33 rfl rfl ?_
      refine aw_get (v := .ref (o + 1)) fl_X11_7 mU_0 rfl dX11_adds_34 ?_
      refine aw_iconst_n 4 dX11_adds_37 (by decide) ?_
      refine aw_aload_n dX11_adds_38 rfl rfl ?_
      refine aw_get (v := .ref (o + 1)) fl_X11_7 mU_0 rfl dX11_adds_39 ?_
      refine aw_iconst_n 2 dX11_adds_42 (by decide) ?_
      refine aw_mld hA (k := 2) (by omega) dX11_adds_43 ?_
      have hb_4 : V 2 < 16000000 := VB.lt hB (by omega)
      refine aw_iadd_n dX11_adds_44 ?_
      refine aw_iload_n dX11_adds_45 rfl rfl ?_
      refine aw_mst hA (k := 4 + (V 2)) (x := x) (by omega) dX11_adds_46 (fun A_5 hA_6 hR_7 => ?_)
      refine aw_aload_n dX11_adds_47 rfl rfl ?_
      refine aw_get (v := .ref (o + 1)) fl_X11_7 mU_0 rfl dX11_adds_48 ?_
      refine aw_iconst_n 2 dX11_adds_51 (by decide) ?_
      refine aw_dup2 dX11_adds_52 rfl rfl ?_
      refine aw_mldv hA_6 (k := 2) (v := V 2) (by omega) (by rw [up_ne (by omega)]) dX11_adds_53 ?_
      have hb_8 : V 2 < 16000000 := VB.lt hB (by omega)
      refine aw_iconst_n 1 dX11_adds_54 (by decide) ?_
      refine aw_iadd_n dX11_adds_55 ?_
      refine aw_mst hA_6 (k := 2) (x := (V 2) + 1) (by omega) dX11_adds_56 (fun A_9 hA_10 hR_11 => ?_)
      refine aw_aload_n dX11_adds_57 rfl rfl ?_
      refine aw_aload_n dX11_adds_58 rfl rfl ?_
      refine aw_get (v := .ref (o + 1)) fl_X11_7 mU_0 rfl dX11_adds_59 ?_
      refine aw_iconst_n 2 dX11_adds_62 (by decide) ?_
      refine aw_mldv hA_10 (k := 2) (v := (V 2) + 1) (by omega) (by rw [up_self]) dX11_adds_63 ?_
      refine aw_iconst_n 1 dX11_adds_64 (by decide) ?_
      refine aw_isub_n (by omega) dX11_adds_65 ?_
      refine aw_vI (as := [Value.int (nI (((V 2) + 1) - 1))]) (rest := []) mV_X11_done (m_done (nI (((V 2) + 1) - 1))) ml_X11_60 mU_0 rfl dX11_adds_66 rfl rfl (by decide) (Nat.le_of_ble_eq_true rfl) (by decide) ?_
      exact aw_iret rfl (by decide) (by decide) dX11_adds_69 (PO_of (by simp only [opAdd, c_1, nIc (show x < 2 ^ 31 by omega)]; simp [c_3]) hA_10 (fun j h9 => (hR_11 j h9).trans (hR_7 j h9)))
    · refine aw_aload_n dX11_adds_27 rfl rfl ?_
      refine aw_iconst_n 2 dX11_adds_28 (by decide) ?_
      refine aw_vI (as := [Value.int (nI 2)]) (rest := []) mV_X11_fails (m_fails 2) ml_X11_56 mU_0 rfl dX11_adds_29 rfl rfl (by decide) (Nat.le_of_ble_eq_true rfl) (by decide) ?_
      exact aw_iret rfl (by decide) (by decide) dX11_adds_32 (PO_of (by simp [opAdd, c_1, c_3]) hA (fun _ _ => rfl))
  · refine aw_aload_n dX11_adds_10 rfl rfl ?_
    refine aw_iconst_n 1 dX11_adds_11 (by decide) ?_
    refine aw_vI (as := [Value.int (nI 1)]) (rest := []) mV_X11_fails (m_fails 1) ml_X11_56 mU_0 rfl dX11_adds_12 rfl rfl (by decide) (Nat.le_of_ble_eq_true rfl) (by decide) ?_
    exact aw_iret rfl (by decide) (by decide) dX11_adds_15 (PO_of (by simp [opAdd, c_1]) hA (fun _ _ => rfl))
abbrev MX11_catches : MT := (RX11, cX11_catches, 3, (some .int), [], "catches")
set_option maxHeartbeats 4000000 in
theorem m_catches {l : Launch} {G : GT} {n : Nat} {f : HT} {o : Nat} {I : Nat → Int32} {A : Nat → Nat → Int32} {K : Nat} {V : Nat → Nat} (hA : Mok A V) (hB : VB K V) (v : Int32) : AM l G yX11_catches (.code yX11_catches cX11_catches 3 (some .int)) 2 120 0 0 [.ref o, .int v] (mU f o I A) n (PO f o I A (opCatch V v) n) := by
  refine aw_enter (M := MX11_catches) rfl rfl (by decide +kernel) rfl (Nat.le_of_ble_eq_true rfl) ?_
  have hcnt := VB.cnt hB
  have hleg := VB.legs hB
  have hfr := VB.fric hB
  show AW l G MX11_catches 2 120 0 0 _ n 0 0 0 [(0, .ref o), (1, .int v)] [] _ n
  refine aw_aload_n dX11_catches_0 rfl rfl ?_
  refine aw_iload_n dX11_catches_1 rfl rfl ?_
  refine aw_vI (as := [Value.int v]) (rest := []) mV_X11_isPendulum (m_isP hA (c := V 2) v rfl (by omega)) ml_X11_72 mU_0 rfl dX11_catches_2 rfl rfl (by decide) (Nat.le_of_ble_eq_true rfl) (by decide) ?_
  refine aw_if_ne_b (tgt := 14) dX11_catches_5 (by decide) (fun c_1 => ?_) (fun c_1 => ?_)
  · obtain ⟨x, hx1, rfl⟩ := isK_of (by omega) c_1
    have hax := VB.amp hB (k := x) (by omega)
    refine aw_aload_n dX11_catches_14 rfl rfl ?_
    refine aw_iload_n dX11_catches_15 rfl rfl ?_
    refine aw_vI (as := [Value.int (nI x)]) (rest := []) mV_X11_rests (m_rests hA (k := x) (a := V (12 + x)) (by omega) rfl (by omega)) ml_X11_76 mU_0 rfl dX11_catches_16 rfl rfl (by decide) (Nat.le_of_ble_eq_true rfl) (by decide) ?_
    refine aw_if_eq_b (tgt := 28) dX11_catches_19 (by decide) (fun c_2 => ?_) (fun c_2 => ?_)
    · refine aw_aload_n dX11_catches_28 rfl rfl ?_
      refine aw_get (v := .ref (o + 1)) fl_X11_7 mU_0 rfl dX11_catches_29 ?_
      refine aw_bipush_n 12 dX11_catches_32 (by decide) ?_
      refine aw_iload_n dX11_catches_34 rfl rfl ?_
      refine aw_iadd_n dX11_catches_35 ?_
      refine aw_mld hA (k := 12 + x) (by omega) dX11_catches_36 ?_
      have hb_3 : V (12 + x) < 16000000 := VB.lt hB (by omega)
      refine aw_istore_n (L' := [(2, .int (nI (V (12 + x)))), (0, .ref o), (1, .int (nI x))]) dX11_catches_37 rfl (by decide) rfl ?_
      refine aw_aload_n dX11_catches_38 rfl rfl ?_
      refine aw_get (v := .ref (o + 1)) fl_X11_7 mU_0 rfl dX11_catches_39 ?_
      refine aw_bipush_n 12 dX11_catches_42 (by decide) ?_
      refine aw_iload_n dX11_catches_44 rfl rfl ?_
      refine aw_iadd_n dX11_catches_45 ?_
      refine aw_iconst_n 0 dX11_catches_46 (by decide) ?_
      refine aw_mst hA (k := 12 + x) (x := 0) (by omega) dX11_catches_47 (fun A_4 hA_5 hR_6 => ?_)
      refine aw_aload_n dX11_catches_48 rfl rfl ?_
      refine aw_iload_n dX11_catches_49 rfl rfl ?_
      refine aw_vI (as := [Value.int (nI (V (12 + x)))]) (rest := []) mV_X11_done (m_done (nI (V (12 + x)))) ml_X11_60 mU_0 rfl dX11_catches_50 rfl rfl (by decide) (Nat.le_of_ble_eq_true rfl) (by decide) ?_
      exact aw_iret rfl (by decide) (by decide) dX11_catches_53 (PO_of (by simp_all [opCatch, nIc (show x < 2 ^ 31 by omega)]) hA_5 (fun j h9 => (hR_6 j h9)))
    · refine aw_aload_n dX11_catches_22 rfl rfl ?_
      refine aw_iconst_n 2 dX11_catches_23 (by decide) ?_
      refine aw_vI (as := [Value.int (nI 2)]) (rest := []) mV_X11_fails (m_fails 2) ml_X11_56 mU_0 rfl dX11_catches_24 rfl rfl (by decide) (Nat.le_of_ble_eq_true rfl) (by decide) ?_
      exact aw_iret rfl (by decide) (by decide) dX11_catches_27 (PO_of (by simp_all [opCatch, nIc (show x < 2 ^ 31 by omega)]) hA (fun _ _ => rfl))
  · refine aw_aload_n dX11_catches_8 rfl rfl ?_
    refine aw_iconst_n 1 dX11_catches_9 (by decide) ?_
    refine aw_vI (as := [Value.int (nI 1)]) (rest := []) mV_X11_fails (m_fails 1) ml_X11_56 mU_0 rfl dX11_catches_10 rfl rfl (by decide) (Nat.le_of_ble_eq_true rfl) (by decide) ?_
    exact aw_iret rfl (by decide) (by decide) dX11_catches_13 (PO_of (by simp_all [opCatch, nIc (show x < 2 ^ 31 by omega)]) hA (fun _ _ => rfl))
abbrev MX11_rubs : MT := (RX11, cX11_rubs, 3, (some .int), [], "rubs")
set_option maxHeartbeats 4000000 in
theorem m_rubs {l : Launch} {G : GT} {n : Nat} {f : HT} {o : Nat} {I : Nat → Int32} {A : Nat → Nat → Int32} {K : Nat} {V : Nat → Nat} (hA : Mok A V) (hB : VB K V) (a : Int32) : AM l G yX11_rubs (.code yX11_rubs cX11_rubs 3 (some .int)) 2 120 0 0 [.ref o, .int a] (mU f o I A) n (PO f o I A (opFric V a) n) := by
  refine aw_enter (M := MX11_rubs) rfl rfl (by decide +kernel) rfl (Nat.le_of_ble_eq_true rfl) ?_
  have hcnt := VB.cnt hB
  have hleg := VB.legs hB
  have hfr := VB.fric hB
  show AW l G MX11_rubs 2 120 0 0 _ n 0 0 0 [(0, .ref o), (1, .int a)] [] _ n
  refine aw_iload_n dX11_rubs_0 rfl rfl ?_
  refine aw_iconst_n 0 dX11_rubs_1 (by decide) ?_
  refine aw_bipush_n 30 dX11_rubs_2 (by decide) ?_
  refine aw_sI (as := [Value.int a, Value.int (nI 0), Value.int (nI 30)]) (rest := []) mS_X11_in (m_in _ _ _) ml_X11_52 dX11_rubs_4 rfl rfl (by decide) (Nat.le_of_ble_eq_true rfl) (by decide) ?_
  refine aw_if_ne_b (tgt := 16) dX11_rubs_7 (by decide) (fun c_1 => ?_) (fun c_1 => ?_)
  · obtain ⟨x, hx1, hx2, rfl⟩ := inB_of (by decide) (by decide) c_1
    refine aw_aload_n dX11_rubs_16 rfl rfl ?_
    refine aw_get (v := .ref (o + 1)) fl_X11_7 mU_0 rfl dX11_rubs_17 ?_
    refine aw_iconst_n 1 dX11_rubs_20 (by decide) ?_
    refine aw_mld hA (k := 1) (by omega) dX11_rubs_21 ?_
    have hb_2 : V 1 < 16000000 := VB.lt hB (by omega)
    refine aw_istore_n (L' := [(2, .int (nI (V 1))), (0, .ref o), (1, .int (nI x))]) dX11_rubs_22 rfl (by decide) rfl ?_
    refine aw_aload_n dX11_rubs_23 rfl rfl ?_
    refine aw_get (v := .ref (o + 1)) fl_X11_7 mU_0 rfl dX11_rubs_24 ?_
    refine aw_iconst_n 1 dX11_rubs_27 (by decide) ?_
    refine aw_iload_n dX11_rubs_28 rfl rfl ?_
    refine aw_mst hA (k := 1) (x := x) (by omega) dX11_rubs_29 (fun A_3 hA_4 hR_5 => ?_)
    refine aw_aload_n dX11_rubs_30 rfl rfl ?_
    refine aw_iload_n dX11_rubs_31 rfl rfl ?_
    refine aw_vI (as := [Value.int (nI (V 1))]) (rest := []) mV_X11_done (m_done (nI (V 1))) ml_X11_60 mU_0 rfl dX11_rubs_32 rfl rfl (by decide) (Nat.le_of_ble_eq_true rfl) (by decide) ?_
    exact aw_iret rfl (by decide) (by decide) dX11_rubs_35 (PO_of (by simp [opFric, c_1, nIc (show x < 2 ^ 31 by omega)]) hA_4 (fun j h9 => (hR_5 j h9)))
  · refine aw_aload_n dX11_rubs_10 rfl rfl ?_
    refine aw_iconst_n 1 dX11_rubs_11 (by decide) ?_
    refine aw_vI (as := [Value.int (nI 1)]) (rest := []) mV_X11_fails (m_fails 1) ml_X11_56 mU_0 rfl dX11_rubs_12 rfl rfl (by decide) (Nat.le_of_ble_eq_true rfl) (by decide) ?_
    exact aw_iret rfl (by decide) (by decide) dX11_rubs_15 (PO_of (by simp [opFric, c_1]) hA (fun _ _ => rfl))
abbrev MX11_addsLeg : MT := (RX11, cX11_addsLeg, 2, (some .int), [], "addsLeg")
set_option maxHeartbeats 4000000 in
theorem m_addsLeg {l : Launch} {G : GT} {n : Nat} {f : HT} {o : Nat} {I : Nat → Int32} {A : Nat → Nat → Int32} {K : Nat} {V : Nat → Nat} (hA : Mok A V) (hB : VB K V) (a : Int32) : AM l G yX11_addsLeg (.code yX11_addsLeg cX11_addsLeg 2 (some .int)) 2 120 0 0 [.ref o, .int a] (mU f o I A) n (PO f o I A (opLeg V a) n) := by
  refine aw_enter (M := MX11_addsLeg) rfl rfl (by decide +kernel) rfl (Nat.le_of_ble_eq_true rfl) ?_
  have hcnt := VB.cnt hB
  have hleg := VB.legs hB
  have hfr := VB.fric hB
  show AW l G MX11_addsLeg 2 120 0 0 _ n 0 0 0 [(0, .ref o), (1, .int a)] [] _ n
  refine aw_iload_n dX11_addsLeg_0 rfl rfl ?_
  refine aw_iconst_n 1 dX11_addsLeg_1 (by decide) ?_
  refine aw_bipush_n 60 dX11_addsLeg_2 (by decide) ?_
  refine aw_sI (as := [Value.int a, Value.int (nI 1), Value.int (nI 60)]) (rest := []) mS_X11_in (m_in _ _ _) ml_X11_52 dX11_addsLeg_4 rfl rfl (by decide) (Nat.le_of_ble_eq_true rfl) (by decide) ?_
  refine aw_if_ne_b (tgt := 16) dX11_addsLeg_7 (by decide) (fun c_1 => ?_) (fun c_1 => ?_)
  · obtain ⟨x, hx1, hx2, rfl⟩ := inB_of (by decide) (by decide) c_1
    refine aw_aload_n dX11_addsLeg_16 rfl rfl ?_
    refine aw_get (v := .ref (o + 1)) fl_X11_7 mU_0 rfl dX11_addsLeg_17 ?_
    refine aw_iconst_n 3 dX11_addsLeg_20 (by decide) ?_
    refine aw_mld hA (k := 3) (by omega) dX11_addsLeg_21 ?_
    have hb_2 : V 3 < 16000000 := VB.lt hB (by omega)
    refine aw_bipush_n 6 dX11_addsLeg_22 (by decide) ?_
    refine aw_icmp_ne_n (by omega) (by omega) (tgt := 33) dX11_addsLeg_24 (by decide) (fun c_3 => ?_) (fun c_3 => ?_)
    · refine aw_aload_n dX11_addsLeg_33 rfl rfl ?_
      refine aw_get (v := .ref (o + 1)) fl_X11_7 mU_0 rfl dX11_addsLeg_34 ?_
      refine aw_bipush_n 42 dX11_addsLeg_37 (by decide) ?_
      refine aw_aload_n dX11_addsLeg_39 rfl rfl ?_
      refine aw_get (v := .ref (o + 1)) fl_X11_7 mU_0 rfl dX11_addsLeg_40 ?_
      refine aw_iconst_n 3 dX11_addsLeg_43 (by decide) ?_
      refine aw_mld hA (k := 3) (by omega) dX11_addsLeg_44 ?_
      have hb_4 : V 3 < 16000000 := VB.lt hB (by omega)
      refine aw_iadd_n dX11_addsLeg_45 ?_
      refine aw_iload_n dX11_addsLeg_46 rfl rfl ?_
      refine aw_mst hA (k := 42 + (V 3)) (x := x) (by omega) dX11_addsLeg_47 (fun A_5 hA_6 hR_7 => ?_)
      refine aw_aload_n dX11_addsLeg_48 rfl rfl ?_
      refine aw_get (v := .ref (o + 1)) fl_X11_7 mU_0 rfl dX11_addsLeg_49 ?_
      refine aw_iconst_n 3 dX11_addsLeg_52 (by decide) ?_
      refine aw_dup2 dX11_addsLeg_53 rfl rfl ?_
      refine aw_mldv hA_6 (k := 3) (v := V 3) (by omega) (by rw [up_ne (by omega)]) dX11_addsLeg_54 ?_
      have hb_8 : V 3 < 16000000 := VB.lt hB (by omega)
      refine aw_iconst_n 1 dX11_addsLeg_55 (by decide) ?_
      refine aw_iadd_n dX11_addsLeg_56 ?_
      refine aw_mst hA_6 (k := 3) (x := (V 3) + 1) (by omega) dX11_addsLeg_57 (fun A_9 hA_10 hR_11 => ?_)
      refine aw_aload_n dX11_addsLeg_58 rfl rfl ?_
      refine aw_aload_n dX11_addsLeg_59 rfl rfl ?_
      refine aw_get (v := .ref (o + 1)) fl_X11_7 mU_0 rfl dX11_addsLeg_60 ?_
      refine aw_iconst_n 3 dX11_addsLeg_63 (by decide) ?_
      refine aw_mldv hA_10 (k := 3) (v := (V 3) + 1) (by omega) (by rw [up_self]) dX11_addsLeg_64 ?_
      refine aw_vI (as := [Value.int (nI ((V 3) + 1))]) (rest := []) mV_X11_done (m_done (nI ((V 3) + 1))) ml_X11_60 mU_0 rfl dX11_addsLeg_65 rfl rfl (by decide) (Nat.le_of_ble_eq_true rfl) (by decide) ?_
      exact aw_iret rfl (by decide) (by decide) dX11_addsLeg_68 (PO_of (by simp only [opLeg, c_1, nIc (show x < 2 ^ 31 by omega)]; simp [c_3]) hA_10 (fun j h9 => (hR_11 j h9).trans (hR_7 j h9)))
    · refine aw_aload_n dX11_addsLeg_27 rfl rfl ?_
      refine aw_iconst_n 2 dX11_addsLeg_28 (by decide) ?_
      refine aw_vI (as := [Value.int (nI 2)]) (rest := []) mV_X11_fails (m_fails 2) ml_X11_56 mU_0 rfl dX11_addsLeg_29 rfl rfl (by decide) (Nat.le_of_ble_eq_true rfl) (by decide) ?_
      exact aw_iret rfl (by decide) (by decide) dX11_addsLeg_32 (PO_of (by simp [opLeg, c_1, c_3]) hA (fun _ _ => rfl))
  · refine aw_aload_n dX11_addsLeg_10 rfl rfl ?_
    refine aw_iconst_n 1 dX11_addsLeg_11 (by decide) ?_
    refine aw_vI (as := [Value.int (nI 1)]) (rest := []) mV_X11_fails (m_fails 1) ml_X11_56 mU_0 rfl dX11_addsLeg_12 rfl rfl (by decide) (Nat.le_of_ble_eq_true rfl) (by decide) ?_
    exact aw_iret rfl (by decide) (by decide) dX11_addsLeg_15 (PO_of (by simp [opLeg, c_1]) hA (fun _ _ => rfl))
