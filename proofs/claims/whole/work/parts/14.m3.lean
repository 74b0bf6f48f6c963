theorem cutV_0 {V : Nat → Nat} {k : Nat} : cutV V k k = V := by
  funext j
  unfold cutV
  rw [if_neg (by omega)]
theorem cutV_lo {V : Nat → Nat} {k u j : Nat} (h : j < 42) : cutV V k u j = V j := by
  unfold cutV
  rw [if_neg (by omega)]
theorem cutV_hi {V : Nat → Nat} {k u j : Nat} (h : 42 + u ≤ j) : cutV V k u j = V j := by
  unfold cutV
  rw [if_neg (by omega)]
theorem cutV_step {V : Nat → Nat} {k u : Nat} (h : k ≤ u) : cutV V k (u + 1) = va_up (cutV V k u) (42 + u) (V (42 + u + 1)) := by
  funext j
  by_cases hj : j = 42 + u
  · subst hj
    rw [up_self]
    unfold cutV
    rw [if_pos (by omega)]
  · rw [up_ne hj]
    unfold cutV
    by_cases h1 : 42 + k ≤ j ∧ j < 42 + u
    · rw [if_pos h1, if_pos (by omega)]
    · rw [if_neg h1, if_neg (by omega)]
theorem kindN_lt (len : Nat) : kindN len < 3 := by unfold kindN; split <;> (try split) <;> decide
theorem tk_keep {V : Nat → Nat} {u j : Nat} (h0 : j ≠ 0) (h1 : j < 12 ∨ 12 + u ≤ j) (h2 : j < 28 ∨ 28 + u ≤ j) : tkV V u j = V j := by
  unfold tkV
  rw [if_neg h0, if_neg (by omega), if_neg (by omega)]
theorem tk_1 {V : Nat → Nat} {u : Nat} : tkV V u 1 = V 1 := tk_keep (by decide) (Or.inl (by decide)) (Or.inl (by decide))
theorem tk_2 {V : Nat → Nat} {u : Nat} : tkV V u 2 = V 2 := tk_keep (by decide) (Or.inl (by decide)) (Or.inl (by decide))
theorem tk_4 {V : Nat → Nat} {u : Nat} (h : u < 8) : tkV V u (4 + u) = V (4 + u) := tk_keep (by omega) (by omega) (by omega)
theorem tk_12 {V : Nat → Nat} {u : Nat} (h : u < 8) : tkV V u (12 + u) = V (12 + u) := tk_keep (by omega) (by omega) (by omega)
theorem tk_20 {V : Nat → Nat} {u : Nat} (h : u < 8) : tkV V u (20 + u) = V (20 + u) := by
  unfold tkV
  rw [if_neg (by omega), if_neg (by omega), if_neg (by omega)]
theorem tk_28 {V : Nat → Nat} {u : Nat} (h : u < 8) : tkV V u (28 + u) = V (28 + u) := tk_keep (by omega) (by omega) (by omega)
theorem tkC_le (V : Nat → Nat) : ∀ u, tkC V u ≤ u := by
  intro u
  induction u with
  | zero => exact Nat.le_refl _
  | succ u ih => unfold tkC; split <;> omega
def TP (f : HT) (o : Nat) (I : Nat → Int32) (A : Nat → Nat → Int32) (V : Nat → Nat) (n : Nat) : PT := fun r f' n' =>
  r = .inl (some (.int (nI (tkC V (V 2))))) ∧ n' = n ∧ ∃ A' : Nat → Nat → Int32, f' = mU f o I A' ∧ Mok A' (tkV V (V 2)) ∧ ∀ j, j ≠ 0 → A' j = A j
abbrev MX11_pushes : MT := (RX11, cX11_pushes, 4, (some .int), [], "pushes")
set_option maxHeartbeats 4000000 in
theorem m_pushes {l : Launch} {G : GT} {n : Nat} {f : HT} {o : Nat} {I : Nat → Int32} {A : Nat → Nat → Int32} {K : Nat} {V : Nat → Nat} (hA : Mok A V) (hB : VB K V) (v d : Int32) : AM l G yX11_pushes (.code yX11_pushes cX11_pushes 4 (some .int)) 2 120 0 0 [.ref o, .int v, .int d] (mU f o I A) n (PO f o I A (opPush V v d) n) := by
  refine aw_enter (M := MX11_pushes) rfl rfl (by decide +kernel) rfl (Nat.le_of_ble_eq_true rfl) ?_
  have hcnt := VB.cnt hB
  have hleg := VB.legs hB
  have hfr := VB.fric hB
  show AW l G MX11_pushes 2 120 0 0 _ n 0 0 0 [(0, .ref o), (1, .int v), (2, .int d)] [] _ n
  refine aw_aload_n dX11_pushes_0 rfl rfl ?_
  refine aw_iload_n dX11_pushes_1 rfl rfl ?_
  refine aw_vI (as := [Value.int v]) (rest := []) mV_X11_isPendulum (m_isP hA (c := V 2) v rfl (by omega)) ml_X11_72 mU_0 rfl dX11_pushes_2 rfl rfl (by decide) (Nat.le_of_ble_eq_true rfl) (by decide) ?_
  refine aw_if_ne_b (tgt := 14) dX11_pushes_5 (by decide) (fun c_1 => ?_) (fun c_1 => ?_)
  · obtain ⟨x, hx1, rfl⟩ := isK_of (by omega) c_1
    have hax := VB.amp hB (k := x) (by omega)
    have hlx := VB.len hB (k := x) (by omega)
    have hkx := kindN_lt (V (4 + x))
    refine aw_iload_n dX11_pushes_14 rfl rfl ?_
    refine aw_iconst_n 1 dX11_pushes_15 (by decide) ?_
    refine aw_bipush_n 60 dX11_pushes_16 (by decide) ?_
    refine aw_sI (as := [Value.int d, Value.int (nI 1), Value.int (nI 60)]) (rest := []) mS_X11_in (m_in _ _ _) ml_X11_52 dX11_pushes_18 rfl rfl (by decide) (Nat.le_of_ble_eq_true rfl) (by decide) ?_
    refine aw_if_ne_b (tgt := 30) dX11_pushes_21 (by decide) (fun c_2 => ?_) (fun c_2 => ?_)
    · obtain ⟨z, hz1, hz2, rfl⟩ := inB_of (by decide) (by decide) c_2
      refine aw_aload_n dX11_pushes_30 rfl rfl ?_
      refine aw_get (v := .ref (o + 1)) fl_X11_7 mU_0 rfl dX11_pushes_31 ?_
      refine aw_bipush_n 12 dX11_pushes_34 (by decide) ?_
      refine aw_iload_n dX11_pushes_36 rfl rfl ?_
      refine aw_iadd_n dX11_pushes_37 ?_
      refine aw_mld hA (k := 12 + x) (by omega) dX11_pushes_38 ?_
      have hb_3 : V (12 + x) < 16000000 := VB.lt hB (by omega)
      refine aw_iload_n dX11_pushes_39 rfl rfl ?_
      refine aw_iadd_n dX11_pushes_40 ?_
      refine aw_istore_n (L' := [(3, .int (nI ((V (12 + x)) + z))), (0, .ref o), (1, .int (nI x)), (2, .int (nI z))]) dX11_pushes_41 rfl (by decide) rfl ?_
      refine aw_iload_n dX11_pushes_42 rfl rfl ?_
      refine aw_bipush_n 60 dX11_pushes_43 (by decide) ?_
      refine aw_icmp_le_n (by omega) (by omega) (tgt := 54) dX11_pushes_45 (by decide) (fun c_4 => ?_) (fun c_4 => ?_)
      · have n60 := Nat.not_lt.mpr c_4
        refine aw_aload_n dX11_pushes_54 rfl rfl ?_
        refine aw_iload_n dX11_pushes_55 rfl rfl ?_
        refine aw_vI (as := [Value.int (nI x)]) (rest := []) mV_X11_rests (m_rests hA (k := x) (a := V (12 + x)) (by omega) rfl (by omega)) ml_X11_76 mU_0 rfl dX11_pushes_56 rfl rfl (by decide) (Nat.le_of_ble_eq_true rfl) (by decide) ?_
        refine aw_if_eq_b (tgt := 77) dX11_pushes_59 (by decide) (fun c_5 => ?_) (fun c_5 => ?_)
        · refine aw_aload_n dX11_pushes_77 rfl rfl ?_
          refine aw_get (v := .ref (o + 1)) fl_X11_7 mU_0 rfl dX11_pushes_78 ?_
          refine aw_bipush_n 12 dX11_pushes_81 (by decide) ?_
          refine aw_iload_n dX11_pushes_83 rfl rfl ?_
          refine aw_iadd_n dX11_pushes_84 ?_
          refine aw_iload_n dX11_pushes_85 rfl rfl ?_
          refine aw_mst hA (k := 12 + x) (x := (V (12 + x)) + z) (by omega) dX11_pushes_86 (fun A_6 hA_7 hR_8 => ?_)
          refine aw_iload_n dX11_pushes_87 rfl rfl ?_
          refine aw_aload_n dX11_pushes_88 rfl rfl ?_
          refine aw_get (v := .ref (o + 1)) fl_X11_7 mU_0 rfl dX11_pushes_89 ?_
          refine aw_bipush_n 36 dX11_pushes_92 (by decide) ?_
          refine aw_aload_n dX11_pushes_94 rfl rfl ?_
          refine aw_iload_n dX11_pushes_95 rfl rfl ?_
          refine aw_vI (as := [Value.int (nI x)]) (rest := [Value.int (nI 36), Value.ref (o + 1), Value.int (nI ((V (12 + x)) + z))]) mV_X11_kind (m_kind hA_7 (k := x) (len := V (4 + x)) (by omega) (by rw [up_ne (by omega)]) (by omega)) ml_X11_79 mU_0 rfl dX11_pushes_96 rfl rfl (by decide) (Nat.le_of_ble_eq_true rfl) (by decide) ?_
          refine aw_iadd_n dX11_pushes_99 ?_
          refine aw_mldv hA_7 (k := 36 + (kindN (V (4 + x)))) (v := V (36 + (kindN (V (4 + x))))) (by omega) (by rw [up_ne (by omega)]) dX11_pushes_100 ?_
          have hb_9 : V (36 + (kindN (V (4 + x)))) < 16000000 := VB.lt hB (by omega)
          refine aw_icmp_le_n (by omega) (by omega) (tgt := 132) dX11_pushes_101 (by decide) (fun c_10 => ?_) (fun c_10 => ?_)
          · have n36 := Nat.not_lt.mpr c_10
            refine aw_aload_n dX11_pushes_132 rfl rfl ?_
            refine aw_iload_n dX11_pushes_133 rfl rfl ?_
            refine aw_vI (as := [Value.int (nI ((V (12 + x)) + z))]) (rest := []) mV_X11_done (m_done (nI ((V (12 + x)) + z))) ml_X11_60 mU_0 rfl dX11_pushes_134 rfl rfl (by decide) (Nat.le_of_ble_eq_true rfl) (by decide) ?_
            exact aw_iret rfl (by decide) (by decide) dX11_pushes_137 (PO_of (by simp_all [opPush, pushV, nIc (show x < 2 ^ 31 by omega), nIc (show z < 2 ^ 31 by omega)]; rw [if_neg (by omega), if_neg (by omega)]) hA_7 (fun j h9 => hR_8 j h9))
          · refine aw_aload_n dX11_pushes_104 rfl rfl ?_
            refine aw_get (v := .ref (o + 1)) fl_X11_7 mU_0 rfl dX11_pushes_105 ?_
            refine aw_bipush_n 36 dX11_pushes_108 (by decide) ?_
            refine aw_aload_n dX11_pushes_110 rfl rfl ?_
            refine aw_iload_n dX11_pushes_111 rfl rfl ?_
            refine aw_vI (as := [Value.int (nI x)]) (rest := [Value.int (nI 36), Value.ref (o + 1)]) mV_X11_kind (m_kind hA_7 (k := x) (len := V (4 + x)) (by omega) (by rw [up_ne (by omega)]) (by omega)) ml_X11_79 mU_0 rfl dX11_pushes_112 rfl rfl (by decide) (Nat.le_of_ble_eq_true rfl) (by decide) ?_
            refine aw_iadd_n dX11_pushes_115 ?_
            refine aw_iload_n dX11_pushes_116 rfl rfl ?_
            refine aw_mst hA_7 (k := 36 + (kindN (V (4 + x)))) (x := (V (12 + x)) + z) (by omega) dX11_pushes_117 (fun A_11 hA_12 hR_13 => ?_)
            refine aw_aload_n dX11_pushes_118 rfl rfl ?_
            refine aw_get (v := .ref (o + 1)) fl_X11_7 mU_0 rfl dX11_pushes_119 ?_
            refine aw_bipush_n 39 dX11_pushes_122 (by decide) ?_
            refine aw_aload_n dX11_pushes_124 rfl rfl ?_
            refine aw_iload_n dX11_pushes_125 rfl rfl ?_
            refine aw_vI (as := [Value.int (nI x)]) (rest := [Value.int (nI 39), Value.ref (o + 1)]) mV_X11_kind (m_kind hA_12 (k := x) (len := V (4 + x)) (by omega) (by rw [up_ne (by omega), up_ne (by omega)]) (by omega)) ml_X11_79 mU_0 rfl dX11_pushes_126 rfl rfl (by decide) (Nat.le_of_ble_eq_true rfl) (by decide) ?_
            refine aw_iadd_n dX11_pushes_129 ?_
            refine aw_iload_n dX11_pushes_130 rfl rfl ?_
            refine aw_mst hA_12 (k := 39 + (kindN (V (4 + x)))) (x := x) (by omega) dX11_pushes_131 (fun A_14 hA_15 hR_16 => ?_)
            refine aw_aload_n dX11_pushes_132 rfl rfl ?_
            refine aw_iload_n dX11_pushes_133 rfl rfl ?_
            refine aw_vI (as := [Value.int (nI ((V (12 + x)) + z))]) (rest := []) mV_X11_done (m_done (nI ((V (12 + x)) + z))) ml_X11_60 mU_0 rfl dX11_pushes_134 rfl rfl (by decide) (Nat.le_of_ble_eq_true rfl) (by decide) ?_
            exact aw_iret rfl (by decide) (by decide) dX11_pushes_137 (PO_of (by simp_all [opPush, pushV, nIc (show x < 2 ^ 31 by omega), nIc (show z < 2 ^ 31 by omega)]) hA_15 (fun j h9 => ((hR_16 j h9).trans (hR_13 j h9)).trans (hR_8 j h9)))
        · refine aw_aload_n dX11_pushes_62 rfl rfl ?_
          refine aw_get (v := .ref (o + 1)) fl_X11_7 mU_0 rfl dX11_pushes_63 ?_
          refine aw_bipush_n 20 dX11_pushes_66 (by decide) ?_
          refine aw_iload_n dX11_pushes_68 rfl rfl ?_
          refine aw_iadd_n dX11_pushes_69 ?_
          refine aw_aload_n dX11_pushes_70 rfl rfl ?_
          refine aw_get (v := .ref (o + 1)) fl_X11_7 mU_0 rfl dX11_pushes_71 ?_
          refine aw_iconst_n 0 dX11_pushes_74 (by decide) ?_
          refine aw_mld hA (k := 0) (by omega) dX11_pushes_75 ?_
          have hb_17 : V 0 < 16000000 := VB.lt hB (by omega)
          refine aw_mst hA (k := 20 + x) (x := V 0) (by omega) dX11_pushes_76 (fun A_18 hA_19 hR_20 => ?_)
          refine aw_aload_n dX11_pushes_77 rfl rfl ?_
          refine aw_get (v := .ref (o + 1)) fl_X11_7 mU_0 rfl dX11_pushes_78 ?_
          refine aw_bipush_n 12 dX11_pushes_81 (by decide) ?_
          refine aw_iload_n dX11_pushes_83 rfl rfl ?_
          refine aw_iadd_n dX11_pushes_84 ?_
          refine aw_iload_n dX11_pushes_85 rfl rfl ?_
          refine aw_mst hA_19 (k := 12 + x) (x := (V (12 + x)) + z) (by omega) dX11_pushes_86 (fun A_21 hA_22 hR_23 => ?_)
          refine aw_iload_n dX11_pushes_87 rfl rfl ?_
          refine aw_aload_n dX11_pushes_88 rfl rfl ?_
          refine aw_get (v := .ref (o + 1)) fl_X11_7 mU_0 rfl dX11_pushes_89 ?_
          refine aw_bipush_n 36 dX11_pushes_92 (by decide) ?_
          refine aw_aload_n dX11_pushes_94 rfl rfl ?_
          refine aw_iload_n dX11_pushes_95 rfl rfl ?_
          refine aw_vI (as := [Value.int (nI x)]) (rest := [Value.int (nI 36), Value.ref (o + 1), Value.int (nI ((V (12 + x)) + z))]) mV_X11_kind (m_kind hA_22 (k := x) (len := V (4 + x)) (by omega) (by rw [up_ne (by omega), up_ne (by omega)]) (by omega)) ml_X11_79 mU_0 rfl dX11_pushes_96 rfl rfl (by decide) (Nat.le_of_ble_eq_true rfl) (by decide) ?_
          refine aw_iadd_n dX11_pushes_99 ?_
          refine aw_mldv hA_22 (k := 36 + (kindN (V (4 + x)))) (v := V (36 + (kindN (V (4 + x))))) (by omega) (by rw [up_ne (by omega), up_ne (by omega)]) dX11_pushes_100 ?_
          have hb_24 : V (36 + (kindN (V (4 + x)))) < 16000000 := VB.lt hB (by omega)
          refine aw_icmp_le_n (by omega) (by omega) (tgt := 132) dX11_pushes_101 (by decide) (fun c_25 => ?_) (fun c_25 => ?_)
          · have n36 := Nat.not_lt.mpr c_25
            refine aw_aload_n dX11_pushes_132 rfl rfl ?_
            refine aw_iload_n dX11_pushes_133 rfl rfl ?_
            refine aw_vI (as := [Value.int (nI ((V (12 + x)) + z))]) (rest := []) mV_X11_done (m_done (nI ((V (12 + x)) + z))) ml_X11_60 mU_0 rfl dX11_pushes_134 rfl rfl (by decide) (Nat.le_of_ble_eq_true rfl) (by decide) ?_
            exact aw_iret rfl (by decide) (by decide) dX11_pushes_137 (PO_of (by simp_all [opPush, pushV, nIc (show x < 2 ^ 31 by omega), nIc (show z < 2 ^ 31 by omega)]; rw [if_neg (by omega), if_neg (by omega)]) hA_22 (fun j h9 => (hR_23 j h9).trans (hR_20 j h9)))
          · refine aw_aload_n dX11_pushes_104 rfl rfl ?_
            refine aw_get (v := .ref (o + 1)) fl_X11_7 mU_0 rfl dX11_pushes_105 ?_
            refine aw_bipush_n 36 dX11_pushes_108 (by decide) ?_
            refine aw_aload_n dX11_pushes_110 rfl rfl ?_
            refine aw_iload_n dX11_pushes_111 rfl rfl ?_
            refine aw_vI (as := [Value.int (nI x)]) (rest := [Value.int (nI 36), Value.ref (o + 1)]) mV_X11_kind (m_kind hA_22 (k := x) (len := V (4 + x)) (by omega) (by rw [up_ne (by omega), up_ne (by omega)]) (by omega)) ml_X11_79 mU_0 rfl dX11_pushes_112 rfl rfl (by decide) (Nat.le_of_ble_eq_true rfl) (by decide) ?_
            refine aw_iadd_n dX11_pushes_115 ?_
            refine aw_iload_n dX11_pushes_116 rfl rfl ?_
            refine aw_mst hA_22 (k := 36 + (kindN (V (4 + x)))) (x := (V (12 + x)) + z) (by omega) dX11_pushes_117 (fun A_26 hA_27 hR_28 => ?_)
            refine aw_aload_n dX11_pushes_118 rfl rfl ?_
            refine aw_get (v := .ref (o + 1)) fl_X11_7 mU_0 rfl dX11_pushes_119 ?_
            refine aw_bipush_n 39 dX11_pushes_122 (by decide) ?_
            refine aw_aload_n dX11_pushes_124 rfl rfl ?_
            refine aw_iload_n dX11_pushes_125 rfl rfl ?_
            refine aw_vI (as := [Value.int (nI x)]) (rest := [Value.int (nI 39), Value.ref (o + 1)]) mV_X11_kind (m_kind hA_27 (k := x) (len := V (4 + x)) (by omega) (by rw [up_ne (by omega), up_ne (by omega), up_ne (by omega)]) (by omega)) ml_X11_79 mU_0 rfl dX11_pushes_126 rfl rfl (by decide) (Nat.le_of_ble_eq_true rfl) (by decide) ?_
            refine aw_iadd_n dX11_pushes_129 ?_
            refine aw_iload_n dX11_pushes_130 rfl rfl ?_
            refine aw_mst hA_27 (k := 39 + (kindN (V (4 + x)))) (x := x) (by omega) dX11_pushes_131 (fun A_29 hA_30 hR_31 => ?_)
            refine aw_aload_n dX11_pushes_132 rfl rfl ?_
            refine aw_iload_n dX11_pushes_133 rfl rfl ?_
            refine aw_vI (as := [Value.int (nI ((V (12 + x)) + z))]) (rest := []) mV_X11_done (m_done (nI ((V (12 + x)) + z))) ml_X11_60 mU_0 rfl dX11_pushes_134 rfl rfl (by decide) (Nat.le_of_ble_eq_true rfl) (by decide) ?_
            exact aw_iret rfl (by decide) (by decide) dX11_pushes_137 (PO_of (by simp_all [opPush, pushV, nIc (show x < 2 ^ 31 by omega), nIc (show z < 2 ^ 31 by omega)]) hA_30 (fun j h9 => (((hR_31 j h9).trans (hR_28 j h9)).trans (hR_23 j h9)).trans (hR_20 j h9)))
      · refine aw_aload_n dX11_pushes_48 rfl rfl ?_
        refine aw_iconst_n 3 dX11_pushes_49 (by decide) ?_
        refine aw_vI (as := [Value.int (nI 3)]) (rest := []) mV_X11_fails (m_fails 3) ml_X11_56 mU_0 rfl dX11_pushes_50 rfl rfl (by decide) (Nat.le_of_ble_eq_true rfl) (by decide) ?_
        exact aw_iret rfl (by decide) (by decide) dX11_pushes_53 (PO_of (by simp_all [opPush, pushV, nIc (show x < 2 ^ 31 by omega), nIc (show z < 2 ^ 31 by omega)]) hA (fun _ _ => rfl))
    · refine aw_aload_n dX11_pushes_24 rfl rfl ?_
      refine aw_iconst_n 2 dX11_pushes_25 (by decide) ?_
      refine aw_vI (as := [Value.int (nI 2)]) (rest := []) mV_X11_fails (m_fails 2) ml_X11_56 mU_0 rfl dX11_pushes_26 rfl rfl (by decide) (Nat.le_of_ble_eq_true rfl) (by decide) ?_
      exact aw_iret rfl (by decide) (by decide) dX11_pushes_29 (PO_of (by simp_all [opPush]) hA (fun _ _ => rfl))
  · refine aw_aload_n dX11_pushes_8 rfl rfl ?_
    refine aw_iconst_n 1 dX11_pushes_9 (by decide) ?_
    refine aw_vI (as := [Value.int (nI 1)]) (rest := []) mV_X11_fails (m_fails 1) ml_X11_56 mU_0 rfl dX11_pushes_10 rfl rfl (by decide) (Nat.le_of_ble_eq_true rfl) (by decide) ?_
    exact aw_iret rfl (by decide) (by decide) dX11_pushes_13 (PO_of (by simp_all [opPush]) hA (fun _ _ => rfl))
abbrev MX11_passesTick : MT := (RX11, cX11_passesTick, 3, (some .int), [], "passesTick")
set_option maxHeartbeats 4000000 in
theorem m_tick_loop {l : Launch} {G : GT} {n : Nat} {f : HT} {o : Nat} {I : Nat → Int32} {A0 : Nat → Nat → Int32} {K : Nat} {V : Nat → Nat} (hB : VB K V) (hK : K + 1 < 16000000) : ∀ (N : Nat) (u cnt : Nat) (A : Nat → Nat → Int32), (V 2 - u = N) → (u ≤ V 2) → (cnt = tkC V u) → (Mok A (tkV V u)) → (∀ j, j ≠ 0 → A j = A0 j) → AW l G MX11_passesTick 1 60 0 0 (TP f o I A0 V n) n 0 0 14 [(2, .int (nI u)), (1, .int (nI cnt)), (0, .ref o)] [] (mU f o I A) n := by
  intro N
  induction N using Nat.strongRecOn with
  | ind N ih =>
    intro u cnt A hN hu hc hA hR
    have hcnt := VB.cnt hB
    have hleg := VB.legs hB
    have hfr := VB.fric hB
    have hnow := VB.now hB
    have hkk := VB.kk hB
    have hcl := tkC_le V u
    refine aw_iload_n dX11_passesTick_14 rfl rfl ?_
    refine aw_aload_n dX11_passesTick_15 rfl rfl ?_
    refine aw_get (v := .ref (o + 1)) fl_X11_7 mU_0 rfl dX11_passesTick_16 ?_
    refine aw_iconst_n 2 dX11_passesTick_19 (by decide) ?_
    refine aw_mldv hA (k := 2) (v := V 2) (by omega) (tk_2) dX11_passesTick_20 ?_
    refine aw_icmp_ge_n (by omega) (by omega) (tgt := 101) dX11_passesTick_21 (by decide) (fun c_1 => ?_) (fun c_1 => ?_)
    · refine aw_iload_n dX11_passesTick_101 rfl rfl ?_
      have e : u = V 2 := by omega
      subst e
      exact aw_iret rfl (by decide) (by decide) dX11_passesTick_102 ⟨by rw [hc], rfl, A, rfl, hA, hR⟩
    · have hax := VB.amp hB (k := u) (by omega)
      have hsx := VB.start hB (k := u) (by omega)
      have hlx := VB.len hB (k := u) (by omega)
      have hl1 := VB.len1 hB (k := u) (by omega)
      have hwx := VB.sw hB (k := u) (by omega)
      have hpp := per_pos hl1
      have hpl := per_le hlx
      refine aw_aload_n dX11_passesTick_24 rfl rfl ?_
      refine aw_iload_n dX11_passesTick_25 rfl rfl ?_
      refine aw_vI (as := [Value.int (nI u)]) (rest := []) mV_X11_rests (m_rests hA (k := u) (a := V (12 + u)) (by omega) (tk_12 (by omega)) (by omega)) ml_X11_76 mU_0 rfl dX11_passesTick_26 rfl rfl (by decide) (Nat.le_of_ble_eq_true rfl) (by decide) ?_
      refine aw_if_ne_b (tgt := 95) dX11_passesTick_29 (by decide) (fun c_2 => ?_) (fun c_2 => ?_)
      · have c_2d := of_decide_eq_true c_2
        refine aw_iinc_n (L' := [(2, .int (nI (u + 1))), (1, .int (nI cnt)), (0, .ref o)]) 1 dX11_passesTick_95 rfl (by decide) (by decide) rfl ?_
        refine aw_goto (tgt := 14) dX11_passesTick_98 (by decide) ?_
        have hs : swg V u = false := decide_eq_false (by omega)
        exact ih _ (by omega) (u + 1) cnt _ rfl (by omega) (by rw [hc]; simp [tkC, hs]) (by rw [tkV_f hs]; exact hA) hR
      · have c_2d := of_decide_eq_false c_2
        refine aw_aload_n dX11_passesTick_32 rfl rfl ?_
        refine aw_get (v := .ref (o + 1)) fl_X11_7 mU_0 rfl dX11_passesTick_33 ?_
        refine aw_iconst_n 0 dX11_passesTick_36 (by decide) ?_
        refine aw_mldv hA (k := 0) (v := V 0 + 1) (by omega) (rfl) dX11_passesTick_37 ?_
        refine aw_aload_n dX11_passesTick_38 rfl rfl ?_
        refine aw_get (v := .ref (o + 1)) fl_X11_7 mU_0 rfl dX11_passesTick_39 ?_
        refine aw_bipush_n 20 dX11_passesTick_42 (by decide) ?_
        refine aw_iload_n dX11_passesTick_44 rfl rfl ?_
        refine aw_iadd_n dX11_passesTick_45 ?_
        refine aw_mldv hA (k := 20 + u) (v := V (20 + u)) (by omega) (tk_20 (by omega)) dX11_passesTick_46 ?_
        refine aw_isub_n (by omega) dX11_passesTick_47 ?_
        refine aw_aload_n dX11_passesTick_48 rfl rfl ?_
        refine aw_iload_n dX11_passesTick_49 rfl rfl ?_
        refine aw_vI (as := [Value.int (nI u)]) (rest := [Value.int (nI ((V 0 + 1) - (V (20 + u))))]) mV_X11_period (m_period hA (k := u) (len := V (4 + u)) (by omega) (tk_4 (by omega)) (by omega)) ml_X11_92 mU_0 rfl dX11_passesTick_50 rfl rfl (by decide) (Nat.le_of_ble_eq_true rfl) (by decide) ?_
        refine aw_irem_n (by omega) (by omega) (by omega) dX11_passesTick_53 ?_
        have hm_3 : ((V 0 + 1) - (V (20 + u))) % (perN (V (4 + u))) < perN (V (4 + u)) := Nat.mod_lt _ (by omega)
        refine aw_if_ne_n (by omega) (tgt := 95) dX11_passesTick_54 (by decide) (fun c_4 => ?_) (fun c_4 => ?_)
        · refine aw_iinc_n (L' := [(2, .int (nI (u + 1))), (1, .int (nI cnt)), (0, .ref o)]) 1 dX11_passesTick_95 rfl (by decide) (by decide) rfl ?_
          refine aw_goto (tgt := 14) dX11_passesTick_98 (by decide) ?_
          have hs : swg V u = false := decide_eq_false (by omega)
          exact ih _ (by omega) (u + 1) cnt _ rfl (by omega) (by rw [hc]; simp [tkC, hs]) (by rw [tkV_f hs]; exact hA) hR
        · refine aw_aload_n dX11_passesTick_57 rfl rfl ?_
          refine aw_get (v := .ref (o + 1)) fl_X11_7 mU_0 rfl dX11_passesTick_58 ?_
          refine aw_bipush_n 12 dX11_passesTick_61 (by decide) ?_
          refine aw_iload_n dX11_passesTick_63 rfl rfl ?_
          refine aw_iadd_n dX11_passesTick_64 ?_
          refine aw_aload_n dX11_passesTick_65 rfl rfl ?_
          refine aw_aload_n dX11_passesTick_66 rfl rfl ?_
          refine aw_get (v := .ref (o + 1)) fl_X11_7 mU_0 rfl dX11_passesTick_67 ?_
          refine aw_bipush_n 12 dX11_passesTick_70 (by decide) ?_
          refine aw_iload_n dX11_passesTick_72 rfl rfl ?_
          refine aw_iadd_n dX11_passesTick_73 ?_
          refine aw_mldv hA (k := 12 + u) (v := V (12 + u)) (by omega) (tk_12 (by omega)) dX11_passesTick_74 ?_
          refine aw_vI (as := [Value.int (nI (V (12 + u)))]) (rest := [Value.int (nI (12 + u)), Value.ref (o + 1)]) mV_X11_behindSwing (m_swing hA (fr := V 1) (tk_1) (by omega) (by omega) (by omega)) ml_X11_95 mU_0 rfl dX11_passesTick_75 rfl rfl (by decide) (Nat.le_of_ble_eq_true rfl) (by decide) ?_
          refine aw_mst hA (k := 12 + u) (x := swN (V 1) (V (12 + u))) (by omega) dX11_passesTick_78 (fun A_5 hA_6 hR_7 => ?_)
          refine aw_aload_n dX11_passesTick_79 rfl rfl ?_
          refine aw_get (v := .ref (o + 1)) fl_X11_7 mU_0 rfl dX11_passesTick_80 ?_
          refine aw_bipush_n 28 dX11_passesTick_83 (by decide) ?_
          refine aw_iload_n dX11_passesTick_85 rfl rfl ?_
          refine aw_iadd_n dX11_passesTick_86 ?_
          refine aw_dup2 dX11_passesTick_87 rfl rfl ?_
          refine aw_mldv hA_6 (k := 28 + u) (v := V (28 + u)) (by omega) (by rw [up_ne (by omega)]; exact tk_28 (by omega)) dX11_passesTick_88 ?_
          refine aw_iconst_n 1 dX11_passesTick_89 (by decide) ?_
          refine aw_iadd_n dX11_passesTick_90 ?_
          refine aw_mst hA_6 (k := 28 + u) (x := (V (28 + u)) + 1) (by omega) dX11_passesTick_91 (fun A_8 hA_9 hR_10 => ?_)
          refine aw_iinc_n (L' := [(1, .int (nI (cnt + 1))), (2, .int (nI u)), (0, .ref o)]) 1 dX11_passesTick_92 rfl (by decide) (by decide) rfl ?_
          refine aw_iinc_n (L' := [(2, .int (nI (u + 1))), (1, .int (nI (cnt + 1))), (0, .ref o)]) 1 dX11_passesTick_95 rfl (by decide) (by decide) rfl ?_
          refine aw_goto (tgt := 14) dX11_passesTick_98 (by decide) ?_
          have hs : swg V u = true := decide_eq_true ⟨by omega, by omega⟩
          exact ih _ (by omega) (u + 1) (cnt + 1) _ rfl (by omega) (by rw [hc]; simp [tkC, hs]) (by rw [tkV_t (by omega) hs]; exact hA_9) (fun j h9 => ((hR_10 j h9).trans (hR_7 j h9)).trans (hR j h9))
set_option maxHeartbeats 4000000 in
theorem m_tick {l : Launch} {G : GT} {n : Nat} {f : HT} {o : Nat} {I : Nat → Int32} {A : Nat → Nat → Int32} {K : Nat} {V : Nat → Nat} (hB : VB K V) (hK : K + 1 < 16000000) (hA : Mok A V) : AM l G yX11_passesTick (.code yX11_passesTick cX11_passesTick 3 (some .int)) 1 60 0 0 [.ref o] (mU f o I A) n (TP f o I A V n) := by
  refine aw_enter (M := MX11_passesTick) rfl rfl (by decide +kernel) rfl (Nat.le_of_ble_eq_true rfl) ?_
  have hcnt := VB.cnt hB
  have hleg := VB.legs hB
  have hfr := VB.fric hB
  have hnow := VB.now hB
  have hkk := VB.kk hB
  show AW l G MX11_passesTick 1 60 0 0 _ n 0 0 0 [(0, .ref o)] [] _ n
  refine aw_aload_n dX11_passesTick_0 rfl rfl ?_
  refine aw_get (v := .ref (o + 1)) fl_X11_7 mU_0 rfl dX11_passesTick_1 ?_
  refine aw_iconst_n 0 dX11_passesTick_4 (by decide) ?_
  refine aw_dup2 dX11_passesTick_5 rfl rfl ?_
  refine aw_mld hA (k := 0) (by omega) dX11_passesTick_6 ?_
  have hb_1 : V 0 < 16000000 := VB.lt hB (by omega)
  refine aw_iconst_n 1 dX11_passesTick_7 (by decide) ?_
  refine aw_iadd_n dX11_passesTick_8 ?_
  refine aw_mst hA (k := 0) (x := (V 0) + 1) (by omega) dX11_passesTick_9 (fun A_2 hA_3 hR_4 => ?_)
  refine aw_iconst_n 0 dX11_passesTick_10 (by decide) ?_
  refine aw_istore_n (L' := [(1, .int (nI 0)), (0, .ref o)]) dX11_passesTick_11 rfl (by decide) rfl ?_
  refine aw_iconst_n 0 dX11_passesTick_12 (by decide) ?_
  refine aw_istore_n (L' := [(2, .int (nI 0)), (1, .int (nI 0)), (0, .ref o)]) dX11_passesTick_13 rfl (by decide) rfl ?_
  exact m_tick_loop hB hK _ 0 0 _ rfl (Nat.zero_le _) rfl (by rw [tkV_0]; exact hA_3) (hR_4)
abbrev MX11_passes : MT := (RX11, cX11_passes, 4, (some .int), [], "passes")
set_option maxHeartbeats 4000000 in
theorem m_passes_loop {l : Launch} {G : GT} {n : Nat} {f : HT} {o : Nat} {I : Nat → Int32} {A0 : Nat → Nat → Int32} {K : Nat} {V : Nat → Nat} {t : Nat} (ht : t ≤ 500) (hK : K + t < 16000000) : ∀ (N : Nat) (u cnt : Nat) (W : Nat → Nat) (A : Nat → Nat → Int32), (t - u = N) → (u ≤ t) → (VB (K + u) W) → (cnt + tkcs (t - u) W = tkcs t V) → (tks (t - u) W = tks t V) → (cnt ≤ 8 * u) → (Mok A W) → (∀ j, j ≠ 0 → A j = A0 j) → AW l G MX11_passes 2 120 0 0 (PO f o I A0 (0, tkcs t V, tks t V) n) n 0 0 21 [(3, .int (nI u)), (2, .int (nI cnt)), (0, .ref o), (1, .int (nI t))] [] (mU f o I A) n := by
  intro N
  induction N using Nat.strongRecOn with
  | ind N ih =>
    intro u cnt W A hN hu hV ht1 ht2 hcc hA hR
    refine aw_iload_n dX11_passes_21 rfl rfl ?_
    refine aw_iload_n dX11_passes_22 rfl rfl ?_
    refine aw_icmp_ge_n (by omega) (by omega) (tgt := 39) dX11_passes_23 (by decide) (fun c_1 => ?_) (fun c_1 => ?_)
    · have e0 : t - u = 0 := by omega
      refine aw_aload_n dX11_passes_39 rfl rfl ?_
      refine aw_iload_n dX11_passes_40 rfl rfl ?_
      refine aw_vI (as := [Value.int (nI cnt)]) (rest := []) mV_X11_done (m_done (nI cnt)) ml_X11_60 mU_0 rfl dX11_passes_41 rfl rfl (by decide) (Nat.le_of_ble_eq_true rfl) (by decide) ?_
      exact aw_iret rfl (by decide) (by decide) dX11_passes_44 ⟨by rw [← ht1, e0]; rfl, rfl, A, rfl, by rw [← ht2, e0]; exact hA, hR⟩
    · have hKt : K + u + 1 < 16000000 := by omega
      refine aw_iload_n dX11_passes_26 rfl rfl ?_
      refine aw_aload_n dX11_passes_27 rfl rfl ?_
      refine aw_vP (as := []) (rest := [Value.int (nI cnt)]) mV_X11_passesTick (m_tick hV hKt hA) ml_X11_98 mU_0 rfl dX11_passes_28 rfl rfl (by decide) (Nat.le_of_ble_eq_true rfl) (by decide) (fun _ _ _ h => by cases h.1) (fun r f9 n9 _ h => ?_)
      obtain ⟨h1, h2, A1, h3, hA1, hR1⟩ := h
      cases h1; subst h2; subst h3
      refine aw_iadd_n dX11_passes_31 ?_
      refine aw_istore_n (L' := [(2, .int (nI (cnt + (tkC W (W 2))))), (3, .int (nI u)), (0, .ref o), (1, .int (nI t))]) dX11_passes_32 rfl (by decide) rfl ?_
      refine aw_iinc_n (L' := [(3, .int (nI (u + 1))), (2, .int (nI (cnt + (tkC W (W 2))))), (0, .ref o), (1, .int (nI t))]) 1 dX11_passes_33 rfl (by decide) (by decide) rfl ?_
      refine aw_goto (tgt := 21) dX11_passes_36 (by decide) ?_
      have e : t - u = (t - (u + 1)) + 1 := by omega
      have hc8 := VB.cnt hV
      have hcl := tkC_le W (W 2)
      exact ih _ (by omega) (u + 1) _ _ _ rfl (by omega) (VB.tick hV hKt (Nat.le_refl _)) (by rw [← ht1, e]; show _ = _ + (_ + _); omega) (by rw [← ht2, e]; rfl) (by omega) hA1 (fun j h9 => (hR1 j h9).trans (hR j h9))
set_option maxHeartbeats 4000000 in
theorem m_passes {l : Launch} {G : GT} {n : Nat} {f : HT} {o : Nat} {I : Nat → Int32} {A : Nat → Nat → Int32} {K : Nat} {V : Nat → Nat} (hA : Mok A V) (hB : VB K V) (hK : K + 500 < 16000000) (a : Int32) : AM l G yX11_passes (.code yX11_passes cX11_passes 4 (some .int)) 2 120 0 0 [.ref o, .int a] (mU f o I A) n (PO f o I A (opPass V a) n) := by
  refine aw_enter (M := MX11_passes) rfl rfl (by decide +kernel) rfl (Nat.le_of_ble_eq_true rfl) ?_
  have hcnt := VB.cnt hB
  have hleg := VB.legs hB
  have hfr := VB.fric hB
  show AW l G MX11_passes 2 120 0 0 _ n 0 0 0 [(0, .ref o), (1, .int a)] [] _ n
  refine aw_iload_n dX11_passes_0 rfl rfl ?_
  refine aw_iconst_n 1 dX11_passes_1 (by decide) ?_
  refine aw_sipush_n 500 dX11_passes_2 (by decide) ?_
  refine aw_sI (as := [Value.int a, Value.int (nI 1), Value.int (nI 500)]) (rest := []) mS_X11_in (m_in _ _ _) ml_X11_52 dX11_passes_5 rfl rfl (by decide) (Nat.le_of_ble_eq_true rfl) (by decide) ?_
  refine aw_if_ne_b (tgt := 17) dX11_passes_8 (by decide) (fun c_1 => ?_) (fun c_1 => ?_)
  · obtain ⟨x, hx1, hx2, rfl⟩ := inB_of (by decide) (by decide) c_1
    have hq : opPass V (nI x) = (0, tkcs x V, tks x V) := by simp [opPass, c_1, nIc (show x < 2 ^ 31 by omega)]
    rw [hq]
    refine aw_iconst_n 0 dX11_passes_17 (by decide) ?_
    refine aw_istore_n (L' := [(2, .int (nI 0)), (0, .ref o), (1, .int (nI x))]) dX11_passes_18 rfl (by decide) rfl ?_
    refine aw_iconst_n 0 dX11_passes_19 (by decide) ?_
    refine aw_istore_n (L' := [(3, .int (nI 0)), (2, .int (nI 0)), (0, .ref o), (1, .int (nI x))]) dX11_passes_20 rfl (by decide) rfl ?_
    exact m_passes_loop hx2 (by omega) _ 0 0 V A rfl (Nat.zero_le _) hB (by simp) rfl (by decide) hA (fun _ _ => rfl)
  · refine aw_aload_n dX11_passes_11 rfl rfl ?_
    refine aw_iconst_n 1 dX11_passes_12 (by decide) ?_
    refine aw_vI (as := [Value.int (nI 1)]) (rest := []) mV_X11_fails (m_fails 1) ml_X11_56 mU_0 rfl dX11_passes_13 rfl rfl (by decide) (Nat.le_of_ble_eq_true rfl) (by decide) ?_
    exact aw_iret rfl (by decide) (by decide) dX11_passes_16 (PO_of (by simp [opPass, c_1]) hA (fun _ _ => rfl))
abbrev MX11_cuts : MT := (RX11, cX11_cuts, 4, (some .int), [], "cuts")
set_option maxHeartbeats 4000000 in
theorem m_cuts_loop {l : Launch} {G : GT} {n : Nat} {f : HT} {o : Nat} {I : Nat → Int32} {A0 : Nat → Nat → Int32} {V : Nat → Nat} {x : Nat} (hx : x < V 3) (h6 : V 3 ≤ 6) : ∀ (N : Nat) (u : Nat) (A : Nat → Nat → Int32), (5 - u = N) → (x ≤ u) → (u ≤ 5) → (Mok A (cutV V x u)) → (∀ j, j ≠ 0 → A j = A0 j) → AW l G MX11_cuts 2 120 0 0 (PO f o I A0 (0, V (42 + x), va_up (cutV V x 5) 3 (V 3 - 1)) n) n 0 0 26 [(3, .int (nI u)), (2, .int (nI (V (42 + x)))), (0, .ref o), (1, .int (nI x))] [] (mU f o I A) n := by
  intro N
  induction N using Nat.strongRecOn with
  | ind N ih =>
    intro u A hN hu hu5 hA hR
    refine aw_iload_n dX11_cuts_26 rfl rfl ?_
    refine aw_iconst_n 5 dX11_cuts_27 (by decide) ?_
    refine aw_icmp_ge_n (by omega) (by omega) (tgt := 57) dX11_cuts_28 (by decide) (fun c_1 => ?_) (fun c_1 => ?_)
    · have e : u = 5 := by omega
      subst e
      refine aw_aload_n dX11_cuts_57 rfl rfl ?_
      refine aw_get (v := .ref (o + 1)) fl_X11_7 mU_0 rfl dX11_cuts_58 ?_
      refine aw_iconst_n 3 dX11_cuts_61 (by decide) ?_
      refine aw_dup2 dX11_cuts_62 rfl rfl ?_
      refine aw_mldv hA (k := 3) (v := V 3) (by omega) (cutV_lo (by decide)) dX11_cuts_63 ?_
      refine aw_iconst_n 1 dX11_cuts_64 (by decide) ?_
      refine aw_isub_n (by omega) dX11_cuts_65 ?_
      refine aw_mst hA (k := 3) (x := (V 3) - 1) (by omega) dX11_cuts_66 (fun A_2 hA_3 hR_4 => ?_)
      refine aw_aload_n dX11_cuts_67 rfl rfl ?_
      refine aw_iload_n dX11_cuts_68 rfl rfl ?_
      refine aw_vI (as := [Value.int (nI (V (42 + x)))]) (rest := []) mV_X11_done (m_done (nI (V (42 + x)))) ml_X11_60 mU_0 rfl dX11_cuts_69 rfl rfl (by decide) (Nat.le_of_ble_eq_true rfl) (by decide) ?_
      exact aw_iret rfl (by decide) (by decide) dX11_cuts_72 (PO_of (by rfl) hA_3 (fun j h9 => (hR_4 j h9).trans (hR j h9)))
    · refine aw_aload_n dX11_cuts_31 rfl rfl ?_
      refine aw_get (v := .ref (o + 1)) fl_X11_7 mU_0 rfl dX11_cuts_32 ?_
      refine aw_bipush_n 42 dX11_cuts_35 (by decide) ?_
      refine aw_iload_n dX11_cuts_37 rfl rfl ?_
      refine aw_iadd_n dX11_cuts_38 ?_
      refine aw_aload_n dX11_cuts_39 rfl rfl ?_
      refine aw_get (v := .ref (o + 1)) fl_X11_7 mU_0 rfl dX11_cuts_40 ?_
      refine aw_bipush_n 42 dX11_cuts_43 (by decide) ?_
      refine aw_iload_n dX11_cuts_45 rfl rfl ?_
      refine aw_iadd_n dX11_cuts_46 ?_
      refine aw_iconst_n 1 dX11_cuts_47 (by decide) ?_
      refine aw_iadd_n dX11_cuts_48 ?_
      refine aw_mldv hA (k := 42 + u + 1) (v := V (42 + u + 1)) (by omega) (cutV_hi (by omega)) dX11_cuts_49 ?_
      refine aw_mst hA (k := 42 + u) (x := V (42 + u + 1)) (by omega) dX11_cuts_50 (fun A_5 hA_6 hR_7 => ?_)
      refine aw_iinc_n (L' := [(3, .int (nI (u + 1))), (2, .int (nI (V (42 + x)))), (0, .ref o), (1, .int (nI x))]) 1 dX11_cuts_51 rfl (by decide) (by decide) rfl ?_
      refine aw_goto (tgt := 26) dX11_cuts_54 (by decide) ?_
      exact ih _ (by omega) (u + 1) _ rfl (by omega) (by omega) (by rw [cutV_step (by omega)]; exact hA_6) (fun j h9 => (hR_7 j h9).trans (hR j h9))
set_option maxHeartbeats 4000000 in
theorem m_cuts {l : Launch} {G : GT} {n : Nat} {f : HT} {o : Nat} {I : Nat → Int32} {A : Nat → Nat → Int32} {K : Nat} {V : Nat → Nat} (hA : Mok A V) (hB : VB K V) (a : Int32) : AM l G yX11_cuts (.code yX11_cuts cX11_cuts 4 (some .int)) 2 120 0 0 [.ref o, .int a] (mU f o I A) n (PO f o I A (opCut V a) n) := by
  refine aw_enter (M := MX11_cuts) rfl rfl (by decide +kernel) rfl (Nat.le_of_ble_eq_true rfl) ?_
  have hcnt := VB.cnt hB
  have hleg := VB.legs hB
  have hfr := VB.fric hB
  show AW l G MX11_cuts 2 120 0 0 _ n 0 0 0 [(0, .ref o), (1, .int a)] [] _ n
  refine aw_aload_n dX11_cuts_0 rfl rfl ?_
  refine aw_iload_n dX11_cuts_1 rfl rfl ?_
  refine aw_vI (as := [Value.int a]) (rest := []) mV_X11_isLeg (m_isL hA (c := V 3) a rfl (by omega)) ml_X11_145 mU_0 rfl dX11_cuts_2 rfl rfl (by decide) (Nat.le_of_ble_eq_true rfl) (by decide) ?_
  refine aw_if_ne_b (tgt := 14) dX11_cuts_5 (by decide) (fun c_1 => ?_) (fun c_1 => ?_)
  · obtain ⟨x, hx1, rfl⟩ := isK_of (by omega) c_1
    have hq : opCut V (nI x) = (0, V (42 + x), va_up (cutV V x 5) 3 (V 3 - 1)) := by simp [opCut, c_1, nIc (show x < 2 ^ 31 by omega)]
    rw [hq]
    refine aw_aload_n dX11_cuts_14 rfl rfl ?_
    refine aw_get (v := .ref (o + 1)) fl_X11_7 mU_0 rfl dX11_cuts_15 ?_
    refine aw_bipush_n 42 dX11_cuts_18 (by decide) ?_
    refine aw_iload_n dX11_cuts_20 rfl rfl ?_
    refine aw_iadd_n dX11_cuts_21 ?_
    refine aw_mld hA (k := 42 + x) (by omega) dX11_cuts_22 ?_
    have hb_2 : V (42 + x) < 16000000 := VB.lt hB (by omega)
    refine aw_istore_n (L' := [(2, .int (nI (V (42 + x)))), (0, .ref o), (1, .int (nI x))]) dX11_cuts_23 rfl (by decide) rfl ?_
    refine aw_iload_n dX11_cuts_24 rfl rfl ?_
    refine aw_istore_n (L' := [(3, .int (nI x)), (2, .int (nI (V (42 + x)))), (0, .ref o), (1, .int (nI x))]) dX11_cuts_25 rfl (by decide) rfl ?_
    exact m_cuts_loop hx1 hleg _ x A rfl (Nat.le_refl _) (by omega) (by rw [cutV_0]; exact hA) (fun _ _ => rfl)
  · refine aw_aload_n dX11_cuts_8 rfl rfl ?_
    refine aw_iconst_n 1 dX11_cuts_9 (by decide) ?_
    refine aw_vI (as := [Value.int (nI 1)]) (rest := []) mV_X11_fails (m_fails 1) ml_X11_56 mU_0 rfl dX11_cuts_10 rfl rfl (by decide) (Nat.le_of_ble_eq_true rfl) (by decide) ?_
    exact aw_iret rfl (by decide) (by decide) dX11_cuts_13 (PO_of (by simp [opCut, c_1]) hA (fun _ _ => rfl))
