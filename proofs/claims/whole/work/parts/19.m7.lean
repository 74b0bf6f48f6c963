/-! what is asked of the numbers: (what is thrown, the answer) -/
def qNum (V : Nat → Nat) (a : Nat) (v : Int32) : Nat × Nat := if isK v (V 2) = true then (0, V (a + v.toNatClampNeg)) else (1, 0)
def qClass (V : Nat → Nat) (v : Int32) : Nat × Nat := if isK v (V 2) = true then (0, kindN (V (4 + v.toNatClampNeg))) else (1, 0)
def qStart (V : Nat → Nat) (v : Int32) : Nat × Nat := if isK v (V 2) = true then (if V (12 + v.toNatClampNeg) = 0 then (2, 0) else (0, V (20 + v.toNatClampNeg))) else (1, 0)
def qPeriod (V : Nat → Nat) (v : Int32) : Nat × Nat := if isK v (V 2) = true then (0, perN (V (4 + v.toNatClampNeg))) else (1, 0)
def qWish (V : Nat → Nat) (v : Int32) : Nat × Nat := if isK v (V 3) = true then (0, V (42 + v.toNatClampNeg)) else (1, 0)
def whyN (V : Nat → Nat) (v : Int32) : Nat := if inB v (nI 0) (nI 2) = true then (if V (36 + v.toNatClampNeg) = 0 then 2 else 0) else 1
def qRec (V : Nat → Nat) (a : Nat) (v : Int32) : Nat × Nat := if whyN V v = 0 then (0, V (a + v.toNatClampNeg)) else (whyN V v, 0)
theorem whyN_lt (V : Nat → Nat) (v : Int32) : whyN V v < 3 := by unfold whyN; (repeat' split) <;> decide
theorem why_0 {V : Nat → Nat} {v : Int32} (h : whyN V v = 0) : ∃ x, x ≤ 2 ∧ v = nI x ∧ V (36 + x) ≠ 0 := by
  unfold whyN at h
  split at h
  · next h1 =>
    obtain ⟨x, -, h2, rfl⟩ := inB_of (by decide) (by decide) h1
    rw [nIc (by omega)] at h
    refine ⟨x, h2, rfl, fun z => ?_⟩
    rw [if_pos z] at h; exact absurd h (by decide)
  · exact absurd h (by decide)
def aheadN (V : Nat → Nat) (p k : Nat) : Bool := decide (V (12 + k) < V (12 + p) ∨ (V (12 + p) = V (12 + k) ∧ (V (28 + k) < V (28 + p) ∨ (V (28 + p) = V (28 + k) ∧ p < k))))
def rkC (V : Nat → Nat) (k : Nat) : Nat → Nat
  | 0 => 0
  | u + 1 => rkC V k u + (if aheadN V u k = true then 1 else 0)
def rankN (V : Nat → Nat) (k : Nat) : Nat := rkC V k (V 2)
def rkF (V : Nat → Nat) (r : Int32) : Nat → Nat → Nat × Nat
  | 0, _ => (1, 0)
  | n + 1, k => if nI (rankN V k) = r then (0, k) else rkF V r n (k + 1)
def qRank (V : Nat → Nat) (r : Int32) : Nat × Nat := rkF V r (V 2) 0
theorem rkF_yes {V : Nat → Nat} {r : Int32} {n k : Nat} (h : nI (rankN V k) = r) : rkF V r (n + 1) k = (0, k) := by unfold rkF; rw [if_pos h]
theorem rkF_no {V : Nat → Nat} {r : Int32} {n k : Nat} (h : ¬ nI (rankN V k) = r) : rkF V r (n + 1) k = rkF V r n (k + 1) := by
  show (if nI (rankN V k) = r then (0, k) else rkF V r n (k + 1)) = _
  rw [if_neg h]
theorem sI_pos {a b : Nat} (ha : a < 2 ^ 30) (hb : b < 2 ^ 30) : 0 < nI a - nI b ↔ b < a := by
  rw [Int32.lt_iff_toInt_lt, pk_sub_toInt ha hb, Int32.toInt_zero]; omega
theorem sI_0 {a b : Nat} (ha : a < 2 ^ 30) (hb : b < 2 ^ 30) : nI a - nI b = 0 ↔ a = b := by
  constructor
  · intro h
    have := pk_sub_toInt ha hb
    rw [h, Int32.toInt_zero] at this
    omega
  · rintro rfl
    rw [pk_sub (Nat.le_refl a), Nat.sub_self]; exact nI_0
def RQ (f : HT) (o : Nat) (I : Nat → Int32) (A : Nat → Nat → Int32) (q : Nat × Nat) (n : Nat) : PT := rI (nI q.2) (mU f o (va_up I 12 (nI q.1)) A) n
theorem RQ_of {f : HT} {o n c x : Nat} {I : Nat → Int32} {A : Nat → Nat → Int32} {q : Nat × Nat} (hq : q = (c, x)) : RQ f o I A q n (.inl (some (.int (nI x)))) (mU f o (va_up I 12 (nI c)) A) n := by
  subst hq
  exact ⟨rfl, rfl, rfl⟩
abbrev MX11_pendulumNumber : MT := (RX11, cX11_pendulumNumber, 3, (some .int), [], "pendulumNumber")
set_option maxHeartbeats 4000000 in
theorem m_num {l : Launch} {G : GT} {n : Nat} {f : HT} {o : Nat} {I : Nat → Int32} {A : Nat → Nat → Int32} {K : Nat} {V : Nat → Nat} (hA : Mok A V) (hB : VB K V) (at9 : Nat) (h4 : at9 = 4 ∨ at9 = 12 ∨ at9 = 20 ∨ at9 = 28) (v : Int32) : AM l G yX11_pendulumNumber (.code yX11_pendulumNumber cX11_pendulumNumber 3 (some .int)) 2 120 0 0 [.ref o, .int (nI at9), .int v] (mU f o I A) n (RQ f o I A (qNum V at9 v) n) := by
  refine aw_enter (M := MX11_pendulumNumber) rfl rfl (by decide +kernel) rfl (Nat.le_of_ble_eq_true rfl) ?_
  have hcnt := VB.cnt hB
  have hleg := VB.legs hB
  have hfr := VB.fric hB
  have hnow := VB.now hB
  have hkk := VB.kk hB
  show AW l G MX11_pendulumNumber 2 120 0 0 _ n 0 0 0 [(0, .ref o), (1, .int (nI at9)), (2, .int v)] [] _ n
  refine aw_aload_n dX11_pendulumNumber_0 rfl rfl ?_
  refine aw_iload_n dX11_pendulumNumber_1 rfl rfl ?_
  refine aw_vI (as := [Value.int v]) (rest := []) mV_X11_isPendulum (m_isP hA (c := V 2) v rfl (by omega)) ml_X11_72 mU_0 rfl dX11_pendulumNumber_2 rfl rfl (by decide) (Nat.le_of_ble_eq_true rfl) (by decide) ?_
  refine aw_if_eq_b (tgt := 23) dX11_pendulumNumber_5 (by decide) (fun c_1 => ?_) (fun c_1 => ?_)
  · refine aw_aload_n dX11_pendulumNumber_23 rfl rfl ?_
    refine aw_iconst_n 1 dX11_pendulumNumber_24 (by decide) ?_
    refine aw_vI (as := [Value.int (nI 1)]) (rest := []) mV_X11_fails (m_fails 1) ml_X11_56 mU_0 rfl dX11_pendulumNumber_25 rfl rfl (by decide) (Nat.le_of_ble_eq_true rfl) (by decide) ?_
    exact aw_iret rfl (by decide) (by decide) dX11_pendulumNumber_28 (RQ_of (by simp [qNum, c_1]))
  · obtain ⟨x, hx1, rfl⟩ := isK_of (by omega) c_1
    have hax := VB.amp hB (k := x) (by omega)
    have hlx := VB.len hB (k := x) (by omega)
    have hl1 := VB.len1 hB (k := x) (by omega)
    have hsx := VB.start hB (k := x) (by omega)
    have hwx := VB.sw hB (k := x) (by omega)
    have hnx := nIc (show x < 2 ^ 31 by omega)
    have hpp := per_pos hl1
    have hpl := per_le hlx
    refine aw_aload_n dX11_pendulumNumber_8 rfl rfl ?_
    refine aw_aload_n dX11_pendulumNumber_9 rfl rfl ?_
    refine aw_get (v := .ref (o + 1)) fl_X11_7 mU_0 rfl dX11_pendulumNumber_10 ?_
    refine aw_iload_n dX11_pendulumNumber_13 rfl rfl ?_
    refine aw_iload_n dX11_pendulumNumber_14 rfl rfl ?_
    refine aw_iadd_n dX11_pendulumNumber_15 ?_
    refine aw_mld hA (k := at9 + x) (by omega) dX11_pendulumNumber_16 ?_
    have hb_2 : V (at9 + x) < 16000000 := VB.lt hB (by omega)
    refine aw_vI (as := [Value.int (nI (V (at9 + x)))]) (rest := []) mV_X11_done (m_done (nI (V (at9 + x)))) ml_X11_60 mU_0 rfl dX11_pendulumNumber_17 rfl rfl (by decide) (Nat.le_of_ble_eq_true rfl) (by decide) ?_
    refine aw_goto (tgt := 28) dX11_pendulumNumber_20 (by decide) ?_
    exact aw_iret rfl (by decide) (by decide) dX11_pendulumNumber_28 (RQ_of (by simp [qNum, c_1, hnx]))
abbrev MX11_lengthOf : MT := (RX11, cX11_lengthOf, 2, (some .int), [], "lengthOf")
set_option maxHeartbeats 4000000 in
theorem m_lengthOf {l : Launch} {G : GT} {n : Nat} {f : HT} {o : Nat} {I : Nat → Int32} {A : Nat → Nat → Int32} {K : Nat} {V : Nat → Nat} (hA : Mok A V) (hB : VB K V) (v : Int32) : AM l G yX11_lengthOf (.code yX11_lengthOf cX11_lengthOf 2 (some .int)) 3 180 0 0 [.ref o, .int v] (mU f o I A) n (RQ f o I A (qNum V 4 v) n) := by
  refine aw_enter (M := MX11_lengthOf) rfl rfl (by decide +kernel) rfl (Nat.le_of_ble_eq_true rfl) ?_
  have hcnt := VB.cnt hB
  have hleg := VB.legs hB
  have hfr := VB.fric hB
  have hnow := VB.now hB
  have hkk := VB.kk hB
  show AW l G MX11_lengthOf 3 180 0 0 _ n 0 0 0 [(0, .ref o), (1, .int v)] [] _ n
  refine aw_aload_n dX11_lengthOf_0 rfl rfl ?_
  refine aw_iconst_n 4 dX11_lengthOf_1 (by decide) ?_
  refine aw_iload_n dX11_lengthOf_2 rfl rfl ?_
  refine aw_vI (as := [Value.int (nI 4), Value.int v]) (rest := []) mV_X11_pendulumNumber (m_num hA hB 4 (by decide) v) ml_X11_105 mU_0 rfl dX11_lengthOf_3 rfl rfl (by decide) (Nat.le_of_ble_eq_true rfl) (by decide) ?_
  exact aw_iret rfl (by decide) (by decide) dX11_lengthOf_6 ⟨rfl, rfl, rfl⟩
abbrev MX11_amplitudeOf : MT := (RX11, cX11_amplitudeOf, 2, (some .int), [], "amplitudeOf")
set_option maxHeartbeats 4000000 in
theorem m_amplitudeOf {l : Launch} {G : GT} {n : Nat} {f : HT} {o : Nat} {I : Nat → Int32} {A : Nat → Nat → Int32} {K : Nat} {V : Nat → Nat} (hA : Mok A V) (hB : VB K V) (v : Int32) : AM l G yX11_amplitudeOf (.code yX11_amplitudeOf cX11_amplitudeOf 2 (some .int)) 3 180 0 0 [.ref o, .int v] (mU f o I A) n (RQ f o I A (qNum V 12 v) n) := by
  refine aw_enter (M := MX11_amplitudeOf) rfl rfl (by decide +kernel) rfl (Nat.le_of_ble_eq_true rfl) ?_
  have hcnt := VB.cnt hB
  have hleg := VB.legs hB
  have hfr := VB.fric hB
  have hnow := VB.now hB
  have hkk := VB.kk hB
  show AW l G MX11_amplitudeOf 3 180 0 0 _ n 0 0 0 [(0, .ref o), (1, .int v)] [] _ n
  refine aw_aload_n dX11_amplitudeOf_0 rfl rfl ?_
  refine aw_bipush_n 12 dX11_amplitudeOf_1 (by decide) ?_
  refine aw_iload_n dX11_amplitudeOf_3 rfl rfl ?_
  refine aw_vI (as := [Value.int (nI 12), Value.int v]) (rest := []) mV_X11_pendulumNumber (m_num hA hB 12 (by decide) v) ml_X11_105 mU_0 rfl dX11_amplitudeOf_4 rfl rfl (by decide) (Nat.le_of_ble_eq_true rfl) (by decide) ?_
  exact aw_iret rfl (by decide) (by decide) dX11_amplitudeOf_7 ⟨rfl, rfl, rfl⟩
abbrev MX11_swingsOf : MT := (RX11, cX11_swingsOf, 2, (some .int), [], "swingsOf")
set_option maxHeartbeats 4000000 in
theorem m_swingsOf {l : Launch} {G : GT} {n : Nat} {f : HT} {o : Nat} {I : Nat → Int32} {A : Nat → Nat → Int32} {K : Nat} {V : Nat → Nat} (hA : Mok A V) (hB : VB K V) (v : Int32) : AM l G yX11_swingsOf (.code yX11_swingsOf cX11_swingsOf 2 (some .int)) 3 180 0 0 [.ref o, .int v] (mU f o I A) n (RQ f o I A (qNum V 28 v) n) := by
  refine aw_enter (M := MX11_swingsOf) rfl rfl (by decide +kernel) rfl (Nat.le_of_ble_eq_true rfl) ?_
  have hcnt := VB.cnt hB
  have hleg := VB.legs hB
  have hfr := VB.fric hB
  have hnow := VB.now hB
  have hkk := VB.kk hB
  show AW l G MX11_swingsOf 3 180 0 0 _ n 0 0 0 [(0, .ref o), (1, .int v)] [] _ n
  refine aw_aload_n dX11_swingsOf_0 rfl rfl ?_
  refine aw_bipush_n 28 dX11_swingsOf_1 (by decide) ?_
  refine aw_iload_n dX11_swingsOf_3 rfl rfl ?_
  refine aw_vI (as := [Value.int (nI 28), Value.int v]) (rest := []) mV_X11_pendulumNumber (m_num hA hB 28 (by decide) v) ml_X11_105 mU_0 rfl dX11_swingsOf_4 rfl rfl (by decide) (Nat.le_of_ble_eq_true rfl) (by decide) ?_
  exact aw_iret rfl (by decide) (by decide) dX11_swingsOf_7 ⟨rfl, rfl, rfl⟩
abbrev MX11_classOf : MT := (RX11, cX11_classOf, 2, (some .int), [], "classOf")
set_option maxHeartbeats 4000000 in
theorem m_classOf {l : Launch} {G : GT} {n : Nat} {f : HT} {o : Nat} {I : Nat → Int32} {A : Nat → Nat → Int32} {K : Nat} {V : Nat → Nat} (hA : Mok A V) (hB : VB K V) (v : Int32) : AM l G yX11_classOf (.code yX11_classOf cX11_classOf 2 (some .int)) 2 120 0 0 [.ref o, .int v] (mU f o I A) n (RQ f o I A (qClass V v) n) := by
  refine aw_enter (M := MX11_classOf) rfl rfl (by decide +kernel) rfl (Nat.le_of_ble_eq_true rfl) ?_
  have hcnt := VB.cnt hB
  have hleg := VB.legs hB
  have hfr := VB.fric hB
  have hnow := VB.now hB
  have hkk := VB.kk hB
  show AW l G MX11_classOf 2 120 0 0 _ n 0 0 0 [(0, .ref o), (1, .int v)] [] _ n
  refine aw_aload_n dX11_classOf_0 rfl rfl ?_
  refine aw_iload_n dX11_classOf_1 rfl rfl ?_
  refine aw_vI (as := [Value.int v]) (rest := []) mV_X11_isPendulum (m_isP hA (c := V 2) v rfl (by omega)) ml_X11_72 mU_0 rfl dX11_classOf_2 rfl rfl (by decide) (Nat.le_of_ble_eq_true rfl) (by decide) ?_
  refine aw_if_eq_b (tgt := 20) dX11_classOf_5 (by decide) (fun c_1 => ?_) (fun c_1 => ?_)
  · refine aw_aload_n dX11_classOf_20 rfl rfl ?_
    refine aw_iconst_n 1 dX11_classOf_21 (by decide) ?_
    refine aw_vI (as := [Value.int (nI 1)]) (rest := []) mV_X11_fails (m_fails 1) ml_X11_56 mU_0 rfl dX11_classOf_22 rfl rfl (by decide) (Nat.le_of_ble_eq_true rfl) (by decide) ?_
    exact aw_iret rfl (by decide) (by decide) dX11_classOf_25 (RQ_of (by simp [qClass, c_1]))
  · obtain ⟨x, hx1, rfl⟩ := isK_of (by omega) c_1
    have hax := VB.amp hB (k := x) (by omega)
    have hlx := VB.len hB (k := x) (by omega)
    have hl1 := VB.len1 hB (k := x) (by omega)
    have hsx := VB.start hB (k := x) (by omega)
    have hwx := VB.sw hB (k := x) (by omega)
    have hnx := nIc (show x < 2 ^ 31 by omega)
    have hpp := per_pos hl1
    have hpl := per_le hlx
    refine aw_aload_n dX11_classOf_8 rfl rfl ?_
    refine aw_aload_n dX11_classOf_9 rfl rfl ?_
    refine aw_iload_n dX11_classOf_10 rfl rfl ?_
    refine aw_vI (as := [Value.int (nI x)]) (rest := [Value.ref o]) mV_X11_kind (m_kind hA (k := x) (len := V (4 + x)) (by omega) rfl (by omega)) ml_X11_79 mU_0 rfl dX11_classOf_11 rfl rfl (by decide) (Nat.le_of_ble_eq_true rfl) (by decide) ?_
    refine aw_vI (as := [Value.int (nI (kindN (V (4 + x))))]) (rest := []) mV_X11_done (m_done (nI (kindN (V (4 + x))))) ml_X11_60 mU_0 rfl dX11_classOf_14 rfl rfl (by decide) (Nat.le_of_ble_eq_true rfl) (by decide) ?_
    refine aw_goto (tgt := 25) dX11_classOf_17 (by decide) ?_
    exact aw_iret rfl (by decide) (by decide) dX11_classOf_25 (RQ_of (by simp [qClass, c_1, hnx]))
abbrev MX11_startOf : MT := (RX11, cX11_startOf, 2, (some .int), [], "startOf")
set_option maxHeartbeats 4000000 in
theorem m_startOf {l : Launch} {G : GT} {n : Nat} {f : HT} {o : Nat} {I : Nat → Int32} {A : Nat → Nat → Int32} {K : Nat} {V : Nat → Nat} (hA : Mok A V) (hB : VB K V) (v : Int32) : AM l G yX11_startOf (.code yX11_startOf cX11_startOf 2 (some .int)) 2 120 0 0 [.ref o, .int v] (mU f o I A) n (RQ f o I A (qStart V v) n) := by
  refine aw_enter (M := MX11_startOf) rfl rfl (by decide +kernel) rfl (Nat.le_of_ble_eq_true rfl) ?_
  have hcnt := VB.cnt hB
  have hleg := VB.legs hB
  have hfr := VB.fric hB
  have hnow := VB.now hB
  have hkk := VB.kk hB
  show AW l G MX11_startOf 2 120 0 0 _ n 0 0 0 [(0, .ref o), (1, .int v)] [] _ n
  refine aw_aload_n dX11_startOf_0 rfl rfl ?_
  refine aw_iload_n dX11_startOf_1 rfl rfl ?_
  refine aw_vI (as := [Value.int v]) (rest := []) mV_X11_isPendulum (m_isP hA (c := V 2) v rfl (by omega)) ml_X11_72 mU_0 rfl dX11_startOf_2 rfl rfl (by decide) (Nat.le_of_ble_eq_true rfl) (by decide) ?_
  refine aw_if_ne_b (tgt := 14) dX11_startOf_5 (by decide) (fun c_1 => ?_) (fun c_1 => ?_)
  · obtain ⟨x, hx1, rfl⟩ := isK_of (by omega) c_1
    have hax := VB.amp hB (k := x) (by omega)
    have hlx := VB.len hB (k := x) (by omega)
    have hl1 := VB.len1 hB (k := x) (by omega)
    have hsx := VB.start hB (k := x) (by omega)
    have hwx := VB.sw hB (k := x) (by omega)
    have hnx := nIc (show x < 2 ^ 31 by omega)
    have hpp := per_pos hl1
    have hpl := per_le hlx
    refine aw_aload_n dX11_startOf_14 rfl rfl ?_
    refine aw_iload_n dX11_startOf_15 rfl rfl ?_
    refine aw_vI (as := [Value.int (nI x)]) (rest := []) mV_X11_rests (m_rests hA (k := x) (a := V (12 + x)) (by omega) rfl (by omega)) ml_X11_76 mU_0 rfl dX11_startOf_16 rfl rfl (by decide) (Nat.le_of_ble_eq_true rfl) (by decide) ?_
    refine aw_if_eq_b (tgt := 30) dX11_startOf_19 (by decide) (fun c_2 => ?_) (fun c_2 => ?_)
    · refine aw_aload_n dX11_startOf_30 rfl rfl ?_
      refine aw_aload_n dX11_startOf_31 rfl rfl ?_
      refine aw_get (v := .ref (o + 1)) fl_X11_7 mU_0 rfl dX11_startOf_32 ?_
      refine aw_bipush_n 20 dX11_startOf_35 (by decide) ?_
      refine aw_iload_n dX11_startOf_37 rfl rfl ?_
      refine aw_iadd_n dX11_startOf_38 ?_
      refine aw_mld hA (k := 20 + x) (by omega) dX11_startOf_39 ?_
      have hb_3 : V (20 + x) < 16000000 := VB.lt hB (by omega)
      refine aw_vI (as := [Value.int (nI (V (20 + x)))]) (rest := []) mV_X11_done (m_done (nI (V (20 + x)))) ml_X11_60 mU_0 rfl dX11_startOf_40 rfl rfl (by decide) (Nat.le_of_ble_eq_true rfl) (by decide) ?_
      exact aw_iret rfl (by decide) (by decide) dX11_startOf_43 (RQ_of (by simp_all [qStart]))
    · refine aw_aload_n dX11_startOf_22 rfl rfl ?_
      refine aw_iconst_n 2 dX11_startOf_23 (by decide) ?_
      refine aw_vI (as := [Value.int (nI 2)]) (rest := []) mV_X11_fails (m_fails 2) ml_X11_56 mU_0 rfl dX11_startOf_24 rfl rfl (by decide) (Nat.le_of_ble_eq_true rfl) (by decide) ?_
      refine aw_goto (tgt := 43) dX11_startOf_27 (by decide) ?_
      exact aw_iret rfl (by decide) (by decide) dX11_startOf_43 (RQ_of (by simp_all [qStart]))
  · refine aw_aload_n dX11_startOf_8 rfl rfl ?_
    refine aw_iconst_n 1 dX11_startOf_9 (by decide) ?_
    refine aw_vI (as := [Value.int (nI 1)]) (rest := []) mV_X11_fails (m_fails 1) ml_X11_56 mU_0 rfl dX11_startOf_10 rfl rfl (by decide) (Nat.le_of_ble_eq_true rfl) (by decide) ?_
    exact aw_iret rfl (by decide) (by decide) dX11_startOf_13 (RQ_of (by simp_all [qStart]))
abbrev MX11_periodOf : MT := (RX11, cX11_periodOf, 2, (some .int), [], "periodOf")
set_option maxHeartbeats 4000000 in
theorem m_periodOf {l : Launch} {G : GT} {n : Nat} {f : HT} {o : Nat} {I : Nat → Int32} {A : Nat → Nat → Int32} {K : Nat} {V : Nat → Nat} (hA : Mok A V) (hB : VB K V) (v : Int32) : AM l G yX11_periodOf (.code yX11_periodOf cX11_periodOf 2 (some .int)) 2 120 0 0 [.ref o, .int v] (mU f o I A) n (RQ f o I A (qPeriod V v) n) := by
  refine aw_enter (M := MX11_periodOf) rfl rfl (by decide +kernel) rfl (Nat.le_of_ble_eq_true rfl) ?_
  have hcnt := VB.cnt hB
  have hleg := VB.legs hB
  have hfr := VB.fric hB
  have hnow := VB.now hB
  have hkk := VB.kk hB
  show AW l G MX11_periodOf 2 120 0 0 _ n 0 0 0 [(0, .ref o), (1, .int v)] [] _ n
  refine aw_aload_n dX11_periodOf_0 rfl rfl ?_
  refine aw_iload_n dX11_periodOf_1 rfl rfl ?_
  refine aw_vI (as := [Value.int v]) (rest := []) mV_X11_isPendulum (m_isP hA (c := V 2) v rfl (by omega)) ml_X11_72 mU_0 rfl dX11_periodOf_2 rfl rfl (by decide) (Nat.le_of_ble_eq_true rfl) (by decide) ?_
  refine aw_if_eq_b (tgt := 20) dX11_periodOf_5 (by decide) (fun c_1 => ?_) (fun c_1 => ?_)
  · refine aw_aload_n dX11_periodOf_20 rfl rfl ?_
    refine aw_iconst_n 1 dX11_periodOf_21 (by decide) ?_
    refine aw_vI (as := [Value.int (nI 1)]) (rest := []) mV_X11_fails (m_fails 1) ml_X11_56 mU_0 rfl dX11_periodOf_22 rfl rfl (by decide) (Nat.le_of_ble_eq_true rfl) (by decide) ?_
    exact aw_iret rfl (by decide) (by decide) dX11_periodOf_25 (RQ_of (by simp [qPeriod, c_1]))
  · obtain ⟨x, hx1, rfl⟩ := isK_of (by omega) c_1
    have hax := VB.amp hB (k := x) (by omega)
    have hlx := VB.len hB (k := x) (by omega)
    have hl1 := VB.len1 hB (k := x) (by omega)
    have hsx := VB.start hB (k := x) (by omega)
    have hwx := VB.sw hB (k := x) (by omega)
    have hnx := nIc (show x < 2 ^ 31 by omega)
    have hpp := per_pos hl1
    have hpl := per_le hlx
    refine aw_aload_n dX11_periodOf_8 rfl rfl ?_
    refine aw_aload_n dX11_periodOf_9 rfl rfl ?_
    refine aw_iload_n dX11_periodOf_10 rfl rfl ?_
    refine aw_vI (as := [Value.int (nI x)]) (rest := [Value.ref o]) mV_X11_period (m_period hA (k := x) (len := V (4 + x)) (by omega) rfl (by omega)) ml_X11_92 mU_0 rfl dX11_periodOf_11 rfl rfl (by decide) (Nat.le_of_ble_eq_true rfl) (by decide) ?_
    refine aw_vI (as := [Value.int (nI (perN (V (4 + x))))]) (rest := []) mV_X11_done (m_done (nI (perN (V (4 + x))))) ml_X11_60 mU_0 rfl dX11_periodOf_14 rfl rfl (by decide) (Nat.le_of_ble_eq_true rfl) (by decide) ?_
    refine aw_goto (tgt := 25) dX11_periodOf_17 (by decide) ?_
    exact aw_iret rfl (by decide) (by decide) dX11_periodOf_25 (RQ_of (by simp [qPeriod, c_1, hnx]))
abbrev MX11_periodByEstimates : MT := (RX11, cX11_periodByEstimates, 2, (some .int), [], "periodByEstimates")
set_option maxHeartbeats 4000000 in
theorem m_periodByEstimates {l : Launch} {G : GT} {n : Nat} {f : HT} {o : Nat} {I : Nat → Int32} {A : Nat → Nat → Int32} {K : Nat} {V : Nat → Nat} (hA : Mok A V) (hB : VB K V) (v : Int32) : AM l G yX11_periodByEstimates (.code yX11_periodByEstimates cX11_periodByEstimates 2 (some .int)) 3 180 0 0 [.ref o, .int v] (mU f o I A) n (RQ f o I A (qPeriod V v) n) := by
  refine aw_enter (M := MX11_periodByEstimates) rfl rfl (by decide +kernel) rfl (Nat.le_of_ble_eq_true rfl) ?_
  have hcnt := VB.cnt hB
  have hleg := VB.legs hB
  have hfr := VB.fric hB
  have hnow := VB.now hB
  have hkk := VB.kk hB
  show AW l G MX11_periodByEstimates 3 180 0 0 _ n 0 0 0 [(0, .ref o), (1, .int v)] [] _ n
  refine aw_aload_n dX11_periodByEstimates_0 rfl rfl ?_
  refine aw_iload_n dX11_periodByEstimates_1 rfl rfl ?_
  refine aw_vI (as := [Value.int v]) (rest := []) mV_X11_periodOf (m_periodOf hA hB v) ml_X11_108 mU_0 rfl dX11_periodByEstimates_2 rfl rfl (by decide) (Nat.le_of_ble_eq_true rfl) (by decide) ?_
  exact aw_iret rfl (by decide) (by decide) dX11_periodByEstimates_5 ⟨rfl, rfl, rfl⟩
abbrev MX11_pendulumCount : MT := (RX11, cX11_pendulumCount, 1, (some .int), [], "pendulumCount")
set_option maxHeartbeats 4000000 in
theorem m_pendulumCount {l : Launch} {G : GT} {n : Nat} {f : HT} {o : Nat} {I : Nat → Int32} {A : Nat → Nat → Int32} {K : Nat} {V : Nat → Nat} (hA : Mok A V) (hB : VB K V)  : AM l G yX11_pendulumCount (.code yX11_pendulumCount cX11_pendulumCount 1 (some .int)) 1 60 0 0 [.ref o] (mU f o I A) n (RQ f o I A ((0, V 2)) n) := by
  refine aw_enter (M := MX11_pendulumCount) rfl rfl (by decide +kernel) rfl (Nat.le_of_ble_eq_true rfl) ?_
  have hcnt := VB.cnt hB
  have hleg := VB.legs hB
  have hfr := VB.fric hB
  have hnow := VB.now hB
  have hkk := VB.kk hB
  show AW l G MX11_pendulumCount 1 60 0 0 _ n 0 0 0 [(0, .ref o)] [] _ n
  refine aw_aload_n dX11_pendulumCount_0 rfl rfl ?_
  refine aw_aload_n dX11_pendulumCount_1 rfl rfl ?_
  refine aw_get (v := .ref (o + 1)) fl_X11_7 mU_0 rfl dX11_pendulumCount_2 ?_
  refine aw_iconst_n 2 dX11_pendulumCount_5 (by decide) ?_
  refine aw_mld hA (k := 2) (by omega) dX11_pendulumCount_6 ?_
  have hb_1 : V 2 < 16000000 := VB.lt hB (by omega)
  refine aw_vI (as := [Value.int (nI (V 2))]) (rest := []) mV_X11_done (m_done (nI (V 2))) ml_X11_60 mU_0 rfl dX11_pendulumCount_7 rfl rfl (by decide) (Nat.le_of_ble_eq_true rfl) (by decide) ?_
  exact aw_iret rfl (by decide) (by decide) dX11_pendulumCount_10 (RQ_of (by rfl))
abbrev MX11_clock : MT := (RX11, cX11_clock, 1, (some .int), [], "clock")
set_option maxHeartbeats 4000000 in
theorem m_clock {l : Launch} {G : GT} {n : Nat} {f : HT} {o : Nat} {I : Nat → Int32} {A : Nat → Nat → Int32} {K : Nat} {V : Nat → Nat} (hA : Mok A V) (hB : VB K V)  : AM l G yX11_clock (.code yX11_clock cX11_clock 1 (some .int)) 1 60 0 0 [.ref o] (mU f o I A) n (RQ f o I A ((0, V 0)) n) := by
  refine aw_enter (M := MX11_clock) rfl rfl (by decide +kernel) rfl (Nat.le_of_ble_eq_true rfl) ?_
  have hcnt := VB.cnt hB
  have hleg := VB.legs hB
  have hfr := VB.fric hB
  have hnow := VB.now hB
  have hkk := VB.kk hB
  show AW l G MX11_clock 1 60 0 0 _ n 0 0 0 [(0, .ref o)] [] _ n
  refine aw_aload_n dX11_clock_0 rfl rfl ?_
  refine aw_aload_n dX11_clock_1 rfl rfl ?_
  refine aw_get (v := .ref (o + 1)) fl_X11_7 mU_0 rfl dX11_clock_2 ?_
  refine aw_iconst_n 0 dX11_clock_5 (by decide) ?_
  refine aw_mld hA (k := 0) (by omega) dX11_clock_6 ?_
  have hb_1 : V 0 < 16000000 := VB.lt hB (by omega)
  refine aw_vI (as := [Value.int (nI (V 0))]) (rest := []) mV_X11_done (m_done (nI (V 0))) ml_X11_60 mU_0 rfl dX11_clock_7 rfl rfl (by decide) (Nat.le_of_ble_eq_true rfl) (by decide) ?_
  exact aw_iret rfl (by decide) (by decide) dX11_clock_10 (RQ_of (by rfl))
abbrev MX11_friction : MT := (RX11, cX11_friction, 1, (some .int), [], "friction")
set_option maxHeartbeats 4000000 in
theorem m_friction {l : Launch} {G : GT} {n : Nat} {f : HT} {o : Nat} {I : Nat → Int32} {A : Nat → Nat → Int32} {K : Nat} {V : Nat → Nat} (hA : Mok A V) (hB : VB K V)  : AM l G yX11_friction (.code yX11_friction cX11_friction 1 (some .int)) 1 60 0 0 [.ref o] (mU f o I A) n (RQ f o I A ((0, V 1)) n) := by
  refine aw_enter (M := MX11_friction) rfl rfl (by decide +kernel) rfl (Nat.le_of_ble_eq_true rfl) ?_
  have hcnt := VB.cnt hB
  have hleg := VB.legs hB
  have hfr := VB.fric hB
  have hnow := VB.now hB
  have hkk := VB.kk hB
  show AW l G MX11_friction 1 60 0 0 _ n 0 0 0 [(0, .ref o)] [] _ n
  refine aw_aload_n dX11_friction_0 rfl rfl ?_
  refine aw_aload_n dX11_friction_1 rfl rfl ?_
  refine aw_get (v := .ref (o + 1)) fl_X11_7 mU_0 rfl dX11_friction_2 ?_
  refine aw_iconst_n 1 dX11_friction_5 (by decide) ?_
  refine aw_mld hA (k := 1) (by omega) dX11_friction_6 ?_
  have hb_1 : V 1 < 16000000 := VB.lt hB (by omega)
  refine aw_vI (as := [Value.int (nI (V 1))]) (rest := []) mV_X11_done (m_done (nI (V 1))) ml_X11_60 mU_0 rfl dX11_friction_7 rfl rfl (by decide) (Nat.le_of_ble_eq_true rfl) (by decide) ?_
  exact aw_iret rfl (by decide) (by decide) dX11_friction_10 (RQ_of (by rfl))
abbrev MX11_legCount : MT := (RX11, cX11_legCount, 1, (some .int), [], "legCount")
set_option maxHeartbeats 4000000 in
theorem m_legCount {l : Launch} {G : GT} {n : Nat} {f : HT} {o : Nat} {I : Nat → Int32} {A : Nat → Nat → Int32} {K : Nat} {V : Nat → Nat} (hA : Mok A V) (hB : VB K V)  : AM l G yX11_legCount (.code yX11_legCount cX11_legCount 1 (some .int)) 1 60 0 0 [.ref o] (mU f o I A) n (RQ f o I A ((0, V 3)) n) := by
  refine aw_enter (M := MX11_legCount) rfl rfl (by decide +kernel) rfl (Nat.le_of_ble_eq_true rfl) ?_
  have hcnt := VB.cnt hB
  have hleg := VB.legs hB
  have hfr := VB.fric hB
  have hnow := VB.now hB
  have hkk := VB.kk hB
  show AW l G MX11_legCount 1 60 0 0 _ n 0 0 0 [(0, .ref o)] [] _ n
  refine aw_aload_n dX11_legCount_0 rfl rfl ?_
  refine aw_aload_n dX11_legCount_1 rfl rfl ?_
  refine aw_get (v := .ref (o + 1)) fl_X11_7 mU_0 rfl dX11_legCount_2 ?_
  refine aw_iconst_n 3 dX11_legCount_5 (by decide) ?_
  refine aw_mld hA (k := 3) (by omega) dX11_legCount_6 ?_
  have hb_1 : V 3 < 16000000 := VB.lt hB (by omega)
  refine aw_vI (as := [Value.int (nI (V 3))]) (rest := []) mV_X11_done (m_done (nI (V 3))) ml_X11_60 mU_0 rfl dX11_legCount_7 rfl rfl (by decide) (Nat.le_of_ble_eq_true rfl) (by decide) ?_
  exact aw_iret rfl (by decide) (by decide) dX11_legCount_10 (RQ_of (by rfl))
abbrev MX11_wishOf : MT := (RX11, cX11_wishOf, 2, (some .int), [], "wishOf")
set_option maxHeartbeats 4000000 in
theorem m_wishOf {l : Launch} {G : GT} {n : Nat} {f : HT} {o : Nat} {I : Nat → Int32} {A : Nat → Nat → Int32} {K : Nat} {V : Nat → Nat} (hA : Mok A V) (hB : VB K V) (v : Int32) : AM l G yX11_wishOf (.code yX11_wishOf cX11_wishOf 2 (some .int)) 2 120 0 0 [.ref o, .int v] (mU f o I A) n (RQ f o I A (qWish V v) n) := by
  refine aw_enter (M := MX11_wishOf) rfl rfl (by decide +kernel) rfl (Nat.le_of_ble_eq_true rfl) ?_
  have hcnt := VB.cnt hB
  have hleg := VB.legs hB
  have hfr := VB.fric hB
  have hnow := VB.now hB
  have hkk := VB.kk hB
  show AW l G MX11_wishOf 2 120 0 0 _ n 0 0 0 [(0, .ref o), (1, .int v)] [] _ n
  refine aw_aload_n dX11_wishOf_0 rfl rfl ?_
  refine aw_iload_n dX11_wishOf_1 rfl rfl ?_
  refine aw_vI (as := [Value.int v]) (rest := []) mV_X11_isLeg (m_isL hA (c := V 3) v rfl (by omega)) ml_X11_145 mU_0 rfl dX11_wishOf_2 rfl rfl (by decide) (Nat.le_of_ble_eq_true rfl) (by decide) ?_
  refine aw_if_eq_b (tgt := 24) dX11_wishOf_5 (by decide) (fun c_1 => ?_) (fun c_1 => ?_)
  · refine aw_aload_n dX11_wishOf_24 rfl rfl ?_
    refine aw_iconst_n 1 dX11_wishOf_25 (by decide) ?_
    refine aw_vI (as := [Value.int (nI 1)]) (rest := []) mV_X11_fails (m_fails 1) ml_X11_56 mU_0 rfl dX11_wishOf_26 rfl rfl (by decide) (Nat.le_of_ble_eq_true rfl) (by decide) ?_
    exact aw_iret rfl (by decide) (by decide) dX11_wishOf_29 (RQ_of (by simp [qWish, c_1]))
  · obtain ⟨x, hx1, rfl⟩ := isK_of (by omega) c_1
    refine aw_aload_n dX11_wishOf_8 rfl rfl ?_
    refine aw_aload_n dX11_wishOf_9 rfl rfl ?_
    refine aw_get (v := .ref (o + 1)) fl_X11_7 mU_0 rfl dX11_wishOf_10 ?_
    refine aw_bipush_n 42 dX11_wishOf_13 (by decide) ?_
    refine aw_iload_n dX11_wishOf_15 rfl rfl ?_
    refine aw_iadd_n dX11_wishOf_16 ?_
    refine aw_mld hA (k := 42 + x) (by omega) dX11_wishOf_17 ?_
    have hb_2 : V (42 + x) < 16000000 := VB.lt hB (by omega)
    refine aw_vI (as := [Value.int (nI (V (42 + x)))]) (rest := []) mV_X11_done (m_done (nI (V (42 + x)))) ml_X11_60 mU_0 rfl dX11_wishOf_18 rfl rfl (by decide) (Nat.le_of_ble_eq_true rfl) (by decide) ?_
    refine aw_goto (tgt := 29) dX11_wishOf_21 (by decide) ?_
    exact aw_iret rfl (by decide) (by decide) dX11_wishOf_29 (RQ_of (by simp [qWish, c_1, nIc (show x < 2 ^ 31 by omega)]))
abbrev MX11_whyNoRecord : MT := (RX11, cX11_whyNoRecord, 2, (some .int), [], "whyNoRecord")
set_option maxHeartbeats 4000000 in
theorem m_why {l : Launch} {G : GT} {n : Nat} {f : HT} {o : Nat} {I : Nat → Int32} {A : Nat → Nat → Int32} {K : Nat} {V : Nat → Nat} (hA : Mok A V) (hB : VB K V) (v : Int32) : AM l G yX11_whyNoRecord (.code yX11_whyNoRecord cX11_whyNoRecord 2 (some .int)) 1 60 0 0 [.ref o, .int v] (mU f o I A) n (rI (nI (whyN V v)) (mU f o I A) n) := by
  refine aw_enter (M := MX11_whyNoRecord) rfl rfl (by decide +kernel) rfl (Nat.le_of_ble_eq_true rfl) ?_
  have hcnt := VB.cnt hB
  have hleg := VB.legs hB
  have hfr := VB.fric hB
  have hnow := VB.now hB
  have hkk := VB.kk hB
  show AW l G MX11_whyNoRecord 1 60 0 0 _ n 0 0 0 [(0, .ref o), (1, .int v)] [] _ n
  refine aw_iload_n dX11_whyNoRecord_0 rfl rfl ?_
  refine aw_iconst_n 0 dX11_whyNoRecord_1 (by decide) ?_
  refine aw_iconst_n 2 dX11_whyNoRecord_2 (by decide) ?_
  refine aw_sI (as := [Value.int v, Value.int (nI 0), Value.int (nI 2)]) (rest := []) mS_X11_in (m_in _ _ _) ml_X11_52 dX11_whyNoRecord_3 rfl rfl (by decide) (Nat.le_of_ble_eq_true rfl) (by decide) ?_
  refine aw_if_ne_b (tgt := 13) dX11_whyNoRecord_6 (by decide) (fun c_1 => ?_) (fun c_1 => ?_)
  · obtain ⟨x, hx0, hx2, rfl⟩ := inB_of (by decide) (by decide) c_1
    refine aw_aload_n dX11_whyNoRecord_13 rfl rfl ?_
    refine aw_get (v := .ref (o + 1)) fl_X11_7 mU_0 rfl dX11_whyNoRecord_14 ?_
    refine aw_bipush_n 36 dX11_whyNoRecord_17 (by decide) ?_
    refine aw_iload_n dX11_whyNoRecord_19 rfl rfl ?_
    refine aw_iadd_n dX11_whyNoRecord_20 ?_
    refine aw_mld hA (k := 36 + x) (by omega) dX11_whyNoRecord_21 ?_
    have hb_2 : V (36 + x) < 16000000 := VB.lt hB (by omega)
    refine aw_if_ne_n (by omega) (tgt := 29) dX11_whyNoRecord_22 (by decide) (fun c_3 => ?_) (fun c_3 => ?_)
    · refine aw_iconst_n 0 dX11_whyNoRecord_29 (by decide) ?_
      exact aw_iret rfl (by decide) (by decide) dX11_whyNoRecord_30 (rI_of (by simp_all [whyN, nIc (show x < 2 ^ 31 by omega)]))
    · refine aw_iconst_n 2 dX11_whyNoRecord_25 (by decide) ?_
      refine aw_goto (tgt := 30) dX11_whyNoRecord_26 (by decide) ?_
      exact aw_iret rfl (by decide) (by decide) dX11_whyNoRecord_30 (rI_of (by simp_all [whyN, nIc (show x < 2 ^ 31 by omega)]))
  · refine aw_iconst_n 1 dX11_whyNoRecord_9 (by decide) ?_
    refine aw_goto (tgt := 30) dX11_whyNoRecord_10 (by decide) ?_
    exact aw_iret rfl (by decide) (by decide) dX11_whyNoRecord_30 (rI_of (by simp [whyN, c_1]))
abbrev MX11_recordOf : MT := (RX11, cX11_recordOf, 3, (some .int), [], "recordOf")
set_option maxHeartbeats 4000000 in
theorem m_recordOf {l : Launch} {G : GT} {n : Nat} {f : HT} {o : Nat} {I : Nat → Int32} {A : Nat → Nat → Int32} {K : Nat} {V : Nat → Nat} (hA : Mok A V) (hB : VB K V) (v : Int32) : AM l G yX11_recordOf (.code yX11_recordOf cX11_recordOf 3 (some .int)) 2 120 0 0 [.ref o, .int v] (mU f o I A) n (RQ f o I A (qRec V 36 v) n) := by
  refine aw_enter (M := MX11_recordOf) rfl rfl (by decide +kernel) rfl (Nat.le_of_ble_eq_true rfl) ?_
  have hcnt := VB.cnt hB
  have hleg := VB.legs hB
  have hfr := VB.fric hB
  have hnow := VB.now hB
  have hkk := VB.kk hB
  show AW l G MX11_recordOf 2 120 0 0 _ n 0 0 0 [(0, .ref o), (1, .int v)] [] _ n
  refine aw_aload_n dX11_recordOf_0 rfl rfl ?_
  refine aw_iload_n dX11_recordOf_1 rfl rfl ?_
  have hwl := whyN_lt V v
  refine aw_vI (as := [Value.int v]) (rest := []) mV_X11_whyNoRecord (m_why hA hB v) ml_X11_111 mU_0 rfl dX11_recordOf_2 rfl rfl (by decide) (Nat.le_of_ble_eq_true rfl) (by decide) ?_
  refine aw_istore_n (L' := [(2, .int (nI (whyN V v))), (0, .ref o), (1, .int v)]) dX11_recordOf_5 rfl (by decide) rfl ?_
  refine aw_iload_n dX11_recordOf_6 rfl rfl ?_
  refine aw_if_le_n (by omega) (tgt := 18) dX11_recordOf_7 (by decide) (fun c_1 => ?_) (fun c_1 => ?_)
  · obtain ⟨x, hx2, rfl, hx3⟩ := why_0 c_1
    have hnx := nIc (show x < 2 ^ 31 by omega)
    refine aw_aload_n dX11_recordOf_18 rfl rfl ?_
    refine aw_aload_n dX11_recordOf_19 rfl rfl ?_
    refine aw_get (v := .ref (o + 1)) fl_X11_7 mU_0 rfl dX11_recordOf_20 ?_
    refine aw_bipush_n 36 dX11_recordOf_23 (by decide) ?_
    refine aw_iload_n dX11_recordOf_25 rfl rfl ?_
    refine aw_iadd_n dX11_recordOf_26 ?_
    refine aw_mld hA (k := 36 + x) (by omega) dX11_recordOf_27 ?_
    have hb_2 : V (36 + x) < 16000000 := VB.lt hB (by omega)
    refine aw_vI (as := [Value.int (nI (V (36 + x)))]) (rest := []) mV_X11_done (m_done (nI (V (36 + x)))) ml_X11_60 mU_0 rfl dX11_recordOf_28 rfl rfl (by decide) (Nat.le_of_ble_eq_true rfl) (by decide) ?_
    exact aw_iret rfl (by decide) (by decide) dX11_recordOf_31 (RQ_of (by simp_all [qRec]))
  · refine aw_aload_n dX11_recordOf_10 rfl rfl ?_
    refine aw_iload_n dX11_recordOf_11 rfl rfl ?_
    refine aw_vI (as := [Value.int (nI (whyN V v))]) (rest := []) mV_X11_fails (m_fails (whyN V v)) ml_X11_56 mU_0 rfl dX11_recordOf_12 rfl rfl (by decide) (Nat.le_of_ble_eq_true rfl) (by decide) ?_
    refine aw_goto (tgt := 31) dX11_recordOf_15 (by decide) ?_
    exact aw_iret rfl (by decide) (by decide) dX11_recordOf_31 (RQ_of (by simp_all [qRec]; omega))
abbrev MX11_holderOf : MT := (RX11, cX11_holderOf, 3, (some .int), [], "holderOf")
set_option maxHeartbeats 4000000 in
theorem m_holderOf {l : Launch} {G : GT} {n : Nat} {f : HT} {o : Nat} {I : Nat → Int32} {A : Nat → Nat → Int32} {K : Nat} {V : Nat → Nat} (hA : Mok A V) (hB : VB K V) (v : Int32) : AM l G yX11_holderOf (.code yX11_holderOf cX11_holderOf 3 (some .int)) 2 120 0 0 [.ref o, .int v] (mU f o I A) n (RQ f o I A (qRec V 39 v) n) := by
  refine aw_enter (M := MX11_holderOf) rfl rfl (by decide +kernel) rfl (Nat.le_of_ble_eq_true rfl) ?_
  have hcnt := VB.cnt hB
  have hleg := VB.legs hB
  have hfr := VB.fric hB
  have hnow := VB.now hB
  have hkk := VB.kk hB
  show AW l G MX11_holderOf 2 120 0 0 _ n 0 0 0 [(0, .ref o), (1, .int v)] [] _ n
  refine aw_aload_n dX11_holderOf_0 rfl rfl ?_
  refine aw_iload_n dX11_holderOf_1 rfl rfl ?_
  have hwl := whyN_lt V v
  refine aw_vI (as := [Value.int v]) (rest := []) mV_X11_whyNoRecord (m_why hA hB v) ml_X11_111 mU_0 rfl dX11_holderOf_2 rfl rfl (by decide) (Nat.le_of_ble_eq_true rfl) (by decide) ?_
  refine aw_istore_n (L' := [(2, .int (nI (whyN V v))), (0, .ref o), (1, .int v)]) dX11_holderOf_5 rfl (by decide) rfl ?_
  refine aw_iload_n dX11_holderOf_6 rfl rfl ?_
  refine aw_if_le_n (by omega) (tgt := 18) dX11_holderOf_7 (by decide) (fun c_1 => ?_) (fun c_1 => ?_)
  · obtain ⟨x, hx2, rfl, hx3⟩ := why_0 c_1
    have hnx := nIc (show x < 2 ^ 31 by omega)
    refine aw_aload_n dX11_holderOf_18 rfl rfl ?_
    refine aw_aload_n dX11_holderOf_19 rfl rfl ?_
    refine aw_get (v := .ref (o + 1)) fl_X11_7 mU_0 rfl dX11_holderOf_20 ?_
    refine aw_bipush_n 39 dX11_holderOf_23 (by decide) ?_
    refine aw_iload_n dX11_holderOf_25 rfl rfl ?_
    refine aw_iadd_n dX11_holderOf_26 ?_
    refine aw_mld hA (k := 39 + x) (by omega) dX11_holderOf_27 ?_
    have hb_2 : V (39 + x) < 16000000 := VB.lt hB (by omega)
    refine aw_vI (as := [Value.int (nI (V (39 + x)))]) (rest := []) mV_X11_done (m_done (nI (V (39 + x)))) ml_X11_60 mU_0 rfl dX11_holderOf_28 rfl rfl (by decide) (Nat.le_of_ble_eq_true rfl) (by decide) ?_
    exact aw_iret rfl (by decide) (by decide) dX11_holderOf_31 (RQ_of (by simp_all [qRec]))
  · refine aw_aload_n dX11_holderOf_10 rfl rfl ?_
    refine aw_iload_n dX11_holderOf_11 rfl rfl ?_
    refine aw_vI (as := [Value.int (nI (whyN V v))]) (rest := []) mV_X11_fails (m_fails (whyN V v)) ml_X11_56 mU_0 rfl dX11_holderOf_12 rfl rfl (by decide) (Nat.le_of_ble_eq_true rfl) (by decide) ?_
    refine aw_goto (tgt := 31) dX11_holderOf_15 (by decide) ?_
    exact aw_iret rfl (by decide) (by decide) dX11_holderOf_31 (RQ_of (by simp_all [qRec]; omega))
abbrev MX11_isAhead : MT := (RX11, cX11_isAhead, 5, (some .boolean), [], "isAhead")
set_option maxHeartbeats 4000000 in
theorem m_ahead {l : Launch} {G : GT} {n : Nat} {f : HT} {o : Nat} {I : Nat → Int32} {A : Nat → Nat → Int32} {K : Nat} {V : Nat → Nat} (hA : Mok A V) (hB : VB K V) {p k : Nat} (hp : p < 8) (hk : k < 8) : AM l G yX11_isAhead (.code yX11_isAhead cX11_isAhead 5 (some .boolean)) 0 0 0 0 [.ref o, .int (nI p), .int (nI k)] (mU f o I A) n (rI (bI (aheadN V p k)) (mU f o I A) n) := by
  refine aw_enter (M := MX11_isAhead) rfl rfl (by decide +kernel) rfl (Nat.le_of_ble_eq_true rfl) ?_
  have hcnt := VB.cnt hB
  have hleg := VB.legs hB
  have hfr := VB.fric hB
  have hnow := VB.now hB
  have hkk := VB.kk hB
  show AW l G MX11_isAhead 0 0 0 0 _ n 0 0 0 [(0, .ref o), (1, .int (nI p)), (2, .int (nI k))] [] _ n
  refine aw_aload_n dX11_isAhead_0 rfl rfl ?_
  refine aw_get (v := .ref (o + 1)) fl_X11_7 mU_0 rfl dX11_isAhead_1 ?_
  refine aw_bipush_n 12 dX11_isAhead_4 (by decide) ?_
  refine aw_iload_n dX11_isAhead_6 rfl rfl ?_
  refine aw_iadd_n dX11_isAhead_7 ?_
  refine aw_mld hA (k := 12 + p) (by omega) dX11_isAhead_8 ?_
  have hb_1 : V (12 + p) < 16000000 := VB.lt hB (by omega)
  refine aw_aload_n dX11_isAhead_9 rfl rfl ?_
  refine aw_get (v := .ref (o + 1)) fl_X11_7 mU_0 rfl dX11_isAhead_10 ?_
  refine aw_bipush_n 12 dX11_isAhead_13 (by decide) ?_
  refine aw_iload_n dX11_isAhead_15 rfl rfl ?_
  refine aw_iadd_n dX11_isAhead_16 ?_
  refine aw_mld hA (k := 12 + k) (by omega) dX11_isAhead_17 ?_
  have hb_2 : V (12 + k) < 16000000 := VB.lt hB (by omega)
  refine aw_isub dX11_isAhead_18 ?_
  refine aw_istore_n (L' := [(3, .int ((nI (V (12 + p))) - (nI (V (12 + k))))), (0, .ref o), (1, .int (nI p)), (2, .int (nI k))]) dX11_isAhead_19 rfl (by decide) rfl ?_
  refine aw_aload_n dX11_isAhead_20 rfl rfl ?_
  refine aw_get (v := .ref (o + 1)) fl_X11_7 mU_0 rfl dX11_isAhead_21 ?_
  refine aw_bipush_n 28 dX11_isAhead_24 (by decide) ?_
  refine aw_iload_n dX11_isAhead_26 rfl rfl ?_
  refine aw_iadd_n dX11_isAhead_27 ?_
  refine aw_mld hA (k := 28 + p) (by omega) dX11_isAhead_28 ?_
  have hb_3 : V (28 + p) < 16000000 := VB.lt hB (by omega)
  refine aw_aload_n dX11_isAhead_29 rfl rfl ?_
  refine aw_get (v := .ref (o + 1)) fl_X11_7 mU_0 rfl dX11_isAhead_30 ?_
  refine aw_bipush_n 28 dX11_isAhead_33 (by decide) ?_
  refine aw_iload_n dX11_isAhead_35 rfl rfl ?_
  refine aw_iadd_n dX11_isAhead_36 ?_
  refine aw_mld hA (k := 28 + k) (by omega) dX11_isAhead_37 ?_
  have hb_4 : V (28 + k) < 16000000 := VB.lt hB (by omega)
  refine aw_isub dX11_isAhead_38 ?_
  refine aw_istore (L' := [(4, .int ((nI (V (28 + p))) - (nI (V (28 + k))))), (3, .int ((nI (V (12 + p))) - (nI (V (12 + k))))), (0, .ref o), (1, .int (nI p)), (2, .int (nI k))]) dX11_isAhead_39 (by decide) rfl ?_
  refine aw_iload_n dX11_isAhead_41 rfl rfl ?_
  refine aw_if_gt (tgt := 64) dX11_isAhead_42 (by decide) (fun c_5 => ?_) (fun c_5 => ?_)
  · have c_5d := (sI_pos (by omega) (by omega)).mp c_5
    refine aw_iconst_n 1 dX11_isAhead_64 (by decide) ?_
    refine aw_goto (tgt := 69) dX11_isAhead_65 (by decide) ?_
    exact aw_zret rfl rfl (by decide) (by decide) dX11_isAhead_69 (rI_of (by first | exact bI_n1 (decide_eq_true (by omega)) | exact bI_n0 (decide_eq_false (by omega))))
  · have c_5d := mt (sI_pos (by omega) (by omega)).mpr c_5
    refine aw_iload_n dX11_isAhead_45 rfl rfl ?_
    refine aw_if_ne (tgt := 68) dX11_isAhead_46 (by decide) (fun c_6 => ?_) (fun c_6 => ?_)
    · have c_6d := mt (sI_0 (by omega) (by omega)).mpr c_6
      refine aw_iconst_n 0 dX11_isAhead_68 (by decide) ?_
      exact aw_zret rfl rfl (by decide) (by decide) dX11_isAhead_69 (rI_of (by first | exact bI_n1 (decide_eq_true (by omega)) | exact bI_n0 (decide_eq_false (by omega))))
    · have c_6d := (sI_0 (by omega) (by omega)).mp c_6
      refine aw_iload dX11_isAhead_49 rfl ?_
      refine aw_if_gt (tgt := 64) dX11_isAhead_51 (by decide) (fun c_7 => ?_) (fun c_7 => ?_)
      · have c_7d := (sI_pos (by omega) (by omega)).mp c_7
        refine aw_iconst_n 1 dX11_isAhead_64 (by decide) ?_
        refine aw_goto (tgt := 69) dX11_isAhead_65 (by decide) ?_
        exact aw_zret rfl rfl (by decide) (by decide) dX11_isAhead_69 (rI_of (by first | exact bI_n1 (decide_eq_true (by omega)) | exact bI_n0 (decide_eq_false (by omega))))
      · have c_7d := mt (sI_pos (by omega) (by omega)).mpr c_7
        refine aw_iload dX11_isAhead_54 rfl ?_
        refine aw_if_ne (tgt := 68) dX11_isAhead_56 (by decide) (fun c_8 => ?_) (fun c_8 => ?_)
        · have c_8d := mt (sI_0 (by omega) (by omega)).mpr c_8
          refine aw_iconst_n 0 dX11_isAhead_68 (by decide) ?_
          exact aw_zret rfl rfl (by decide) (by decide) dX11_isAhead_69 (rI_of (by first | exact bI_n1 (decide_eq_true (by omega)) | exact bI_n0 (decide_eq_false (by omega))))
        · have c_8d := (sI_0 (by omega) (by omega)).mp c_8
          refine aw_iload_n dX11_isAhead_59 rfl rfl ?_
          refine aw_iload_n dX11_isAhead_60 rfl rfl ?_
          refine aw_icmp_ge_n (by omega) (by omega) (tgt := 68) dX11_isAhead_61 (by decide) (fun c_9 => ?_) (fun c_9 => ?_)
          · refine aw_iconst_n 0 dX11_isAhead_68 (by decide) ?_
            exact aw_zret rfl rfl (by decide) (by decide) dX11_isAhead_69 (rI_of (by first | exact bI_n1 (decide_eq_true (by omega)) | exact bI_n0 (decide_eq_false (by omega))))
          · refine aw_iconst_n 1 dX11_isAhead_64 (by decide) ?_
            refine aw_goto (tgt := 69) dX11_isAhead_65 (by decide) ?_
            exact aw_zret rfl rfl (by decide) (by decide) dX11_isAhead_69 (rI_of (by first | exact bI_n1 (decide_eq_true (by omega)) | exact bI_n0 (decide_eq_false (by omega))))
abbrev MX11_pendulumAtRank : MT := (RX11, cX11_pendulumAtRank, 5, (some .int), [], "pendulumAtRank")
set_option maxHeartbeats 4000000 in
theorem m_rank_in {l : Launch} {G : GT} {n : Nat} {f : HT} {o : Nat} {I : Nat → Int32} {A : Nat → Nat → Int32} {K : Nat} {V : Nat → Nat} (hA : Mok A V) (hB : VB K V) {r : Int32} {k : Nat} (hk : k < V 2) (hN : AW l G MX11_pendulumAtRank 2 120 0 0 (RQ f o I A (qRank V r) n) n 0 0 52 [(3, .int (nI (rankN V k))), (2, .int (nI k)), (0, .ref o), (1, .int r)] [] (mU f o I A) n) : ∀ (N : Nat) (u : Nat), (V 2 - u = N) → (u ≤ V 2) → AW l G MX11_pendulumAtRank 2 120 0 0 (RQ f o I A (qRank V r) n) n 0 0 17 [(4, .int (nI u)), (3, .int (nI (rkC V k u))), (2, .int (nI k)), (0, .ref o), (1, .int r)] [] (mU f o I A) n := by
  intro N
  induction N using Nat.strongRecOn with
  | ind N ih =>
    intro u hM hu
    have hcnt := VB.cnt hB
    have hleg := VB.legs hB
    have hfr := VB.fric hB
    have hnow := VB.now hB
    have hkk := VB.kk hB
    refine aw_iload dX11_pendulumAtRank_17 rfl ?_
    refine aw_aload_n dX11_pendulumAtRank_19 rfl rfl ?_
    refine aw_get (v := .ref (o + 1)) fl_X11_7 mU_0 rfl dX11_pendulumAtRank_20 ?_
    refine aw_iconst_n 2 dX11_pendulumAtRank_23 (by decide) ?_
    refine aw_mld hA (k := 2) (by omega) dX11_pendulumAtRank_24 ?_
    have hb_1 : V 2 < 16000000 := VB.lt hB (by omega)
    refine aw_icmp_ge_n (by omega) (by omega) (tgt := 52) dX11_pendulumAtRank_25 (by decide) (fun c_2 => ?_) (fun c_2 => ?_)
    · have e : u = V 2 := by omega
      subst e
      exact aw_sub _ (by simp [rankN]) hN
    · refine aw_iload_n dX11_pendulumAtRank_28 rfl rfl ?_
      refine aw_aload_n dX11_pendulumAtRank_29 rfl rfl ?_
      refine aw_iload dX11_pendulumAtRank_30 rfl ?_
      refine aw_iload_n dX11_pendulumAtRank_32 rfl rfl ?_
      refine aw_vI (as := [Value.int (nI u), Value.int (nI k)]) (rest := [Value.int (nI (rkC V k u))]) mV_X11_isAhead (m_ahead hA hB (by omega) (by omega)) ml_X11_114 mU_0 rfl dX11_pendulumAtRank_33 rfl rfl (by decide) (Nat.le_of_ble_eq_true rfl) (by decide) ?_
      refine aw_if_eq_b (tgt := 43) dX11_pendulumAtRank_36 (by decide) (fun c_3 => ?_) (fun c_3 => ?_)
      · refine aw_iconst_n 0 dX11_pendulumAtRank_43 (by decide) ?_
        refine aw_iadd_n dX11_pendulumAtRank_44 ?_
        refine aw_istore_n (L' := [(3, .int (nI ((rkC V k u) + 0))), (4, .int (nI u)), (2, .int (nI k)), (0, .ref o), (1, .int r)]) dX11_pendulumAtRank_45 rfl (by decide) rfl ?_
        refine aw_iinc_n (L' := [(4, .int (nI (u + 1))), (3, .int (nI ((rkC V k u) + 0))), (2, .int (nI k)), (0, .ref o), (1, .int r)]) 1 dX11_pendulumAtRank_46 rfl (by decide) (by decide) rfl ?_
        refine aw_goto (tgt := 17) dX11_pendulumAtRank_49 (by decide) ?_
        have e : rkC V k (u + 1) = rkC V k u + 0 := by simp [rkC, c_3]
        refine aw_sub [(4, .int (nI (u + 1))), (3, .int (nI (rkC V k (u + 1)))), (2, .int (nI k)), (0, .ref o), (1, .int r)] (by rw [e]; simp) ?_
        exact ih _ (by omega) (u + 1) rfl (by omega)
      · refine aw_iconst_n 1 dX11_pendulumAtRank_39 (by decide) ?_
        refine aw_goto (tgt := 44) dX11_pendulumAtRank_40 (by decide) ?_
        refine aw_iadd_n dX11_pendulumAtRank_44 ?_
        refine aw_istore_n (L' := [(3, .int (nI ((rkC V k u) + 1))), (4, .int (nI u)), (2, .int (nI k)), (0, .ref o), (1, .int r)]) dX11_pendulumAtRank_45 rfl (by decide) rfl ?_
        refine aw_iinc_n (L' := [(4, .int (nI (u + 1))), (3, .int (nI ((rkC V k u) + 1))), (2, .int (nI k)), (0, .ref o), (1, .int r)]) 1 dX11_pendulumAtRank_46 rfl (by decide) (by decide) rfl ?_
        refine aw_goto (tgt := 17) dX11_pendulumAtRank_49 (by decide) ?_
        have e : rkC V k (u + 1) = rkC V k u + 1 := by simp [rkC, c_3]
        refine aw_sub [(4, .int (nI (u + 1))), (3, .int (nI (rkC V k (u + 1)))), (2, .int (nI k)), (0, .ref o), (1, .int r)] (by rw [e]; simp) ?_
        exact ih _ (by omega) (u + 1) rfl (by omega)
set_option maxHeartbeats 4000000 in
theorem m_rank_loop {l : Launch} {G : GT} {n : Nat} {f : HT} {o : Nat} {I : Nat → Int32} {A : Nat → Nat → Int32} {K : Nat} {V : Nat → Nat} (hA : Mok A V) (hB : VB K V) {r : Int32} : ∀ (N : Nat) (k : Nat), (V 2 - k = N) → (k ≤ V 2) → (rkF V r (V 2 - k) k = qRank V r) → AW l G MX11_pendulumAtRank 2 120 0 0 (RQ f o I A (qRank V r) n) n 0 0 2 [(2, .int (nI k)), (0, .ref o), (1, .int r)] [] (mU f o I A) n := by
  intro N
  induction N using Nat.strongRecOn with
  | ind N ih =>
    intro k hN hk hq
    have hcnt := VB.cnt hB
    have hleg := VB.legs hB
    have hfr := VB.fric hB
    have hnow := VB.now hB
    have hkk := VB.kk hB
    refine aw_iload_n dX11_pendulumAtRank_2 rfl rfl ?_
    refine aw_aload_n dX11_pendulumAtRank_3 rfl rfl ?_
    refine aw_get (v := .ref (o + 1)) fl_X11_7 mU_0 rfl dX11_pendulumAtRank_4 ?_
    refine aw_iconst_n 2 dX11_pendulumAtRank_7 (by decide) ?_
    refine aw_mld hA (k := 2) (by omega) dX11_pendulumAtRank_8 ?_
    have hb_1 : V 2 < 16000000 := VB.lt hB (by omega)
    refine aw_icmp_ge_n (by omega) (by omega) (tgt := 69) dX11_pendulumAtRank_9 (by decide) (fun c_2 => ?_) (fun c_2 => ?_)
    · refine aw_aload_n dX11_pendulumAtRank_69 rfl rfl ?_
      refine aw_iconst_n 1 dX11_pendulumAtRank_70 (by decide) ?_
      refine aw_vI (as := [Value.int (nI 1)]) (rest := []) mV_X11_fails (m_fails 1) ml_X11_56 mU_0 rfl dX11_pendulumAtRank_71 rfl rfl (by decide) (Nat.le_of_ble_eq_true rfl) (by decide) ?_
      exact aw_iret rfl (by decide) (by decide) dX11_pendulumAtRank_74 (RQ_of (by rw [← hq, show V 2 - k = 0 by omega]; rfl))
    · refine aw_iconst_n 0 dX11_pendulumAtRank_12 (by decide) ?_
      refine aw_istore_n (L' := [(3, .int (nI 0)), (2, .int (nI k)), (0, .ref o), (1, .int r)]) dX11_pendulumAtRank_13 rfl (by decide) rfl ?_
      refine aw_iconst_n 0 dX11_pendulumAtRank_14 (by decide) ?_
      refine aw_istore (L' := [(4, .int (nI 0)), (3, .int (nI 0)), (2, .int (nI k)), (0, .ref o), (1, .int r)]) dX11_pendulumAtRank_15 (by decide) rfl ?_
      refine m_rank_in hA hB (by omega) ?_ _ 0 rfl (Nat.zero_le _)
      refine aw_iload_n dX11_pendulumAtRank_52 rfl rfl ?_
      refine aw_iload_n dX11_pendulumAtRank_53 rfl rfl ?_
      refine aw_icmp_ne (tgt := 63) dX11_pendulumAtRank_54 (by decide) (fun c_3 => ?_) (fun c_3 => ?_)
      · refine aw_iinc_n (L' := [(2, .int (nI (k + 1))), (3, .int (nI (rankN V k))), (0, .ref o), (1, .int r)]) 1 dX11_pendulumAtRank_63 rfl (by decide) (by decide) rfl ?_
        refine aw_goto (tgt := 2) dX11_pendulumAtRank_66 (by decide) ?_
        refine aw_sub [(2, .int (nI (k + 1))), (0, .ref o), (1, .int r)] (by simp) ?_
        exact ih _ (by omega) (k + 1) rfl (by omega) (by rw [← hq, show V 2 - k = (V 2 - (k + 1)) + 1 by omega]; exact (rkF_no c_3).symm)
      · refine aw_aload_n dX11_pendulumAtRank_57 rfl rfl ?_
        refine aw_iload_n dX11_pendulumAtRank_58 rfl rfl ?_
        refine aw_vI (as := [Value.int (nI k)]) (rest := []) mV_X11_done (m_done (nI k)) ml_X11_60 mU_0 rfl dX11_pendulumAtRank_59 rfl rfl (by decide) (Nat.le_of_ble_eq_true rfl) (by decide) ?_
        exact aw_iret rfl (by decide) (by decide) dX11_pendulumAtRank_62 (RQ_of (by rw [← hq, show V 2 - k = (V 2 - (k + 1)) + 1 by omega]; exact rkF_yes c_3))
set_option maxHeartbeats 4000000 in
theorem m_pendulumAtRank {l : Launch} {G : GT} {n : Nat} {f : HT} {o : Nat} {I : Nat → Int32} {A : Nat → Nat → Int32} {K : Nat} {V : Nat → Nat} (hA : Mok A V) (hB : VB K V) (r : Int32) : AM l G yX11_pendulumAtRank (.code yX11_pendulumAtRank cX11_pendulumAtRank 5 (some .int)) 2 120 0 0 [.ref o, .int r] (mU f o I A) n (RQ f o I A (qRank V r) n) := by
  refine aw_enter (M := MX11_pendulumAtRank) rfl rfl (by decide +kernel) rfl (Nat.le_of_ble_eq_true rfl) ?_
  show AW l G MX11_pendulumAtRank 2 120 0 0 _ n 0 0 0 [(0, .ref o), (1, .int r)] [] _ n
  refine aw_iconst_n 0 dX11_pendulumAtRank_0 (by decide) ?_
  refine aw_istore_n (L' := [(2, .int (nI 0)), (0, .ref o), (1, .int r)]) dX11_pendulumAtRank_1 rfl (by decide) rfl ?_
  exact m_rank_loop hA hB _ 0 rfl (Nat.zero_le _) rfl
