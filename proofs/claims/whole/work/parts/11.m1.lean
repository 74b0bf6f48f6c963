def kindN (len : Nat) : Nat := if len < 30 then 0 else if len < 60 then 1 else 2
def perG : Nat → Nat → Nat → Nat
  | 0, r, _ => r
  | n + 1, r, L => if (r + 1) * (r + 1) ≤ 36 * L then perG n (r + 1) L else r
/-- the greatest number whose square isn't greater than 36 L -/
def perN (L : Nat) : Nat := perG 60 0 L
theorem perG_stop {n r L : Nat} (h : 36 * L < (r + 1) * (r + 1)) : perG n r L = r := by
  cases n with
  | zero => rfl
  | succ n => unfold perG; rw [if_neg (Nat.not_le.mpr h)]
theorem perG_step {r L : Nat} (hr : r < 60) (h : (r + 1) * (r + 1) ≤ 36 * L) : perG (60 - r) r L = perG (60 - (r + 1)) (r + 1) L := by
  have e : 60 - r = (60 - (r + 1)) + 1 := by omega
  rw [e]
  show (if (r + 1) * (r + 1) ≤ 36 * L then perG (60 - (r + 1)) (r + 1) L else r) = _
  rw [if_pos h]
theorem per_lt {r L : Nat} (hL : L ≤ 99) (h : (r + 1) * (r + 1) ≤ 36 * L) : r + 1 < 60 := by
  rcases Nat.lt_or_ge (r + 1) 60 with h1 | h1
  · exact h1
  · have := Nat.mul_le_mul h1 h1
    omega
/-- the amplitude behind a swing -/
def swN (fr a : Nat) : Nat := a - max 1 (a * fr / 100)
theorem inB_isK {v : Int32} {c : Nat} (hc : c < 2 ^ 31) : inB v (nI 0) (nI c - nI 1) = isK v c := by
  have e : (nI c - nI 1).toInt = (c : Int) - 1 := by
    rcases Nat.eq_zero_or_pos c with rfl | h
    · decide
    · rw [pk_sub h, nI_toInt (by omega)]; omega
  unfold inB isK
  have h1 : decide (nI 0 ≤ v) = decide (0 ≤ v.toInt) := decide_eq_decide.mpr (by rw [Int32.le_iff_toInt_le, nI_toInt (by decide)]; exact Iff.rfl)
  have h2 : decide (v ≤ nI c - nI 1) = decide (v.toInt < (c : Int)) := decide_eq_decide.mpr (by rw [Int32.le_iff_toInt_le, e]; omega)
  rw [h1, h2]
  exact (Bool.decide_and _ _).symm
abbrev MX11_in : MT := (RX11, cX11_in, 3, (some .boolean), [], "in")
set_option maxHeartbeats 4000000 in
theorem m_in {l : Launch} {G : GT} {n : Nat} {f : HT} (v a c : Int32) : AM l G yX11_in (.code yX11_in cX11_in 3 (some .boolean)) 0 0 0 0 [.int v, .int a, .int c] (f) n (rI (bI (inB v a c)) f n) := by
  refine aw_enter (M := MX11_in) rfl rfl (by decide +kernel) rfl (Nat.le_of_ble_eq_true rfl) ?_
  show AW l G MX11_in 0 0 0 0 _ n 0 0 0 [(0, .int v), (1, .int a), (2, .int c)] [] _ n
  refine aw_iload_n dX11_in_0 rfl rfl ?_
  refine aw_iload_n dX11_in_1 rfl rfl ?_
  refine aw_icmp_lt (tgt := 14) dX11_in_2 (by decide) (fun c_1 => ?_) (fun c_1 => ?_)
  · refine aw_iconst_n 0 dX11_in_14 (by decide) ?_
    exact aw_zret rfl rfl (by decide) (by decide) dX11_in_15 (rI_of (by exact bI_n0 (by simp only [inB]; rw [decide_eq_false (Int32.not_le.mpr c_1)]; rfl)))
  · refine aw_iload_n dX11_in_5 rfl rfl ?_
    refine aw_iload_n dX11_in_6 rfl rfl ?_
    refine aw_icmp_gt (tgt := 14) dX11_in_7 (by decide) (fun c_2 => ?_) (fun c_2 => ?_)
    · refine aw_iconst_n 0 dX11_in_14 (by decide) ?_
      exact aw_zret rfl rfl (by decide) (by decide) dX11_in_15 (rI_of (by exact bI_n0 (by simp only [inB]; rw [decide_eq_false (Int32.not_le.mpr c_2)]; exact Bool.and_false _)))
    · refine aw_iconst_n 1 dX11_in_10 (by decide) ?_
      refine aw_goto (tgt := 15) dX11_in_11 (by decide) ?_
      exact aw_zret rfl rfl (by decide) (by decide) dX11_in_15 (rI_of (by exact bI_n1 (by simp only [inB, Bool.and_eq_true, decide_eq_true_eq]; exact ⟨Int32.not_lt.mp c_1, Int32.not_lt.mp c_2⟩)))
abbrev MX11_size : MT := (RX11, cX11_size, 1, (some .int), [], "size")
set_option maxHeartbeats 4000000 in
theorem m_size {l : Launch} {G : GT} {n : Nat} {f : HT} (v : Int32) : AM l G yX11_size (.code yX11_size cX11_size 1 (some .int)) 0 0 0 0 [.int v] (f) n (rI (if v < 0 then -v else v) f n) := by
  refine aw_enter (M := MX11_size) rfl rfl (by decide +kernel) rfl (Nat.le_of_ble_eq_true rfl) ?_
  show AW l G MX11_size 0 0 0 0 _ n 0 0 0 [(0, .int v)] [] _ n
  refine aw_iload_n dX11_size_0 rfl rfl ?_
  refine aw_if_ge (tgt := 9) dX11_size_1 (by decide) (fun c_1 => ?_) (fun c_1 => ?_)
  · refine aw_iload_n dX11_size_9 rfl rfl ?_
    exact aw_iret rfl (by decide) (by decide) dX11_size_10 (rI_of (by rw [if_neg (Int32.not_lt.mpr c_1)]))
  · refine aw_iload_n dX11_size_4 rfl rfl ?_
    refine aw_ineg dX11_size_5 ?_
    refine aw_goto (tgt := 10) dX11_size_6 (by decide) ?_
    exact aw_iret rfl (by decide) (by decide) dX11_size_10 (rI_of (by rw [if_pos (Int32.not_le.mp c_1)]))
abbrev MX11_done : MT := (RX11, cX11_done, 2, (some .int), [], "done")
set_option maxHeartbeats 4000000 in
theorem m_done {l : Launch} {G : GT} {n : Nat} {f : HT} {o : Nat} {I : Nat → Int32} {A : Nat → Nat → Int32} (v : Int32) : AM l G yX11_done (.code yX11_done cX11_done 2 (some .int)) 0 0 0 0 [.ref o, .int v] (mU f o I A) n (rI v (mU f o (va_up I 12 (nI 0)) A) n) := by
  refine aw_enter (M := MX11_done) rfl rfl (by decide +kernel) rfl (Nat.le_of_ble_eq_true rfl) ?_
  show AW l G MX11_done 0 0 0 0 _ n 0 0 0 [(0, .ref o), (1, .int v)] [] _ n
  refine aw_aload_n dX11_done_0 rfl rfl ?_
  refine aw_iconst_n 0 dX11_done_1 (by decide) ?_
  refine aw_mput fp_X11_42 (by decide) rfl rfl dX11_done_2 ?_
  refine aw_iload_n dX11_done_5 rfl rfl ?_
  exact aw_iret rfl (by decide) (by decide) dX11_done_6 (rI_of (by rfl))
abbrev MX11_fails : MT := (RX11, cX11_fails, 2, (some .int), [], "fails")
set_option maxHeartbeats 4000000 in
theorem m_fails {l : Launch} {G : GT} {n : Nat} {f : HT} {o : Nat} {I : Nat → Int32} {A : Nat → Nat → Int32} (k : Nat) : AM l G yX11_fails (.code yX11_fails cX11_fails 2 (some .int)) 0 0 0 0 [.ref o, .int (nI k)] (mU f o I A) n (rI (nI 0) (mU f o (va_up I 12 (nI k)) A) n) := by
  refine aw_enter (M := MX11_fails) rfl rfl (by decide +kernel) rfl (Nat.le_of_ble_eq_true rfl) ?_
  show AW l G MX11_fails 0 0 0 0 _ n 0 0 0 [(0, .ref o), (1, .int (nI k))] [] _ n
  refine aw_aload_n dX11_fails_0 rfl rfl ?_
  refine aw_iload_n dX11_fails_1 rfl rfl ?_
  refine aw_mput fp_X11_42 (by decide) rfl rfl dX11_fails_2 ?_
  refine aw_iconst_n 0 dX11_fails_5 (by decide) ?_
  exact aw_iret rfl (by decide) (by decide) dX11_fails_6 (rI_of (by rfl))
abbrev MX11_rests : MT := (RX11, cX11_rests, 2, (some .boolean), [], "rests")
set_option maxHeartbeats 4000000 in
theorem m_rests {l : Launch} {G : GT} {n : Nat} {f : HT} {o : Nat} {I : Nat → Int32} {A : Nat → Nat → Int32} {V : Nat → Nat} (hA : Mok A V) {k a : Nat} (hk : k < 8) (ha : V (12 + k) = a) (hb : a < 2 ^ 31) : AM l G yX11_rests (.code yX11_rests cX11_rests 2 (some .boolean)) 0 0 0 0 [.ref o, .int (nI k)] (mU f o I A) n (rI (bI (decide (a = 0))) (mU f o I A) n) := by
  refine aw_enter (M := MX11_rests) rfl rfl (by decide +kernel) rfl (Nat.le_of_ble_eq_true rfl) ?_
  subst ha
  show AW l G MX11_rests 0 0 0 0 _ n 0 0 0 [(0, .ref o), (1, .int (nI k))] [] _ n
  refine aw_aload_n dX11_rests_0 rfl rfl ?_
  refine aw_get (v := .ref (o + 1)) fl_X11_7 mU_0 rfl dX11_rests_1 ?_
  refine aw_bipush_n 12 dX11_rests_4 (by decide) ?_
  refine aw_iload_n dX11_rests_6 rfl rfl ?_
  refine aw_iadd_n dX11_rests_7 ?_
  refine aw_mld hA (k := 12 + k) (by omega) dX11_rests_8 ?_
  refine aw_if_ne_n (by omega) (tgt := 16) dX11_rests_9 (by decide) (fun c_1 => ?_) (fun c_1 => ?_)
  · refine aw_iconst_n 0 dX11_rests_16 (by decide) ?_
    exact aw_zret rfl rfl (by decide) (by decide) dX11_rests_17 (rI_of (by exact bI_n0 (decide_eq_false c_1)))
  · refine aw_iconst_n 1 dX11_rests_12 (by decide) ?_
    refine aw_goto (tgt := 17) dX11_rests_13 (by decide) ?_
    exact aw_zret rfl rfl (by decide) (by decide) dX11_rests_17 (rI_of (by exact bI_n1 (decide_eq_true c_1)))
abbrev MX11_kind : MT := (RX11, cX11_kind, 3, (some .int), [], "kind")
set_option maxHeartbeats 4000000 in
theorem m_kind {l : Launch} {G : GT} {n : Nat} {f : HT} {o : Nat} {I : Nat → Int32} {A : Nat → Nat → Int32} {V : Nat → Nat} (hA : Mok A V) {k len : Nat} (hk : k < 8) (ha : V (4 + k) = len) (hb : len < 2 ^ 31) : AM l G yX11_kind (.code yX11_kind cX11_kind 3 (some .int)) 0 0 0 0 [.ref o, .int (nI k)] (mU f o I A) n (rI (nI (kindN len)) (mU f o I A) n) := by
  refine aw_enter (M := MX11_kind) rfl rfl (by decide +kernel) rfl (Nat.le_of_ble_eq_true rfl) ?_
  subst ha
  show AW l G MX11_kind 0 0 0 0 _ n 0 0 0 [(0, .ref o), (1, .int (nI k))] [] _ n
  refine aw_aload_n dX11_kind_0 rfl rfl ?_
  refine aw_get (v := .ref (o + 1)) fl_X11_7 mU_0 rfl dX11_kind_1 ?_
  refine aw_iconst_n 4 dX11_kind_4 (by decide) ?_
  refine aw_iload_n dX11_kind_5 rfl rfl ?_
  refine aw_iadd_n dX11_kind_6 ?_
  refine aw_mld hA (k := 4 + k) (by omega) dX11_kind_7 ?_
  refine aw_istore_n (L' := [(2, .int (nI (V (4 + k)))), (0, .ref o), (1, .int (nI k))]) dX11_kind_8 rfl (by decide) rfl ?_
  refine aw_iload_n dX11_kind_9 rfl rfl ?_
  refine aw_bipush_n 30 dX11_kind_10 (by decide) ?_
  refine aw_icmp_ge_n (by omega) (by omega) (tgt := 19) dX11_kind_12 (by decide) (fun c_1 => ?_) (fun c_1 => ?_)
  · refine aw_iload_n dX11_kind_19 rfl rfl ?_
    refine aw_bipush_n 60 dX11_kind_20 (by decide) ?_
    refine aw_icmp_ge_n (by omega) (by omega) (tgt := 29) dX11_kind_22 (by decide) (fun c_2 => ?_) (fun c_2 => ?_)
    · refine aw_iconst_n 2 dX11_kind_29 (by decide) ?_
      exact aw_iret rfl (by decide) (by decide) dX11_kind_30 (rI_of (by unfold kindN; split <;> (try split) <;> first | rfl | (exfalso; omega)))
    · refine aw_iconst_n 1 dX11_kind_25 (by decide) ?_
      refine aw_goto (tgt := 30) dX11_kind_26 (by decide) ?_
      exact aw_iret rfl (by decide) (by decide) dX11_kind_30 (rI_of (by unfold kindN; split <;> (try split) <;> first | rfl | (exfalso; omega)))
  · refine aw_iconst_n 0 dX11_kind_15 (by decide) ?_
    refine aw_goto (tgt := 30) dX11_kind_16 (by decide) ?_
    exact aw_iret rfl (by decide) (by decide) dX11_kind_30 (rI_of (by unfold kindN; split <;> (try split) <;> first | rfl | (exfalso; omega)))
abbrev MX11_isPendulum : MT := (RX11, cX11_isPendulum, 2, (some .boolean), [], "isPendulum")
set_option maxHeartbeats 4000000 in
theorem m_isP {l : Launch} {G : GT} {n : Nat} {f : HT} {o : Nat} {I : Nat → Int32} {A : Nat → Nat → Int32} {V : Nat → Nat} (hA : Mok A V) {c : Nat} (v : Int32) (ha : V 2 = c) (hb : c < 2 ^ 31) : AM l G yX11_isPendulum (.code yX11_isPendulum cX11_isPendulum 2 (some .boolean)) 1 60 0 0 [.ref o, .int v] (mU f o I A) n (rI (bI (isK v c)) (mU f o I A) n) := by
  refine aw_enter (M := MX11_isPendulum) rfl rfl (by decide +kernel) rfl (Nat.le_of_ble_eq_true rfl) ?_
  subst ha
  show AW l G MX11_isPendulum 1 60 0 0 _ n 0 0 0 [(0, .ref o), (1, .int v)] [] _ n
  refine aw_iload_n dX11_isPendulum_0 rfl rfl ?_
  refine aw_iconst_n 0 dX11_isPendulum_1 (by decide) ?_
  refine aw_aload_n dX11_isPendulum_2 rfl rfl ?_
  refine aw_get (v := .ref (o + 1)) fl_X11_7 mU_0 rfl dX11_isPendulum_3 ?_
  refine aw_iconst_n 2 dX11_isPendulum_6 (by decide) ?_
  refine aw_mld hA (k := 2) (by omega) dX11_isPendulum_7 ?_
  refine aw_iconst_n 1 dX11_isPendulum_8 (by decide) ?_
  refine aw_isub dX11_isPendulum_9 ?_
  refine aw_sI (as := [Value.int v, Value.int (nI 0), Value.int ((nI (V 2)) - (nI 1))]) (rest := []) mS_X11_in (m_in _ _ _) ml_X11_52 dX11_isPendulum_10 rfl rfl (by decide) (Nat.le_of_ble_eq_true rfl) (by decide) ?_
  rw [inB_isK hb]
  exact aw_zret rfl (bI_nar _) (by decide) (by decide) dX11_isPendulum_13 (rI_of (by rfl))
abbrev MX11_isLeg : MT := (RX11, cX11_isLeg, 2, (some .boolean), [], "isLeg")
set_option maxHeartbeats 4000000 in
theorem m_isL {l : Launch} {G : GT} {n : Nat} {f : HT} {o : Nat} {I : Nat → Int32} {A : Nat → Nat → Int32} {V : Nat → Nat} (hA : Mok A V) {c : Nat} (v : Int32) (ha : V 3 = c) (hb : c < 2 ^ 31) : AM l G yX11_isLeg (.code yX11_isLeg cX11_isLeg 2 (some .boolean)) 1 60 0 0 [.ref o, .int v] (mU f o I A) n (rI (bI (isK v c)) (mU f o I A) n) := by
  refine aw_enter (M := MX11_isLeg) rfl rfl (by decide +kernel) rfl (Nat.le_of_ble_eq_true rfl) ?_
  subst ha
  show AW l G MX11_isLeg 1 60 0 0 _ n 0 0 0 [(0, .ref o), (1, .int v)] [] _ n
  refine aw_iload_n dX11_isLeg_0 rfl rfl ?_
  refine aw_iconst_n 0 dX11_isLeg_1 (by decide) ?_
  refine aw_aload_n dX11_isLeg_2 rfl rfl ?_
  refine aw_get (v := .ref (o + 1)) fl_X11_7 mU_0 rfl dX11_isLeg_3 ?_
  refine aw_iconst_n 3 dX11_isLeg_6 (by decide) ?_
  refine aw_mld hA (k := 3) (by omega) dX11_isLeg_7 ?_
  refine aw_iconst_n 1 dX11_isLeg_8 (by decide) ?_
  refine aw_isub dX11_isLeg_9 ?_
  refine aw_sI (as := [Value.int v, Value.int (nI 0), Value.int ((nI (V 3)) - (nI 1))]) (rest := []) mS_X11_in (m_in _ _ _) ml_X11_52 dX11_isLeg_10 rfl rfl (by decide) (Nat.le_of_ble_eq_true rfl) (by decide) ?_
  rw [inB_isK hb]
  exact aw_zret rfl (bI_nar _) (by decide) (by decide) dX11_isLeg_13 (rI_of (by rfl))
abbrev MX11_period : MT := (RX11, cX11_period, 3, (some .int), [], "period")
set_option maxHeartbeats 4000000 in
theorem m_per_loop {l : Launch} {G : GT} {n : Nat} {f : HT} {o : Nat} {I : Nat → Int32} {A : Nat → Nat → Int32} {V : Nat → Nat} (hA : Mok A V) {k : Nat} (hk : k < 8) (hl : V (4 + k) ≤ 99) : ∀ (N : Nat) (r : Nat), (60 - r = N) → (r < 60) → (perG (60 - r) r (V (4 + k)) = perN (V (4 + k))) → AW l G MX11_period 0 0 0 0 (rI (nI (perN (V (4 + k)))) (mU f o I A) n) n 0 0 2 [(2, .int (nI r)), (0, .ref o), (1, .int (nI k))] [] (mU f o I A) n := by
  intro N
  induction N using Nat.strongRecOn with
  | ind N ih =>
    intro r hN h1 h2
    have hq : (r + 1) * (r + 1) ≤ 60 * 60 := Nat.mul_le_mul (by omega) (by omega)
    refine aw_iload_n dX11_period_2 rfl rfl ?_
    refine aw_iconst_n 1 dX11_period_3 (by decide) ?_
    refine aw_iadd_n dX11_period_4 ?_
    refine aw_iload_n dX11_period_5 rfl rfl ?_
    refine aw_iconst_n 1 dX11_period_6 (by decide) ?_
    refine aw_iadd_n dX11_period_7 ?_
    refine aw_imul_n dX11_period_8 ?_
    refine aw_bipush_n 36 dX11_period_9 (by decide) ?_
    refine aw_aload_n dX11_period_11 rfl rfl ?_
    refine aw_get (v := .ref (o + 1)) fl_X11_7 mU_0 rfl dX11_period_12 ?_
    refine aw_iconst_n 4 dX11_period_15 (by decide) ?_
    refine aw_iload_n dX11_period_16 rfl rfl ?_
    refine aw_iadd_n dX11_period_17 ?_
    refine aw_mld hA (k := 4 + k) (by omega) dX11_period_18 ?_
    refine aw_imul_n dX11_period_19 ?_
    refine aw_icmp_gt_n (by omega) (by omega) (tgt := 29) dX11_period_20 (by decide) (fun c_1 => ?_) (fun c_1 => ?_)
    · refine aw_iload_n dX11_period_29 rfl rfl ?_
      exact aw_iret rfl (by decide) (by decide) dX11_period_30 (rI_of (by rw [← h2, perG_stop c_1]))
    · refine aw_iinc_n (L' := [(2, .int (nI (r + 1))), (0, .ref o), (1, .int (nI k))]) 1 dX11_period_23 rfl (by decide) (by decide) rfl ?_
      refine aw_goto (tgt := 2) dX11_period_26 (by decide) ?_
      have h3 := per_lt hl c_1
      exact ih _ (by omega) (r + 1) rfl h3 (by rw [← h2]; exact (perG_step h1 c_1).symm)
set_option maxHeartbeats 4000000 in
theorem m_period {l : Launch} {G : GT} {n : Nat} {f : HT} {o : Nat} {I : Nat → Int32} {A : Nat → Nat → Int32} {V : Nat → Nat} (hA : Mok A V) {k len : Nat} (hk : k < 8) (ha : V (4 + k) = len) (hl : len ≤ 99) : AM l G yX11_period (.code yX11_period cX11_period 3 (some .int)) 0 0 0 0 [.ref o, .int (nI k)] (mU f o I A) n (rI (nI (perN len)) (mU f o I A) n) := by
  refine aw_enter (M := MX11_period) rfl rfl (by decide +kernel) rfl (Nat.le_of_ble_eq_true rfl) ?_
  subst ha
  show AW l G MX11_period 0 0 0 0 _ n 0 0 0 [(0, .ref o), (1, .int (nI k))] [] _ n
  refine aw_iconst_n 0 dX11_period_0 (by decide) ?_
  refine aw_istore_n (L' := [(2, .int (nI 0)), (0, .ref o), (1, .int (nI k))]) dX11_period_1 rfl (by decide) rfl ?_
  exact m_per_loop hA hk hl 60 0 rfl (by decide) rfl
abbrev MX11_behindSwing : MT := (RX11, cX11_behindSwing, 3, (some .int), [], "behindSwing")
set_option maxHeartbeats 4000000 in
theorem m_swing {l : Launch} {G : GT} {n : Nat} {f : HT} {o : Nat} {I : Nat → Int32} {A : Nat → Nat → Int32} {V : Nat → Nat} (hA : Mok A V) {a fr : Nat} (hfr : V 1 = fr) (hf : fr ≤ 30) (ha : a ≤ 60) (h1 : 1 ≤ a) : AM l G yX11_behindSwing (.code yX11_behindSwing cX11_behindSwing 3 (some .int)) 0 0 0 0 [.ref o, .int (nI a)] (mU f o I A) n (rI (nI (swN fr a)) (mU f o I A) n) := by
  refine aw_enter (M := MX11_behindSwing) rfl rfl (by decide +kernel) rfl (Nat.le_of_ble_eq_true rfl) ?_
  subst hfr
  have hq : a * V 1 ≤ a * 30 := Nat.mul_le_mul (Nat.le_refl _) hf
  show AW l G MX11_behindSwing 0 0 0 0 _ n 0 0 0 [(0, .ref o), (1, .int (nI a))] [] _ n
  refine aw_iload_n dX11_behindSwing_0 rfl rfl ?_
  refine aw_aload_n dX11_behindSwing_1 rfl rfl ?_
  refine aw_get (v := .ref (o + 1)) fl_X11_7 mU_0 rfl dX11_behindSwing_2 ?_
  refine aw_iconst_n 1 dX11_behindSwing_5 (by decide) ?_
  refine aw_mld hA (k := 1) (by omega) dX11_behindSwing_6 ?_
  refine aw_imul_n dX11_behindSwing_7 ?_
  refine aw_bipush_n 100 dX11_behindSwing_8 (by decide) ?_
  refine aw_idiv_n (by omega) (by omega) (by omega) dX11_behindSwing_10 ?_
  refine aw_istore_n (L' := [(2, .int (nI ((a * (V 1)) / 100))), (0, .ref o), (1, .int (nI a))]) dX11_behindSwing_11 rfl (by decide) rfl ?_
  refine aw_iload_n dX11_behindSwing_12 rfl rfl ?_
  refine aw_iload_n dX11_behindSwing_13 rfl rfl ?_
  refine aw_iconst_n 1 dX11_behindSwing_14 (by decide) ?_
  refine aw_icmp_ge_n (by omega) (by omega) (tgt := 22) dX11_behindSwing_15 (by decide) (fun c_1 => ?_) (fun c_1 => ?_)
  · refine aw_iload_n dX11_behindSwing_22 rfl rfl ?_
    refine aw_isub_n (by omega) dX11_behindSwing_23 ?_
    exact aw_iret rfl (by decide) (by decide) dX11_behindSwing_24 (rI_of (by unfold swN; congr 2; omega))
  · refine aw_iconst_n 1 dX11_behindSwing_18 (by decide) ?_
    refine aw_goto (tgt := 23) dX11_behindSwing_19 (by decide) ?_
    refine aw_isub_n (by omega) dX11_behindSwing_23 ?_
    exact aw_iret rfl (by decide) (by decide) dX11_behindSwing_24 (rI_of (by unfold swN; congr 2; omega))
abbrev MX11_divisor : MT := (RX11, cX11_divisor, 5, (some .int), [], "divisor")
set_option maxHeartbeats 4000000 in
theorem m_div_loop {l : Launch} {G : GT} {n : Nat} {f : HT} (z : Nat) : ∀ (N : Nat) (x y : Nat), (y = N) → (x < 1000000) → (y < 1000000) → (Nat.gcd x y = z) → AW l G MX11_divisor 0 0 0 0 (rI (nI z) f n) n 0 0 4 [(3, .int (nI y)), (2, .int (nI x))] [] (f) n := by
  intro N
  induction N using Nat.strongRecOn with
  | ind N ih =>
    intro x y hN hx hy hg
    refine aw_iload_n dX11_divisor_4 rfl rfl ?_
    refine aw_if_le_n (by omega) (tgt := 21) dX11_divisor_5 (by decide) (fun c_1 => ?_) (fun c_1 => ?_)
    · refine aw_iload_n dX11_divisor_21 rfl rfl ?_
      exact aw_iret rfl (by decide) (by decide) dX11_divisor_22 (rI_of (by rw [← hg, c_1, Nat.gcd_zero_right]))
    · refine aw_iload_n dX11_divisor_8 rfl rfl ?_
      refine aw_iload_n dX11_divisor_9 rfl rfl ?_
      refine aw_irem_n (by omega) (by omega) (by omega) dX11_divisor_10 ?_
      refine aw_istore (L' := [(4, .int (nI (x % y))), (3, .int (nI y)), (2, .int (nI x))]) dX11_divisor_11 (by decide) rfl ?_
      refine aw_iload_n dX11_divisor_13 rfl rfl ?_
      refine aw_istore_n (L' := [(2, .int (nI y)), (4, .int (nI (x % y))), (3, .int (nI y))]) dX11_divisor_14 rfl (by decide) rfl ?_
      refine aw_iload dX11_divisor_15 rfl ?_
      refine aw_istore_n (L' := [(3, .int (nI (x % y))), (2, .int (nI y)), (4, .int (nI (x % y)))]) dX11_divisor_17 rfl (by decide) rfl ?_
      refine aw_goto (tgt := 4) dX11_divisor_18 (by decide) ?_
      refine aw_sub [(3, .int (nI (x % y))), (2, .int (nI y))] (by simp) ?_
      exact ih _ (by rw [← hN]; exact Nat.mod_lt _ c_1) y (x % y) rfl hy (Nat.lt_trans (Nat.mod_lt _ c_1) hy) (by rw [← hg, Nat.gcd_comm x y, Nat.gcd_rec y x, Nat.gcd_comm])
set_option maxHeartbeats 4000000 in
theorem m_div {l : Launch} {G : GT} {n : Nat} {f : HT} {x y : Nat} (hx : x < 1000000) (hy : y < 1000000) : AM l G yX11_divisor (.code yX11_divisor cX11_divisor 5 (some .int)) 0 0 0 0 [.int (nI x), .int (nI y)] (f) n (rI (nI (Nat.gcd x y)) f n) := by
  refine aw_enter (M := MX11_divisor) rfl rfl (by decide +kernel) rfl (Nat.le_of_ble_eq_true rfl) ?_
  show AW l G MX11_divisor 0 0 0 0 _ n 0 0 0 [(0, .int (nI x)), (1, .int (nI y))] [] _ n
  refine aw_iload_n dX11_divisor_0 rfl rfl ?_
  refine aw_istore_n (L' := [(2, .int (nI x)), (0, .int (nI x)), (1, .int (nI y))]) dX11_divisor_1 rfl (by decide) rfl ?_
  refine aw_iload_n dX11_divisor_2 rfl rfl ?_
  refine aw_istore_n (L' := [(3, .int (nI y)), (2, .int (nI x)), (0, .int (nI x)), (1, .int (nI y))]) dX11_divisor_3 rfl (by decide) rfl ?_
  refine aw_sub [(3, .int (nI y)), (2, .int (nI x))] (by simp) ?_
  exact m_div_loop _ _ _ _ rfl hx hy rfl
