def kindN (len : Nat) : Nat := if len < 30 then 0 else if len < 60 then 1 else 2
abbrev MX11_in : MT := (RX11, cX11_in, 3, (some .boolean), [], "in")
set_option maxHeartbeats 4000000 in
theorem m_in {l : Launch} {G : GT} {n : Nat} {f : HT} (v a c : Int32) : AM l G yX11_in (.code yX11_in cX11_in 3 (some .boolean)) 0 0 0 0 [.int v, .int a, .int c] (f) n (rI (bI (inB v a c)) f n) := by
  refine aw_enter (M := MX11_in) rfl rfl (by decide +kernel) rfl (Nat.le_of_ble_eq_true rfl) ?_
  show AW l G MX11_in 0 0 0 0 _ n 0 0 0 [(0, .int v), (1, .int a), (2, .int c)] [] _ n
  refine aw_iload_n dX11_in_0 rfl rfl ?_
  refine aw_iload_n dX11_in_1 rfl rfl ?_
  refine aw_icmp_lt (tgt := 14) dX11_in_2 (by decide) (fun c_1 => ?_) (fun c_1 => ?_)
  · refine aw_iconst_n 0 dX11_in_14 (by decide) ?_
    exact aw_zret rfl rfl (by decide) (by decide) dX11_in_15 (rI_of (by exact bI_n0 (by simp only [inB]; rw [decide_eq_false (Int32.not_le.mpr c_1)]; rfl)))
  · refine aw_iload_n dX11_in_5 rfl rfl ?_
    refine aw_iload_n dX11_in_6 rfl rfl ?_
    refine aw_icmp_gt (tgt := 14) dX11_in_7 (by decide) (fun c_2 => ?_) (fun c_2 => ?_)
    · refine aw_iconst_n 0 dX11_in_14 (by decide) ?_
      exact aw_zret rfl rfl (by decide) (by decide) dX11_in_15 (rI_of (by exact bI_n0 (by simp only [inB]; rw [decide_eq_false (Int32.not_le.mpr c_2)]; exact Bool.and_false _)))
    · refine aw_iconst_n 1 dX11_in_10 (by decide) ?_
      refine aw_goto (tgt := 15) dX11_in_11 (by decide) ?_
      exact aw_zret rfl rfl (by decide) (by decide) dX11_in_15 (rI_of (by exact bI_n1 (by simp only [inB, Bool.and_eq_true, decide_eq_true_eq]; exact ⟨Int32.not_lt.mp c_1, Int32.not_lt.mp c_2⟩)))
abbrev MX11_size : MT := (RX11, cX11_size, 1, (some .int), [], "size")
set_option maxHeartbeats 4000000 in
theorem m_size {l : Launch} {G : GT} {n : Nat} {f : HT} (v : Int32) : AM l G yX11_size (.code yX11_size cX11_size 1 (some .int)) 0 0 0 0 [.int v] (f) n (rI (if v < 0 then -v else v) f n) := by
  refine aw_enter (M := MX11_size) rfl rfl (by decide +kernel) rfl (Nat.le_of_ble_eq_true rfl) ?_
  show AW l G MX11_size 0 0 0 0 _ n 0 0 0 [(0, .int v)] [] _ n
  refine aw_iload_n dX11_size_0 rfl rfl ?_
  refine aw_if_ge (tgt := 9) dX11_size_1 (by decide) (fun c_1 => ?_) (fun c_1 => ?_)
  · refine aw_iload_n dX11_size_9 rfl rfl ?_
    exact aw_iret rfl (by decide) (by decide) dX11_size_10 (rI_of (by rw [if_neg (Int32.not_lt.mpr c_1)]))
  · refine aw_iload_n dX11_size_4 rfl rfl ?_
    refine aw_ineg dX11_size_5 ?_
    refine aw_goto (tgt := 10) dX11_size_6 (by decide) ?_
    exact aw_iret rfl (by decide) (by decide) dX11_size_10 (rI_of (by rw [if_pos (Int32.not_le.mp c_1)]))
abbrev MX11_done : MT := (RX11, cX11_done, 2, (some .int), [], "done")
set_option maxHeartbeats 4000000 in
theorem m_done {l : Launch} {G : GT} {n : Nat} {f : HT} {o : Nat} {I : Nat → Int32} {A : Nat → Nat → Int32} (v : Int32) : AM l G yX11_done (.code yX11_done cX11_done 2 (some .int)) 0 0 0 0 [.ref o, .int v] (mU f o I A) n (rI v (mU f o (va_up I 12 (nI 0)) A) n) := by
  refine aw_enter (M := MX11_done) rfl rfl (by decide +kernel) rfl (Nat.le_of_ble_eq_true rfl) ?_
  show AW l G MX11_done 0 0 0 0 _ n 0 0 0 [(0, .ref o), (1, .int v)] [] _ n
  refine aw_aload_n dX11_done_0 rfl rfl ?_
  refine aw_iconst_n 0 dX11_done_1 (by decide) ?_
  refine aw_mput fp_X11_42 (by decide) rfl rfl dX11_done_2 ?_
  refine aw_iload_n dX11_done_5 rfl rfl ?_
  exact aw_iret rfl (by decide) (by decide) dX11_done_6 (rI_of (by rfl))
abbrev MX11_fails : MT := (RX11, cX11_fails, 2, (some .int), [], "fails")
set_option maxHeartbeats 4000000 in
theorem m_fails {l : Launch} {G : GT} {n : Nat} {f : HT} {o : Nat} {I : Nat → Int32} {A : Nat → Nat → Int32} (k : Nat) : AM l G yX11_fails (.code yX11_fails cX11_fails 2 (some .int)) 0 0 0 0 [.ref o, .int (nI k)] (mU f o I A) n (rI (nI 0) (mU f o (va_up I 12 (nI k)) A) n) := by
  refine aw_enter (M := MX11_fails) rfl rfl (by decide +kernel) rfl (Nat.le_of_ble_eq_true rfl) ?_
  show AW l G MX11_fails 0 0 0 0 _ n 0 0 0 [(0, .ref o), (1, .int (nI k))] [] _ n
  refine aw_aload_n dX11_fails_0 rfl rfl ?_
  refine aw_iload_n dX11_fails_1 rfl rfl ?_
  refine aw_mput fp_X11_42 (by decide) rfl rfl dX11_fails_2 ?_
  refine aw_iconst_n 0 dX11_fails_5 (by decide) ?_
  exact aw_iret rfl (by decide) (by decide) dX11_fails_6 (rI_of (by rfl))
abbrev MX11_rests : MT := (RX11, cX11_rests, 2, (some .boolean), [], "rests")
set_option maxHeartbeats 4000000 in
theorem m_rests {l : Launch} {G : GT} {n : Nat} {f : HT} {o : Nat} {I : Nat → Int32} {A : Nat → Nat → Int32} {K : Nat} {V : Nat → Nat} (hA : Mok A V) (hB : VB K V) {k : Nat} (hk : k < 8) : AM l G yX11_rests (.code yX11_rests cX11_rests 2 (some .boolean)) 0 0 0 0 [.ref o, .int (nI k)] (mU f o I A) n (rI (bI (decide (V (12 + k) = 0))) (mU f o I A) n) := by
  refine aw_enter (M := MX11_rests) rfl rfl (by decide +kernel) rfl (Nat.le_of_ble_eq_true rfl) ?_
  show AW l G MX11_rests 0 0 0 0 _ n 0 0 0 [(0, .ref o), (1, .int (nI k))] [] _ n
  refine aw_aload_n dX11_rests_0 rfl rfl ?_
  refine aw_get (v := .ref (o + 1)) fl_X11_7 mU_0 rfl dX11_rests_1 ?_
  refine aw_bipush_n 12 dX11_rests_4 (by decide) ?_
  refine aw_iload_n dX11_rests_6 rfl rfl ?_
  refine aw_iadd_n dX11_rests_7 ?_
  refine aw_mld hA (k := 12 + k) (by omega) dX11_rests_8 ?_
  have hb_1 : V (12 + k) < 16000000 := VB.lt hB (by omega)
  refine aw_if_ne_n (by omega) (tgt := 16) dX11_rests_9 (by decide) (fun c_2 => ?_) (fun c_2 => ?_)
  · refine aw_iconst_n 0 dX11_rests_16 (by decide) ?_
    exact aw_zret rfl rfl (by decide) (by decide) dX11_rests_17 (rI_of (by exact bI_n0 (decide_eq_false c_2)))
  · refine aw_iconst_n 1 dX11_rests_12 (by decide) ?_
    refine aw_goto (tgt := 17) dX11_rests_13 (by decide) ?_
    exact aw_zret rfl rfl (by decide) (by decide) dX11_rests_17 (rI_of (by exact bI_n1 (decide_eq_true c_2)))
abbrev MX11_kind : MT := (RX11, cX11_kind, 3, (some .int), [], "kind")
set_option maxHeartbeats 4000000 in
theorem m_kind {l : Launch} {G : GT} {n : Nat} {f : HT} {o : Nat} {I : Nat → Int32} {A : Nat → Nat → Int32} {K : Nat} {V : Nat → Nat} (hA : Mok A V) (hB : VB K V) {k : Nat} (hk : k < 8) : AM l G yX11_kind (.code yX11_kind cX11_kind 3 (some .int)) 0 0 0 0 [.ref o, .int (nI k)] (mU f o I A) n (rI (nI (kindN (V (4 + k)))) (mU f o I A) n) := by
  refine aw_enter (M := MX11_kind) rfl rfl (by decide +kernel) rfl (Nat.le_of_ble_eq_true rfl) ?_
  show AW l G MX11_kind 0 0 0 0 _ n 0 0 0 [(0, .ref o), (1, .int (nI k))] [] _ n
  refine aw_aload_n dX11_kind_0 rfl rfl ?_
  refine aw_get (v := .ref (o + 1)) fl_X11_7 mU_0 rfl dX11_kind_1 ?_
  refine aw_iconst_n 4 dX11_kind_4 (by decide) ?_
  refine aw_iload_n dX11_kind_5 rfl rfl ?_
  refine aw_iadd_n dX11_kind_6 ?_
  refine aw_mld hA (k := 4 + k) (by omega) dX11_kind_7 ?_
  have hb_1 : V (4 + k) < 16000000 := VB.lt hB (by omega)
  refine aw_istore_n (L' := [(2, .int (nI (V (4 + k)))), (0, .ref o), (1, .int (nI k))]) dX11_kind_8 rfl (by decide) rfl ?_
  refine aw_iload_n dX11_kind_9 rfl rfl ?_
  refine aw_bipush_n 30 dX11_kind_10 (by decide) ?_
  refine aw_icmp_ge_n (by omega) (by omega) (tgt := 19) dX11_kind_12 (by decide) (fun c_2 => ?_) (fun c_2 => ?_)
  · refine aw_iload_n dX11_kind_19 rfl rfl ?_
    refine aw_bipush_n 60 dX11_kind_20 (by decide) ?_
    refine aw_icmp_ge_n (by omega) (by omega) (tgt := 29) dX11_kind_22 (by decide) (fun c_3 => ?_) (fun c_3 => ?_)
    · refine aw_iconst_n 2 dX11_kind_29 (by decide) ?_
      exact aw_iret rfl (by decide) (by decide) dX11_kind_30 (rI_of (by unfold kindN; rw [if_pos c_2]))
    · refine aw_iconst_n 1 dX11_kind_25 (by decide) ?_
      refine aw_goto (tgt := 30) dX11_kind_26 (by decide) ?_
      exact aw_iret rfl (by decide) (by decide) dX11_kind_30 (rI_of (by unfold kindN; rw [if_neg (by omega), if_pos c_3]))
  · refine aw_iconst_n 0 dX11_kind_15 (by decide) ?_
    refine aw_goto (tgt := 30) dX11_kind_16 (by decide) ?_
    exact aw_iret rfl (by decide) (by decide) dX11_kind_30 (rI_of (by unfold kindN; rw [if_neg (by omega), if_neg (by omega)]))
