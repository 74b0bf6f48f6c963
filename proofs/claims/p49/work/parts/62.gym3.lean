theorem rkF_or {V : Nat → Nat} {r : Int32} : ∀ m k, rkF V r m k = (1, 0) ∨ ∃ j, j < k + m ∧ rkF V r m k = (0, j) := by
  intro m
  induction m with
  | zero => intro k; exact Or.inl rfl
  | succ m ih =>
    intro k
    by_cases h : nI (rankN V k) = r
    · exact Or.inr ⟨k, by omega, rkF_yes h⟩
    · rw [rkF_no h]
      rcases ih (k + 1) with e | ⟨j, hj, e⟩
      · exact Or.inl e
      · exact Or.inr ⟨j, by omega, e⟩
theorem n1_eq : (-1 : Int32) = -1 := rfl
abbrev MX10_pendulumAtRank : MT := (RX10, cX10_pendulumAtRank, 3, (some .int), [], "pendulumAtRank")
set_option maxHeartbeats 4000000 in
theorem g_pendulumAtRank {l : Launch} {G : GT} {n : Nat} {H : HT} {x : Nat} {J : Nat → Int32} {B : Nat → Nat → Int32} {K : Nat} {V : Nat → Nat} {sv : Bool} {e1 e2 : Int32} (h0 : H x = gC x sv e1 e2) (hst : sAt H (x + 1) J B) (hS : SV J B V) (hB : VB K V) (v : Int32) : AM l G yX10_pendulumAtRank (.code yX10_pendulumAtRank cX10_pendulumAtRank 3 (some .int)) 10 600 4 24 [.ref x, .int v] (H) n (GQ9 [eNS] (qRank V v) H n) := by
  refine aw_enter (M := MX10_pendulumAtRank) rfl rfl (by decide +kernel) rfl (Nat.le_of_ble_eq_true rfl) ?_
  have hcn := hB.cnt
  have hlg := hB.legs
  show AW l G MX10_pendulumAtRank 10 600 4 24 _ n 0 0 0 [(0, .ref x), (1, .int v)] [] _ n
  refine aw_aload_n dX10_pendulumAtRank_0 rfl rfl ?_
  refine aw_get (v := .ref (x + 1)) fl_X10_10 (h0) rfl dX10_pendulumAtRank_1 ?_
  refine aw_iload_n dX10_pendulumAtRank_4 rfl rfl ?_
  have hq_5 := s_ranked (l := l) (G := G) (n := n) (f := H) (o := x + 1) hS hB v
  rw [hst.self] at hq_5
  refine aw_cI (as := [Value.int v]) (rest := []) (MV.c mV_X8_ranked) hq_5 ml_X10_158 (RC.w hst.obj rfl) dX10_pendulumAtRank_5 rfl rfl (by decide) (Nat.le_of_ble_eq_true rfl) (by decide) ?_
  refine aw_istore_n (L' := [(2, .int (qRI (qRank V v))), (0, .ref x), (1, .int v)]) dX10_pendulumAtRank_8 rfl (by decide) rfl ?_
  refine aw_iload_n dX10_pendulumAtRank_9 rfl rfl ?_
  refine aw_iconst (v := -1) dX10_pendulumAtRank_10 (by decide) ?_
  refine aw_icmp_ne (tgt := 24) dX10_pendulumAtRank_11 (by decide) (fun c_1 => ?_) (fun c_1 => ?_)
  · refine aw_iload_n dX10_pendulumAtRank_24 rfl rfl ?_
    refine aw_iret rfl (by decide) (by decide) dX10_pendulumAtRank_25 (HQ.of ?_)
    rcases rkF_or (V := V) (r := v) (V 2) 0 with e | ⟨j, hj, e⟩
    · exfalso; rw [show qRank V v = (1, 0) from e] at c_1; exact c_1 rfl
    · rw [show qRank V v = (0, j) from e]; rfl
  · refine aw_throwX (is := 163) tw_NSEE rfl (List.mem_of_getElem? (i := 7) rfl) dX10_pendulumAtRank_14 dX10_pendulumAtRank_17 (Or.inl ⟨dX10_pendulumAtRank_18, rfl⟩) dX10_pendulumAtRank_20 dX10_pendulumAtRank_23 (Nat.le_of_ble_eq_true rfl) (Nat.le_of_ble_eq_true rfl) (by decide) (by decide) (HQ.of ?_)
    rcases rkF_or (V := V) (r := v) (V 2) 0 with e | ⟨j, hj, e⟩
    · rw [show qRank V v = (1, 0) from e]; rfl
    · exfalso; rw [show qRank V v = (0, j) from e] at c_1; exact nI_n1 (show j < 2 ^ 30 by omega) c_1
abbrev MX10_swingsToRest : MT := (RX10, cX10_swingsToRest, 2, (some .int), [], "swingsToRest")
set_option maxHeartbeats 4000000 in
theorem g_swingsToRest {l : Launch} {G : GT} {n : Nat} {H : HT} {x : Nat} {J : Nat → Int32} {B : Nat → Nat → Int32} {K : Nat} {V : Nat → Nat} {sv : Bool} {e1 e2 : Int32} (h0 : H x = gC x sv e1 e2) (hst : sAt H (x + 1) J B) (hS : SV J B V) (hB : VB K V) {T : Nat → Int32} (hk1 : kAt H 1 61 (x + 102) T) (v : Int32) : AM l G yX10_swingsToRest (.code yX10_swingsToRest cX10_swingsToRest 2 (some .int)) 10 600 4 24 [.ref x, .int v] (H) n (GQ9 [eIO] (qLeft V v) H n) := by
  refine aw_enter (M := MX10_swingsToRest) rfl rfl (by decide +kernel) rfl (Nat.le_of_ble_eq_true rfl) ?_
  have hcn := hB.cnt
  have hlg := hB.legs
  show AW l G MX10_swingsToRest 10 600 4 24 _ n 0 0 0 [(0, .ref x), (1, .int v)] [] _ n
  refine aw_aload_n dX10_swingsToRest_0 rfl rfl ?_
  refine aw_iload_n dX10_swingsToRest_1 rfl rfl ?_
  rcases Classical.em (¬ (isK v (V 2) = true)) with e_1 | e_1
  · have hq := g_reqP (l := l) (G := G) (n := n) h0 hst hS hB v
    rw [if_neg e_1] at hq
    refine aw_cX (as := [Value.int v]) (rest := []) (MV.c mV_X10_requirePendulum) hq ml_X10_111 (RC.w h0 rfl) dX10_swingsToRest_2 rfl rfl (by decide) (Nat.le_of_ble_eq_true rfl) (by decide) rfl (HQ.of ?_)
    simp [xA, qLeft, e_1]
  have e_1 := Classical.not_not.mp e_1
  have hq := g_reqP (l := l) (G := G) (n := n) h0 hst hS hB v
  rw [if_pos e_1] at hq
  refine aw_cV (as := [Value.int v]) (rest := []) (MV.c mV_X10_requirePendulum) (HQ.v hq) ml_X10_111 (RC.w h0 rfl) dX10_swingsToRest_2 rfl rfl (by decide) (Nat.le_of_ble_eq_true rfl) (by decide) ?_
  obtain ⟨k, hk, rfl⟩ := isK_of (by omega) e_1
  have nk := nIc (show k < 2 ^ 31 by omega)
  refine aw_aload_n dX10_swingsToRest_5 rfl rfl ?_
  refine aw_get (v := .ref (x + 102)) fl_X10_32 (h0) rfl dX10_swingsToRest_6 ?_
  refine aw_aload_n dX10_swingsToRest_9 rfl rfl ?_
  refine aw_get (v := .ref (x + 1)) fl_X10_10 (h0) rfl dX10_swingsToRest_10 ?_
  refine aw_iload_n dX10_swingsToRest_13 rfl rfl ?_
  have hq_14 := f_one (l := l) (G := G) (n := n) (f := H) (o := x + 1) hS hB (r := x + 102) hk
  rw [hst.self] at hq_14
  refine aw_cI (as := [Value.ref (x + 1), Value.int (nI k)]) (rest := []) (MV.c mV_X1_swingsOneByOne) hq_14 ml_X10_168 (RC.w hk1.1 rfl) dX10_swingsToRest_14 rfl rfl (by decide) (Nat.le_of_ble_eq_true rfl) (by decide) ?_
  refine aw_iret rfl (by decide) (by decide) dX10_swingsToRest_17 (HQ.of ?_)
  simp [xA, qLeft, e_1, nk]
abbrev MX10_restTick : MT := (RX10, cX10_restTick, 2, (some .int), [], "restTick")
set_option maxHeartbeats 4000000 in
theorem g_restTick {l : Launch} {G : GT} {n : Nat} {H : HT} {x : Nat} {J : Nat → Int32} {B : Nat → Nat → Int32} {K : Nat} {V : Nat → Nat} {sv : Bool} {e1 e2 : Int32} (h0 : H x = gC x sv e1 e2) (hst : sAt H (x + 1) J B) (hS : SV J B V) (hB : VB K V) {T : Nat → Int32} (hk1 : kAt H 1 61 (x + 102) T) (v : Int32) : AM l G yX10_restTick (.code yX10_restTick cX10_restTick 2 (some .int)) 10 600 4 24 [.ref x, .int v] (H) n (GQ9 [eIO, eNS] (qRest V v) H n) := by
  refine aw_enter (M := MX10_restTick) rfl rfl (by decide +kernel) rfl (Nat.le_of_ble_eq_true rfl) ?_
  have hcn := hB.cnt
  have hlg := hB.legs
  show AW l G MX10_restTick 10 600 4 24 _ n 0 0 0 [(0, .ref x), (1, .int v)] [] _ n
  refine aw_aload_n dX10_restTick_0 rfl rfl ?_
  refine aw_iload_n dX10_restTick_1 rfl rfl ?_
  rcases Classical.em (¬ (isK v (V 2) = true)) with e_1 | e_1
  · have hq := g_reqP (l := l) (G := G) (n := n) h0 hst hS hB v
    rw [if_neg e_1] at hq
    refine aw_cX (as := [Value.int v]) (rest := []) (MV.c mV_X10_requirePendulum) hq ml_X10_111 (RC.w h0 rfl) dX10_restTick_2 rfl rfl (by decide) (Nat.le_of_ble_eq_true rfl) (by decide) rfl (HQ.of ?_)
    simp [xA, qRest, e_1]
  have e_1 := Classical.not_not.mp e_1
  have hq := g_reqP (l := l) (G := G) (n := n) h0 hst hS hB v
  rw [if_pos e_1] at hq
  refine aw_cV (as := [Value.int v]) (rest := []) (MV.c mV_X10_requirePendulum) (HQ.v hq) ml_X10_111 (RC.w h0 rfl) dX10_restTick_2 rfl rfl (by decide) (Nat.le_of_ble_eq_true rfl) (by decide) ?_
  obtain ⟨k, hk, rfl⟩ := isK_of (by omega) e_1
  have nk := nIc (show k < 2 ^ 31 by omega)
  refine aw_aload_n dX10_restTick_5 rfl rfl ?_
  refine aw_iload_n dX10_restTick_6 rfl rfl ?_
  rcases Classical.em (¬ (V (12 + k) ≠ 0)) with e_2 | e_2
  · have hq := g_reqS (l := l) (G := G) (n := n) h0 hst hS hB hk
    rw [if_neg e_2] at hq
    refine aw_cX (as := [Value.int (nI k)]) (rest := []) (MV.c mV_X10_requireSwinging) hq ml_X10_123 (RC.w h0 rfl) dX10_restTick_7 rfl rfl (by decide) (Nat.le_of_ble_eq_true rfl) (by decide) rfl (HQ.of ?_)
    simp [xA, qRest, e_1, nk, Classical.not_not.mp e_2]
  have e_2 := Classical.not_not.mp e_2
  have hq := g_reqS (l := l) (G := G) (n := n) h0 hst hS hB hk
  rw [if_pos e_2] at hq
  refine aw_cV (as := [Value.int (nI k)]) (rest := []) (MV.c mV_X10_requireSwinging) (HQ.v hq) ml_X10_123 (RC.w h0 rfl) dX10_restTick_7 rfl rfl (by decide) (Nat.le_of_ble_eq_true rfl) (by decide) ?_
  refine aw_aload_n dX10_restTick_10 rfl rfl ?_
  refine aw_get (v := .ref (x + 102)) fl_X10_32 (h0) rfl dX10_restTick_11 ?_
  refine aw_aload_n dX10_restTick_14 rfl rfl ?_
  refine aw_get (v := .ref (x + 1)) fl_X10_10 (h0) rfl dX10_restTick_15 ?_
  refine aw_iload_n dX10_restTick_18 rfl rfl ?_
  have hq_19 := f_last (l := l) (G := G) (n := n) (f := H) (o := x + 1) hS hB (r := x + 102) (rs := [.ref (x + 102 + 1)]) (by rw [hst.self]; exact hk1.1) hk e_2
  rw [hst.self] at hq_19
  refine aw_cI (as := [Value.ref (x + 1), Value.int (nI k)]) (rest := []) (MV.c mV_X1_lastTick) hq_19 ml_X10_175 (RC.w hk1.1 rfl) dX10_restTick_19 rfl rfl (by decide) (Nat.le_of_ble_eq_true rfl) (by decide) ?_
  refine aw_iret rfl (by decide) (by decide) dX10_restTick_22 (HQ.of ?_)
  simp [xA, qRest, e_1, nk, e_2]
abbrev MX10_amplitudeAfter : MT := (RX10, cX10_amplitudeAfter, 3, (some .int), [], "amplitudeAfter")
set_option maxHeartbeats 4000000 in
theorem g_amplitudeAfter {l : Launch} {G : GT} {n : Nat} {H : HT} {x : Nat} {J : Nat → Int32} {B : Nat → Nat → Int32} {K : Nat} {V : Nat → Nat} {sv : Bool} {e1 e2 : Int32} (h0 : H x = gC x sv e1 e2) (hst : sAt H (x + 1) J B) (hS : SV J B V) (hB : VB K V) {T : Nat → Int32} (hk1 : kAt H 1 61 (x + 102) T) (v t : Int32) : AM l G yX10_amplitudeAfter (.code yX10_amplitudeAfter cX10_amplitudeAfter 3 (some .int)) 10 600 4 24 [.ref x, .int v, .int t] (H) n (GQ9 [eIO, eIA] (qAfter V v t) H n) := by
  refine aw_enter (M := MX10_amplitudeAfter) rfl rfl (by decide +kernel) rfl (Nat.le_of_ble_eq_true rfl) ?_
  have hcn := hB.cnt
  have hlg := hB.legs
  show AW l G MX10_amplitudeAfter 10 600 4 24 _ n 0 0 0 [(0, .ref x), (1, .int v), (2, .int t)] [] _ n
  refine aw_aload_n dX10_amplitudeAfter_0 rfl rfl ?_
  refine aw_iload_n dX10_amplitudeAfter_1 rfl rfl ?_
  rcases Classical.em (¬ (isK v (V 2) = true)) with e_1 | e_1
  · have hq := g_reqP (l := l) (G := G) (n := n) h0 hst hS hB v
    rw [if_neg e_1] at hq
    refine aw_cX (as := [Value.int v]) (rest := []) (MV.c mV_X10_requirePendulum) hq ml_X10_111 (RC.w h0 rfl) dX10_amplitudeAfter_2 rfl rfl (by decide) (Nat.le_of_ble_eq_true rfl) (by decide) rfl (HQ.of ?_)
    simp [xA, qAfter, e_1]
  have e_1 := Classical.not_not.mp e_1
  have hq := g_reqP (l := l) (G := G) (n := n) h0 hst hS hB v
  rw [if_pos e_1] at hq
  refine aw_cV (as := [Value.int v]) (rest := []) (MV.c mV_X10_requirePendulum) (HQ.v hq) ml_X10_111 (RC.w h0 rfl) dX10_amplitudeAfter_2 rfl rfl (by decide) (Nat.le_of_ble_eq_true rfl) (by decide) ?_
  obtain ⟨k, hk, rfl⟩ := isK_of (by omega) e_1
  have nk := nIc (show k < 2 ^ 31 by omega)
  refine aw_iload_n dX10_amplitudeAfter_5 rfl rfl ?_
  refine aw_if_lt (tgt := 16) dX10_amplitudeAfter_6 (by decide) (fun c_2 => ?_) (fun c_2 => ?_)
  · refine aw_throwX (is := 180) tw_IAE rfl (List.mem_of_getElem? (i := 8) rfl) dX10_amplitudeAfter_16 dX10_amplitudeAfter_19 (Or.inl ⟨dX10_amplitudeAfter_20, rfl⟩) dX10_amplitudeAfter_22 dX10_amplitudeAfter_25 (Nat.le_of_ble_eq_true rfl) (Nat.le_of_ble_eq_true rfl) (by decide) (by decide) (HQ.of ?_)
    have hin : ¬ inB t (nI 0) (nI 500) = true := fun z => by
      simp only [inB, Bool.and_eq_true, decide_eq_true_eq] at z
      first | exact absurd z.1 (Int32.not_le.mpr c_2) | exact c_3 z.2 | exact absurd z.2 (Int32.not_le.mpr c_3)
    simp [xA, qAfter, e_1, nk, hin]
  · refine aw_iload_n dX10_amplitudeAfter_9 rfl rfl ?_
    refine aw_sipush_n 500 dX10_amplitudeAfter_10 (by decide) ?_
    refine aw_icmp_le (tgt := 26) dX10_amplitudeAfter_13 (by decide) (fun c_3 => ?_) (fun c_3 => ?_)
    · have hin : inB t (nI 0) (nI 500) = true := by simp only [inB, Bool.and_eq_true, decide_eq_true_eq]; exact ⟨Int32.not_lt.mp c_2, c_3⟩
      obtain ⟨m, hm0, hm, rfl⟩ := inB_of (by decide) (by decide) hin
      have nm := nIc (show m < 2 ^ 31 by omega)
      refine aw_aload_n dX10_amplitudeAfter_26 rfl rfl ?_
      refine aw_get (v := .ref (x + 102)) fl_X10_32 (h0) rfl dX10_amplitudeAfter_27 ?_
      refine aw_aload_n dX10_amplitudeAfter_30 rfl rfl ?_
      refine aw_get (v := .ref (x + 1)) fl_X10_10 (h0) rfl dX10_amplitudeAfter_31 ?_
      refine aw_iload_n dX10_amplitudeAfter_34 rfl rfl ?_
      refine aw_iload_n dX10_amplitudeAfter_35 rfl rfl ?_
      have hq_36 := f_later (l := l) (G := G) (n := n) (f := H) (o := x + 1) hS hB (r := x + 102) hk hm
      rw [hst.self] at hq_36
      refine aw_cI (as := [Value.ref (x + 1), Value.int (nI k), Value.int (nI m)]) (rest := []) (MV.c mV_X1_laterAmplitude) hq_36 ml_X10_183 (RC.w hk1.1 rfl) dX10_amplitudeAfter_36 rfl rfl (by decide) (Nat.le_of_ble_eq_true rfl) (by decide) ?_
      refine aw_iret rfl (by decide) (by decide) dX10_amplitudeAfter_39 (HQ.of ?_)
      simp [xA, qAfter, e_1, nk, hin, nm]
    · refine aw_throwX (is := 180) tw_IAE rfl (List.mem_of_getElem? (i := 8) rfl) dX10_amplitudeAfter_16 dX10_amplitudeAfter_19 (Or.inl ⟨dX10_amplitudeAfter_20, rfl⟩) dX10_amplitudeAfter_22 dX10_amplitudeAfter_25 (Nat.le_of_ble_eq_true rfl) (Nat.le_of_ble_eq_true rfl) (by decide) (by decide) (HQ.of ?_)
      have hin : ¬ inB t (nI 0) (nI 500) = true := fun z => by
        simp only [inB, Bool.and_eq_true, decide_eq_true_eq] at z
        first | exact absurd z.1 (Int32.not_le.mpr c_2) | exact c_3 z.2 | exact absurd z.2 (Int32.not_le.mpr c_3)
      simp [xA, qAfter, e_1, nk, hin]
abbrev MX10_requireBothSwinging : MT := (RX10, cX10_requireBothSwinging, 3, none, [], "requireBothSwinging")
set_option maxHeartbeats 4000000 in
theorem g_reqB {l : Launch} {G : GT} {n : Nat} {H : HT} {x : Nat} {J : Nat → Int32} {B : Nat → Nat → Int32} {K : Nat} {V : Nat → Nat} {sv : Bool} {e1 e2 : Int32} (h0 : H x = gC x sv e1 e2) (hst : sAt H (x + 1) J B) (hS : SV J B V) (hB : VB K V) (v u : Int32) : AM l G yX10_requireBothSwinging (.code yX10_requireBothSwinging cX10_requireBothSwinging 3 none) 7 420 4 24 [.ref x, .int v, .int u] (H) n (HQ (if isK v (V 2) = true ∧ isK u (V 2) = true then (if V (12 + v.toNatClampNeg) = 0 ∨ V (12 + u.toNatClampNeg) = 0 then .inr eIS else .inl none) else .inr eIO) H n) := by
  refine aw_enter (M := MX10_requireBothSwinging) rfl rfl (by decide +kernel) rfl (Nat.le_of_ble_eq_true rfl) ?_
  have hcn := hB.cnt
  have hlg := hB.legs
  show AW l G MX10_requireBothSwinging 7 420 4 24 _ n 0 0 0 [(0, .ref x), (1, .int v), (2, .int u)] [] _ n
  refine aw_aload_n dX10_requireBothSwinging_0 rfl rfl ?_
  refine aw_iload_n dX10_requireBothSwinging_1 rfl rfl ?_
  rcases Classical.em (¬ (isK v (V 2) = true)) with e_1 | e_1
  · have hq := g_reqP (l := l) (G := G) (n := n) h0 hst hS hB v
    rw [if_neg e_1] at hq
    refine aw_cX (as := [Value.int v]) (rest := []) (MV.c mV_X10_requirePendulum) hq ml_X10_111 (RC.w h0 rfl) dX10_requireBothSwinging_2 rfl rfl (by decide) (Nat.le_of_ble_eq_true rfl) (by decide) rfl (HQ.of ?_)
    simp [e_1]
  have e_1 := Classical.not_not.mp e_1
  have hq := g_reqP (l := l) (G := G) (n := n) h0 hst hS hB v
  rw [if_pos e_1] at hq
  refine aw_cV (as := [Value.int v]) (rest := []) (MV.c mV_X10_requirePendulum) (HQ.v hq) ml_X10_111 (RC.w h0 rfl) dX10_requireBothSwinging_2 rfl rfl (by decide) (Nat.le_of_ble_eq_true rfl) (by decide) ?_
  obtain ⟨k, hk, rfl⟩ := isK_of (by omega) e_1
  have nk := nIc (show k < 2 ^ 31 by omega)
  refine aw_aload_n dX10_requireBothSwinging_5 rfl rfl ?_
  refine aw_iload_n dX10_requireBothSwinging_6 rfl rfl ?_
  rcases Classical.em (¬ (isK u (V 2) = true)) with e_2 | e_2
  · have hq := g_reqP (l := l) (G := G) (n := n) h0 hst hS hB u
    rw [if_neg e_2] at hq
    refine aw_cX (as := [Value.int u]) (rest := []) (MV.c mV_X10_requirePendulum) hq ml_X10_111 (RC.w h0 rfl) dX10_requireBothSwinging_7 rfl rfl (by decide) (Nat.le_of_ble_eq_true rfl) (by decide) rfl (HQ.of ?_)
    simp [e_2]
  have e_2 := Classical.not_not.mp e_2
  have hq := g_reqP (l := l) (G := G) (n := n) h0 hst hS hB u
  rw [if_pos e_2] at hq
  refine aw_cV (as := [Value.int u]) (rest := []) (MV.c mV_X10_requirePendulum) (HQ.v hq) ml_X10_111 (RC.w h0 rfl) dX10_requireBothSwinging_7 rfl rfl (by decide) (Nat.le_of_ble_eq_true rfl) (by decide) ?_
  obtain ⟨j, hj, rfl⟩ := isK_of (by omega) e_2
  have nj := nIc (show j < 2 ^ 31 by omega)
  refine aw_aload_n dX10_requireBothSwinging_10 rfl rfl ?_
  refine aw_get (v := .ref (x + 1)) fl_X10_10 (h0) rfl dX10_requireBothSwinging_11 ?_
  refine aw_iload_n dX10_requireBothSwinging_14 rfl rfl ?_
  have hq_15 := s_swinging (l := l) (G := G) (n := n) (f := H) (o := x + 1) hS hB hk
  rw [hst.self] at hq_15
  refine aw_cI (as := [Value.int (nI k)]) (rest := []) (MV.c mV_X8_isSwinging) hq_15 ml_X10_288 (RC.w hst.obj rfl) dX10_requireBothSwinging_15 rfl rfl (by decide) (Nat.le_of_ble_eq_true rfl) (by decide) ?_
  refine aw_if_eq_b (tgt := 32) dX10_requireBothSwinging_18 (by decide) (fun c_3 => ?_) (fun c_3 => ?_)
  · refine aw_throwX (is := 375) tw_ISE rfl (List.mem_of_getElem? (i := 9) rfl) dX10_requireBothSwinging_32 dX10_requireBothSwinging_35 (Or.inr ⟨dX10_requireBothSwinging_36, rfl⟩) dX10_requireBothSwinging_39 dX10_requireBothSwinging_42 (Nat.le_of_ble_eq_true rfl) (Nat.le_of_ble_eq_true rfl) (by decide) (by decide) (HQ.of ?_)
    first
    | (have z1 := Classical.not_not.mp (of_decide_eq_false c_4); simp [e_1, e_2, nk, nj, z1])
    | (have z1 := Classical.not_not.mp (of_decide_eq_false c_3); simp [e_1, e_2, nk, nj, z1])
  · refine aw_aload_n dX10_requireBothSwinging_21 rfl rfl ?_
    refine aw_get (v := .ref (x + 1)) fl_X10_10 (h0) rfl dX10_requireBothSwinging_22 ?_
    refine aw_iload_n dX10_requireBothSwinging_25 rfl rfl ?_
    have hq_26 := s_swinging (l := l) (G := G) (n := n) (f := H) (o := x + 1) hS hB hj
    rw [hst.self] at hq_26
    refine aw_cI (as := [Value.int (nI j)]) (rest := []) (MV.c mV_X8_isSwinging) hq_26 ml_X10_288 (RC.w hst.obj rfl) dX10_requireBothSwinging_26 rfl rfl (by decide) (Nat.le_of_ble_eq_true rfl) (by decide) ?_
    refine aw_if_ne_b (tgt := 43) dX10_requireBothSwinging_29 (by decide) (fun c_4 => ?_) (fun c_4 => ?_)
    · refine aw_vret rfl (by decide) (by decide) dX10_requireBothSwinging_43 (HQ.of ?_)
      have z1 := of_decide_eq_true c_3
      have z2 := of_decide_eq_true c_4
      simp [e_1, e_2, nk, nj, z1, z2]
    · refine aw_throwX (is := 375) tw_ISE rfl (List.mem_of_getElem? (i := 9) rfl) dX10_requireBothSwinging_32 dX10_requireBothSwinging_35 (Or.inr ⟨dX10_requireBothSwinging_36, rfl⟩) dX10_requireBothSwinging_39 dX10_requireBothSwinging_42 (Nat.le_of_ble_eq_true rfl) (Nat.le_of_ble_eq_true rfl) (by decide) (by decide) (HQ.of ?_)
      first
      | (have z1 := Classical.not_not.mp (of_decide_eq_false c_4); simp [e_1, e_2, nk, nj, z1])
      | (have z1 := Classical.not_not.mp (of_decide_eq_false c_3); simp [e_1, e_2, nk, nj, z1])
abbrev MX10_meeting : MT := (RX10, cX10_meeting, 3, (some .int), [], "meeting")
set_option maxHeartbeats 4000000 in
theorem g_meeting {l : Launch} {G : GT} {n : Nat} {H : HT} {x : Nat} {J : Nat → Int32} {B : Nat → Nat → Int32} {K : Nat} {V : Nat → Nat} {sv : Bool} {e1 e2 : Int32} (h0 : H x = gC x sv e1 e2) (hst : sAt H (x + 1) J B) (hS : SV J B V) (hB : VB K V) (v u : Int32) : AM l G yX10_meeting (.code yX10_meeting cX10_meeting 3 (some .int)) 10 600 8 48 [.ref x, .int v, .int u] (H) n (GQ9 [eIO, eIS, eNS] (qMeet V v u) H n) := by
  refine aw_enter (M := MX10_meeting) rfl rfl (by decide +kernel) rfl (Nat.le_of_ble_eq_true rfl) ?_
  have hcn := hB.cnt
  have hlg := hB.legs
  show AW l G MX10_meeting 10 600 8 48 _ n 0 0 0 [(0, .ref x), (1, .int v), (2, .int u)] [] _ n
  refine aw_aload_n dX10_meeting_0 rfl rfl ?_
  refine aw_iload_n dX10_meeting_1 rfl rfl ?_
  refine aw_iload_n dX10_meeting_2 rfl rfl ?_
  rcases Classical.em (¬ (isK v (V 2) = true ∧ isK u (V 2) = true)) with e_1 | e_1
  · have hq := g_reqB (l := l) (G := G) (n := n) h0 hst hS hB v u
    rw [if_neg e_1] at hq
    refine aw_cX (as := [Value.int v, Value.int u]) (rest := []) (MV.c mV_X10_requireBothSwinging) hq ml_X10_187 (RC.w h0 rfl) dX10_meeting_3 rfl rfl (by decide) (Nat.le_of_ble_eq_true rfl) (by decide) rfl (HQ.of ?_)
    have hm : qMeet V v u = (1, 0) := if_neg e_1
    rw [hm]; rfl
  have e_1 := Classical.not_not.mp e_1
  obtain ⟨k, hk, rfl⟩ := isK_of (by omega) e_1.1
  obtain ⟨j, hj, rfl⟩ := isK_of (by omega) e_1.2
  have nk := nIc (show k < 2 ^ 31 by omega)
  have nj := nIc (show j < 2 ^ 31 by omega)
  rcases Classical.em (V (12 + k) = 0 ∨ V (12 + j) = 0) with e_2 | e_2
  · have hq := g_reqB (l := l) (G := G) (n := n) h0 hst hS hB (nI k) (nI j)
    rw [if_pos e_1, nk, nj, if_pos e_2] at hq
    refine aw_cX (as := [Value.int (nI k), Value.int (nI j)]) (rest := []) (MV.c mV_X10_requireBothSwinging) hq ml_X10_187 (RC.w h0 rfl) dX10_meeting_3 rfl rfl (by decide) (Nat.le_of_ble_eq_true rfl) (by decide) rfl (HQ.of ?_)
    have hm : qMeet V (nI k) (nI j) = (2, 0) := by unfold qMeet; rw [if_pos e_1, nk, nj, if_pos e_2]
    rw [hm]; rfl
  have hq := g_reqB (l := l) (G := G) (n := n) h0 hst hS hB (nI k) (nI j)
  rw [if_pos e_1, nk, nj, if_neg e_2] at hq
  refine aw_cV (as := [Value.int (nI k), Value.int (nI j)]) (rest := []) (MV.c mV_X10_requireBothSwinging) (HQ.v hq) ml_X10_187 (RC.w h0 rfl) dX10_meeting_3 rfl rfl (by decide) (Nat.le_of_ble_eq_true rfl) (by decide) ?_
  refine aw_aload_n dX10_meeting_6 rfl rfl ?_
  refine aw_get (v := .ref (x + 1)) fl_X10_10 (h0) rfl dX10_meeting_7 ?_
  refine aw_iload_n dX10_meeting_10 rfl rfl ?_
  refine aw_iload_n dX10_meeting_11 rfl rfl ?_
  have hq_m := s_tbt (l := l) (G := G) (n := n) (f := H) (o := x + 1) hS hB hk hj
  rw [hst.self] at hq_m
  refine aw_sI (as := [Value.ref (x + 1), Value.int (nI k), Value.int (nI j)]) (rest := []) mS_X3_tickByTick hq_m ml_X10_191 dX10_meeting_12 rfl rfl (by decide) (Nat.le_of_ble_eq_true rfl) (by decide) ?_
  have hr : ∀ t, mtV V k j = some t → t < 2 ^ 30 := fun t h9 => by
    have h8 := mtF_lt _ _ _ h9
    have h7 := cy_le (p := perN (V (4 + k))) (q := perN (V (4 + j))) (per_le (hB.len (k := k) (by omega))) (per_le (hB.len (k := j) (by omega)))
    have h6 := hB.now
    have h5 := hB.kk
    omega
  cases em : mtV V k j with
  | none =>
    have hq := g_reqM (l := l) (G := G) (n := n) (H := H) (r := none) (fun t h => by cases h)
    refine aw_sX (as := [Value.int (mtI none)]) (rest := []) mS_X10_requireMeeting hq ml_X10_196 dX10_meeting_15 rfl rfl (by decide) (Nat.le_of_ble_eq_true rfl) (by decide) rfl (HQ.of ?_)
    have hm : qMeet V (nI k) (nI j) = (3, 0) := by unfold qMeet; rw [if_pos e_1, nk, nj, if_neg e_2, em]
    rw [hm]; rfl
  | some t =>
    have hq := g_reqM (l := l) (G := G) (n := n) (H := H) (r := some t) (fun t9 h => by cases h; exact hr t em)
    refine aw_sI (as := [Value.int (mtI (some t))]) (rest := []) mS_X10_requireMeeting hq ml_X10_196 dX10_meeting_15 rfl rfl (by decide) (Nat.le_of_ble_eq_true rfl) (by decide) ?_
    refine aw_iret rfl (by decide) (by decide) dX10_meeting_18 (HQ.of ?_)
    have hm : qMeet V (nI k) (nI j) = (0, t) := by unfold qMeet; rw [if_pos e_1, nk, nj, if_neg e_2, em]
    rw [hm]; rfl
abbrev MX10_meetingByDivisors : MT := (RX10, cX10_meetingByDivisors, 3, (some .int), [], "meetingByDivisors")
set_option maxHeartbeats 4000000 in
theorem g_meetingByDivisors {l : Launch} {G : GT} {n : Nat} {H : HT} {x : Nat} {J : Nat → Int32} {B : Nat → Nat → Int32} {K : Nat} {V : Nat → Nat} {sv : Bool} {e1 e2 : Int32} (h0 : H x = gC x sv e1 e2) (hst : sAt H (x + 1) J B) (hS : SV J B V) (hB : VB K V) (v u : Int32) : AM l G yX10_meetingByDivisors (.code yX10_meetingByDivisors cX10_meetingByDivisors 3 (some .int)) 10 600 8 48 [.ref x, .int v, .int u] (H) n (GQ9 [eIO, eIS, eNS] (qMeet V v u) H n) := by
  refine aw_enter (M := MX10_meetingByDivisors) rfl rfl (by decide +kernel) rfl (Nat.le_of_ble_eq_true rfl) ?_
  have hcn := hB.cnt
  have hlg := hB.legs
  show AW l G MX10_meetingByDivisors 10 600 8 48 _ n 0 0 0 [(0, .ref x), (1, .int v), (2, .int u)] [] _ n
  refine aw_aload_n dX10_meetingByDivisors_0 rfl rfl ?_
  refine aw_iload_n dX10_meetingByDivisors_1 rfl rfl ?_
  refine aw_iload_n dX10_meetingByDivisors_2 rfl rfl ?_
  rcases Classical.em (¬ (isK v (V 2) = true ∧ isK u (V 2) = true)) with e_1 | e_1
  · have hq := g_reqB (l := l) (G := G) (n := n) h0 hst hS hB v u
    rw [if_neg e_1] at hq
    refine aw_cX (as := [Value.int v, Value.int u]) (rest := []) (MV.c mV_X10_requireBothSwinging) hq ml_X10_187 (RC.w h0 rfl) dX10_meetingByDivisors_3 rfl rfl (by decide) (Nat.le_of_ble_eq_true rfl) (by decide) rfl (HQ.of ?_)
    have hm : qMeet V v u = (1, 0) := if_neg e_1
    rw [hm]; rfl
  have e_1 := Classical.not_not.mp e_1
  obtain ⟨k, hk, rfl⟩ := isK_of (by omega) e_1.1
  obtain ⟨j, hj, rfl⟩ := isK_of (by omega) e_1.2
  have nk := nIc (show k < 2 ^ 31 by omega)
  have nj := nIc (show j < 2 ^ 31 by omega)
  rcases Classical.em (V (12 + k) = 0 ∨ V (12 + j) = 0) with e_2 | e_2
  · have hq := g_reqB (l := l) (G := G) (n := n) h0 hst hS hB (nI k) (nI j)
    rw [if_pos e_1, nk, nj, if_pos e_2] at hq
    refine aw_cX (as := [Value.int (nI k), Value.int (nI j)]) (rest := []) (MV.c mV_X10_requireBothSwinging) hq ml_X10_187 (RC.w h0 rfl) dX10_meetingByDivisors_3 rfl rfl (by decide) (Nat.le_of_ble_eq_true rfl) (by decide) rfl (HQ.of ?_)
    have hm : qMeet V (nI k) (nI j) = (2, 0) := by unfold qMeet; rw [if_pos e_1, nk, nj, if_pos e_2]
    rw [hm]; rfl
  have hq := g_reqB (l := l) (G := G) (n := n) h0 hst hS hB (nI k) (nI j)
  rw [if_pos e_1, nk, nj, if_neg e_2] at hq
  refine aw_cV (as := [Value.int (nI k), Value.int (nI j)]) (rest := []) (MV.c mV_X10_requireBothSwinging) (HQ.v hq) ml_X10_187 (RC.w h0 rfl) dX10_meetingByDivisors_3 rfl rfl (by decide) (Nat.le_of_ble_eq_true rfl) (by decide) ?_
  refine aw_aload_n dX10_meetingByDivisors_6 rfl rfl ?_
  refine aw_get (v := .ref (x + 1)) fl_X10_10 (h0) rfl dX10_meetingByDivisors_7 ?_
  refine aw_iload_n dX10_meetingByDivisors_10 rfl rfl ?_
  refine aw_iload_n dX10_meetingByDivisors_11 rfl rfl ?_
  have hq_m := s_byd (l := l) (G := G) (n := n) (f := H) (o := x + 1) hS hB hk hj
  rw [hst.self] at hq_m
  refine aw_sI (as := [Value.ref (x + 1), Value.int (nI k), Value.int (nI j)]) (rest := []) mS_X3_byDivisors hq_m ml_X10_199 dX10_meetingByDivisors_12 rfl rfl (by decide) (Nat.le_of_ble_eq_true rfl) (by decide) ?_
  have hr : ∀ t, mtV V k j = some t → t < 2 ^ 30 := fun t h9 => by
    have h8 := mtF_lt _ _ _ h9
    have h7 := cy_le (p := perN (V (4 + k))) (q := perN (V (4 + j))) (per_le (hB.len (k := k) (by omega))) (per_le (hB.len (k := j) (by omega)))
    have h6 := hB.now
    have h5 := hB.kk
    omega
  cases em : mtV V k j with
  | none =>
    have hq := g_reqM (l := l) (G := G) (n := n) (H := H) (r := none) (fun t h => by cases h)
    refine aw_sX (as := [Value.int (mtI none)]) (rest := []) mS_X10_requireMeeting hq ml_X10_196 dX10_meetingByDivisors_15 rfl rfl (by decide) (Nat.le_of_ble_eq_true rfl) (by decide) rfl (HQ.of ?_)
    have hm : qMeet V (nI k) (nI j) = (3, 0) := by unfold qMeet; rw [if_pos e_1, nk, nj, if_neg e_2, em]
    rw [hm]; rfl
  | some t =>
    have hq := g_reqM (l := l) (G := G) (n := n) (H := H) (r := some t) (fun t9 h => by cases h; exact hr t em)
    refine aw_sI (as := [Value.int (mtI (some t))]) (rest := []) mS_X10_requireMeeting hq ml_X10_196 dX10_meetingByDivisors_15 rfl rfl (by decide) (Nat.le_of_ble_eq_true rfl) (by decide) ?_
    refine aw_iret rfl (by decide) (by decide) dX10_meetingByDivisors_18 (HQ.of ?_)
    have hm : qMeet V (nI k) (nI j) = (0, t) := by unfold qMeet; rw [if_pos e_1, nk, nj, if_neg e_2, em]
    rw [hm]; rfl
abbrev MX10_meetingPairs : MT := (RX10, cX10_meetingPairs, 1, (some .int), [], "meetingPairs")
set_option maxHeartbeats 4000000 in
theorem g_meetingPairs {l : Launch} {G : GT} {n : Nat} {H : HT} {x : Nat} {J : Nat → Int32} {B : Nat → Nat → Int32} {K : Nat} {V : Nat → Nat} {sv : Bool} {e1 e2 : Int32} (h0 : H x = gC x sv e1 e2) (hst : sAt H (x + 1) J B) (hS : SV J B V) (hB : VB K V)  : AM l G yX10_meetingPairs (.code yX10_meetingPairs cX10_meetingPairs 1 (some .int)) 10 600 4 24 [.ref x] (H) n (GQ9 [] ((0, prO V (V 2))) H n) := by
  refine aw_enter (M := MX10_meetingPairs) rfl rfl (by decide +kernel) rfl (Nat.le_of_ble_eq_true rfl) ?_
  have hcn := hB.cnt
  have hlg := hB.legs
  show AW l G MX10_meetingPairs 10 600 4 24 _ n 0 0 0 [(0, .ref x)] [] _ n
  refine aw_aload_n dX10_meetingPairs_0 rfl rfl ?_
  refine aw_get (v := .ref (x + 1)) fl_X10_10 (h0) rfl dX10_meetingPairs_1 ?_
  have hq := s_pairs (l := l) (G := G) (n := n) (f := H) (o := x + 1) hS hB
  rw [hst.self] at hq
  refine aw_sI (as := [Value.ref (x + 1)]) (rest := []) mS_X3_pairs hq ml_X10_202 dX10_meetingPairs_4 rfl rfl (by decide) (Nat.le_of_ble_eq_true rfl) (by decide) ?_
  refine aw_iret rfl (by decide) (by decide) dX10_meetingPairs_7 (HQ.of ?_)
  rfl
abbrev MX10_cycleOf : MT := (RX10, cX10_cycleOf, 3, (some .int), [], "cycleOf")
set_option maxHeartbeats 4000000 in
theorem g_cycleOf {l : Launch} {G : GT} {n : Nat} {H : HT} {x : Nat} {J : Nat → Int32} {B : Nat → Nat → Int32} {K : Nat} {V : Nat → Nat} {sv : Bool} {e1 e2 : Int32} (h0 : H x = gC x sv e1 e2) (hst : sAt H (x + 1) J B) (hS : SV J B V) (hB : VB K V) (v u : Int32) : AM l G yX10_cycleOf (.code yX10_cycleOf cX10_cycleOf 3 (some .int)) 10 600 4 24 [.ref x, .int v, .int u] (H) n (GQ9 [eIO] (qCycle V v u) H n) := by
  refine aw_enter (M := MX10_cycleOf) rfl rfl (by decide +kernel) rfl (Nat.le_of_ble_eq_true rfl) ?_
  have hcn := hB.cnt
  have hlg := hB.legs
  show AW l G MX10_cycleOf 10 600 4 24 _ n 0 0 0 [(0, .ref x), (1, .int v), (2, .int u)] [] _ n
  refine aw_aload_n dX10_cycleOf_0 rfl rfl ?_
  refine aw_iload_n dX10_cycleOf_1 rfl rfl ?_
  rcases Classical.em (¬ (isK v (V 2) = true)) with e_1 | e_1
  · have hq := g_reqP (l := l) (G := G) (n := n) h0 hst hS hB v
    rw [if_neg e_1] at hq
    refine aw_cX (as := [Value.int v]) (rest := []) (MV.c mV_X10_requirePendulum) hq ml_X10_111 (RC.w h0 rfl) dX10_cycleOf_2 rfl rfl (by decide) (Nat.le_of_ble_eq_true rfl) (by decide) rfl (HQ.of ?_)
    simp [xA, qCycle, e_1]
  have e_1 := Classical.not_not.mp e_1
  have hq := g_reqP (l := l) (G := G) (n := n) h0 hst hS hB v
  rw [if_pos e_1] at hq
  refine aw_cV (as := [Value.int v]) (rest := []) (MV.c mV_X10_requirePendulum) (HQ.v hq) ml_X10_111 (RC.w h0 rfl) dX10_cycleOf_2 rfl rfl (by decide) (Nat.le_of_ble_eq_true rfl) (by decide) ?_
  obtain ⟨k, hk, rfl⟩ := isK_of (by omega) e_1
  have nk := nIc (show k < 2 ^ 31 by omega)
  refine aw_aload_n dX10_cycleOf_5 rfl rfl ?_
  refine aw_iload_n dX10_cycleOf_6 rfl rfl ?_
  rcases Classical.em (¬ (isK u (V 2) = true)) with e_2 | e_2
  · have hq := g_reqP (l := l) (G := G) (n := n) h0 hst hS hB u
    rw [if_neg e_2] at hq
    refine aw_cX (as := [Value.int u]) (rest := []) (MV.c mV_X10_requirePendulum) hq ml_X10_111 (RC.w h0 rfl) dX10_cycleOf_7 rfl rfl (by decide) (Nat.le_of_ble_eq_true rfl) (by decide) rfl (HQ.of ?_)
    simp [xA, qCycle, e_2]
  have e_2 := Classical.not_not.mp e_2
  have hq := g_reqP (l := l) (G := G) (n := n) h0 hst hS hB u
  rw [if_pos e_2] at hq
  refine aw_cV (as := [Value.int u]) (rest := []) (MV.c mV_X10_requirePendulum) (HQ.v hq) ml_X10_111 (RC.w h0 rfl) dX10_cycleOf_7 rfl rfl (by decide) (Nat.le_of_ble_eq_true rfl) (by decide) ?_
  obtain ⟨j, hj, rfl⟩ := isK_of (by omega) e_2
  have nj := nIc (show j < 2 ^ 31 by omega)
  refine aw_aload_n dX10_cycleOf_10 rfl rfl ?_
  refine aw_get (v := .ref (x + 1)) fl_X10_10 (h0) rfl dX10_cycleOf_11 ?_
  refine aw_iload_n dX10_cycleOf_14 rfl rfl ?_
  have hq_15 := s_per (l := l) (G := G) (n := n) (f := H) (o := x + 1) hS hB hk
  rw [hst.self] at hq_15
  refine aw_cI (as := [Value.int (nI k)]) (rest := []) (MV.c mV_X8_periodAt) hq_15 ml_X10_129 (RC.w hst.obj rfl) dX10_cycleOf_15 rfl rfl (by decide) (Nat.le_of_ble_eq_true rfl) (by decide) ?_
  refine aw_aload_n dX10_cycleOf_18 rfl rfl ?_
  refine aw_get (v := .ref (x + 1)) fl_X10_10 (h0) rfl dX10_cycleOf_19 ?_
  refine aw_iload_n dX10_cycleOf_22 rfl rfl ?_
  have hq_23 := s_per (l := l) (G := G) (n := n) (f := H) (o := x + 1) hS hB hj
  rw [hst.self] at hq_23
  refine aw_cI (as := [Value.int (nI j)]) (rest := [Value.int (nI (perN (V (4 + k))))]) (MV.c mV_X8_periodAt) hq_23 ml_X10_129 (RC.w hst.obj rfl) dX10_cycleOf_23 rfl rfl (by decide) (Nat.le_of_ble_eq_true rfl) (by decide) ?_
  refine aw_sI (as := [Value.int (nI (perN (V (4 + k)))), Value.int (nI (perN (V (4 + j))))]) (rest := []) mS_X4_leastMultiple (n_lcm (per_le (hB.len (k := k) (by omega))) (per_le (hB.len (k := j) (by omega)))) ml_X10_206 dX10_cycleOf_26 rfl rfl (by decide) (Nat.le_of_ble_eq_true rfl) (by decide) ?_
  refine aw_iret rfl (by decide) (by decide) dX10_cycleOf_29 (HQ.of ?_)
  simp [xA, qCycle, e_1, e_2, nk, nj]
