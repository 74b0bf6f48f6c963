abbrev MX10_pendulumCount : MT := (RX10, cX10_pendulumCount, 1, (some .int), [], "pendulumCount")
set_option maxHeartbeats 4000000 in
theorem g_pendulumCount {l : Launch} {G : GT} {n : Nat} {H : HT} {x : Nat} {J : Nat → Int32} {B : Nat → Nat → Int32} {K : Nat} {V : Nat → Nat} {sv : Bool} {e1 e2 : Int32} (h0 : H x = gC x sv e1 e2) (hst : sAt H (x + 1) J B) (hS : SV J B V) (hB : VB K V)  : AM l G yX10_pendulumCount (.code yX10_pendulumCount cX10_pendulumCount 1 (some .int)) 10 600 4 24 [.ref x] (H) n (GQ9 [] ((0, V 2)) H n) := by
  refine aw_enter (M := MX10_pendulumCount) rfl rfl (by decide +kernel) rfl (Nat.le_of_ble_eq_true rfl) ?_
  have hcn := hB.cnt
  have hlg := hB.legs
  show AW l G MX10_pendulumCount 10 600 4 24 _ n 0 0 0 [(0, .ref x)] [] _ n
  refine aw_aload_n dX10_pendulumCount_0 rfl rfl ?_
  refine aw_get (v := .ref (x + 1)) fl_X10_10 (h0) rfl dX10_pendulumCount_1 ?_
  refine aw_get (v := .int (J 8)) fl_X10_108 hst.obj rfl dX10_pendulumCount_4 ?_
  rw [hS.cnt]
  refine aw_iret rfl (by decide) (by decide) dX10_pendulumCount_7 (HQ.of ?_)
  rfl
abbrev MX10_clock : MT := (RX10, cX10_clock, 1, (some .int), [], "clock")
set_option maxHeartbeats 4000000 in
theorem g_clock {l : Launch} {G : GT} {n : Nat} {H : HT} {x : Nat} {J : Nat → Int32} {B : Nat → Nat → Int32} {K : Nat} {V : Nat → Nat} {sv : Bool} {e1 e2 : Int32} (h0 : H x = gC x sv e1 e2) (hst : sAt H (x + 1) J B) (hS : SV J B V) (hB : VB K V)  : AM l G yX10_clock (.code yX10_clock cX10_clock 1 (some .int)) 10 600 4 24 [.ref x] (H) n (GQ9 [] ((0, V 0)) H n) := by
  refine aw_enter (M := MX10_clock) rfl rfl (by decide +kernel) rfl (Nat.le_of_ble_eq_true rfl) ?_
  have hcn := hB.cnt
  have hlg := hB.legs
  show AW l G MX10_clock 10 600 4 24 _ n 0 0 0 [(0, .ref x)] [] _ n
  refine aw_aload_n dX10_clock_0 rfl rfl ?_
  refine aw_get (v := .ref (x + 1)) fl_X10_10 (h0) rfl dX10_clock_1 ?_
  refine aw_get (v := .int (J 10)) fl_X10_143 hst.obj rfl dX10_clock_4 ?_
  rw [hS.now]
  refine aw_iret rfl (by decide) (by decide) dX10_clock_7 (HQ.of ?_)
  rfl
abbrev MX10_friction : MT := (RX10, cX10_friction, 1, (some .int), [], "friction")
set_option maxHeartbeats 4000000 in
theorem g_friction {l : Launch} {G : GT} {n : Nat} {H : HT} {x : Nat} {J : Nat → Int32} {B : Nat → Nat → Int32} {K : Nat} {V : Nat → Nat} {sv : Bool} {e1 e2 : Int32} (h0 : H x = gC x sv e1 e2) (hst : sAt H (x + 1) J B) (hS : SV J B V) (hB : VB K V)  : AM l G yX10_friction (.code yX10_friction cX10_friction 1 (some .int)) 10 600 4 24 [.ref x] (H) n (GQ9 [] ((0, V 1)) H n) := by
  refine aw_enter (M := MX10_friction) rfl rfl (by decide +kernel) rfl (Nat.le_of_ble_eq_true rfl) ?_
  have hcn := hB.cnt
  have hlg := hB.legs
  show AW l G MX10_friction 10 600 4 24 _ n 0 0 0 [(0, .ref x)] [] _ n
  refine aw_aload_n dX10_friction_0 rfl rfl ?_
  refine aw_get (v := .ref (x + 1)) fl_X10_10 (h0) rfl dX10_friction_1 ?_
  refine aw_get (v := .int (J 11)) fl_X10_146 hst.obj rfl dX10_friction_4 ?_
  rw [hS.fric]
  refine aw_iret rfl (by decide) (by decide) dX10_friction_7 (HQ.of ?_)
  rfl
abbrev MX10_legCount : MT := (RX10, cX10_legCount, 1, (some .int), [], "legCount")
set_option maxHeartbeats 4000000 in
theorem g_legCount {l : Launch} {G : GT} {n : Nat} {H : HT} {x : Nat} {J : Nat → Int32} {B : Nat → Nat → Int32} {K : Nat} {V : Nat → Nat} {sv : Bool} {e1 e2 : Int32} (h0 : H x = gC x sv e1 e2) (hst : sAt H (x + 1) J B) (hS : SV J B V) (hB : VB K V)  : AM l G yX10_legCount (.code yX10_legCount cX10_legCount 1 (some .int)) 10 600 4 24 [.ref x] (H) n (GQ9 [] ((0, V 3)) H n) := by
  refine aw_enter (M := MX10_legCount) rfl rfl (by decide +kernel) rfl (Nat.le_of_ble_eq_true rfl) ?_
  have hcn := hB.cnt
  have hlg := hB.legs
  show AW l G MX10_legCount 10 600 4 24 _ n 0 0 0 [(0, .ref x)] [] _ n
  refine aw_aload_n dX10_legCount_0 rfl rfl ?_
  refine aw_get (v := .ref (x + 1)) fl_X10_10 (h0) rfl dX10_legCount_1 ?_
  refine aw_get (v := .int (J 9)) fl_X10_221 hst.obj rfl dX10_legCount_4 ?_
  rw [hS.leg]
  refine aw_iret rfl (by decide) (by decide) dX10_legCount_7 (HQ.of ?_)
  rfl
abbrev MX10_lengthOf : MT := (RX10, cX10_lengthOf, 2, (some .int), [], "lengthOf")
set_option maxHeartbeats 4000000 in
theorem g_lengthOf {l : Launch} {G : GT} {n : Nat} {H : HT} {x : Nat} {J : Nat → Int32} {B : Nat → Nat → Int32} {K : Nat} {V : Nat → Nat} {sv : Bool} {e1 e2 : Int32} (h0 : H x = gC x sv e1 e2) (hst : sAt H (x + 1) J B) (hS : SV J B V) (hB : VB K V) (v : Int32) : AM l G yX10_lengthOf (.code yX10_lengthOf cX10_lengthOf 2 (some .int)) 10 600 4 24 [.ref x, .int v] (H) n (GQ9 [eIO] (qNum V 4 v) H n) := by
  refine aw_enter (M := MX10_lengthOf) rfl rfl (by decide +kernel) rfl (Nat.le_of_ble_eq_true rfl) ?_
  have hcn := hB.cnt
  have hlg := hB.legs
  show AW l G MX10_lengthOf 10 600 4 24 _ n 0 0 0 [(0, .ref x), (1, .int v)] [] _ n
  refine aw_aload_n dX10_lengthOf_0 rfl rfl ?_
  refine aw_iload_n dX10_lengthOf_1 rfl rfl ?_
  rcases Classical.em (¬ (isK v (V 2) = true)) with e_1 | e_1
  · have hq := g_reqP (l := l) (G := G) (n := n) h0 hst hS hB v
    rw [if_neg e_1] at hq
    refine aw_cX (as := [Value.int v]) (rest := []) (MV.c mV_X10_requirePendulum) hq ml_X10_111 (RC.w h0 rfl) dX10_lengthOf_2 rfl rfl (by decide) (Nat.le_of_ble_eq_true rfl) (by decide) rfl (HQ.of ?_)
    simp [xA, qNum, e_1]
  have e_1 := Classical.not_not.mp e_1
  have hq := g_reqP (l := l) (G := G) (n := n) h0 hst hS hB v
  rw [if_pos e_1] at hq
  refine aw_cV (as := [Value.int v]) (rest := []) (MV.c mV_X10_requirePendulum) (HQ.v hq) ml_X10_111 (RC.w h0 rfl) dX10_lengthOf_2 rfl rfl (by decide) (Nat.le_of_ble_eq_true rfl) (by decide) ?_
  obtain ⟨k, hk, rfl⟩ := isK_of (by omega) e_1
  have nk := nIc (show k < 2 ^ 31 by omega)
  refine aw_aload_n dX10_lengthOf_5 rfl rfl ?_
  refine aw_get (v := .ref (x + 1)) fl_X10_10 (h0) rfl dX10_lengthOf_6 ?_
  refine aw_iload_n dX10_lengthOf_9 rfl rfl ?_
  have hq_10 := s_len (l := l) (G := G) (n := n) (f := H) (o := x + 1) hS hB hk
  rw [hst.self] at hq_10
  refine aw_cI (as := [Value.int (nI k)]) (rest := []) (MV.c mV_X8_lengthAt) hq_10 ml_X10_114 (RC.w hst.obj rfl) dX10_lengthOf_10 rfl rfl (by decide) (Nat.le_of_ble_eq_true rfl) (by decide) ?_
  refine aw_iret rfl (by decide) (by decide) dX10_lengthOf_13 (HQ.of ?_)
  simp [xA, qNum, e_1, nk]
abbrev MX10_classOf : MT := (RX10, cX10_classOf, 2, (some .int), [], "classOf")
set_option maxHeartbeats 4000000 in
theorem g_classOf {l : Launch} {G : GT} {n : Nat} {H : HT} {x : Nat} {J : Nat → Int32} {B : Nat → Nat → Int32} {K : Nat} {V : Nat → Nat} {sv : Bool} {e1 e2 : Int32} (h0 : H x = gC x sv e1 e2) (hst : sAt H (x + 1) J B) (hS : SV J B V) (hB : VB K V) (v : Int32) : AM l G yX10_classOf (.code yX10_classOf cX10_classOf 2 (some .int)) 10 600 4 24 [.ref x, .int v] (H) n (GQ9 [eIO] (qClass V v) H n) := by
  refine aw_enter (M := MX10_classOf) rfl rfl (by decide +kernel) rfl (Nat.le_of_ble_eq_true rfl) ?_
  have hcn := hB.cnt
  have hlg := hB.legs
  show AW l G MX10_classOf 10 600 4 24 _ n 0 0 0 [(0, .ref x), (1, .int v)] [] _ n
  refine aw_aload_n dX10_classOf_0 rfl rfl ?_
  refine aw_iload_n dX10_classOf_1 rfl rfl ?_
  rcases Classical.em (¬ (isK v (V 2) = true)) with e_1 | e_1
  · have hq := g_reqP (l := l) (G := G) (n := n) h0 hst hS hB v
    rw [if_neg e_1] at hq
    refine aw_cX (as := [Value.int v]) (rest := []) (MV.c mV_X10_requirePendulum) hq ml_X10_111 (RC.w h0 rfl) dX10_classOf_2 rfl rfl (by decide) (Nat.le_of_ble_eq_true rfl) (by decide) rfl (HQ.of ?_)
    simp [xA, qClass, e_1]
  have e_1 := Classical.not_not.mp e_1
  have hq := g_reqP (l := l) (G := G) (n := n) h0 hst hS hB v
  rw [if_pos e_1] at hq
  refine aw_cV (as := [Value.int v]) (rest := []) (MV.c mV_X10_requirePendulum) (HQ.v hq) ml_X10_111 (RC.w h0 rfl) dX10_classOf_2 rfl rfl (by decide) (Nat.le_of_ble_eq_true rfl) (by decide) ?_
  obtain ⟨k, hk, rfl⟩ := isK_of (by omega) e_1
  have nk := nIc (show k < 2 ^ 31 by omega)
  refine aw_aload_n dX10_classOf_5 rfl rfl ?_
  refine aw_get (v := .ref (x + 1)) fl_X10_10 (h0) rfl dX10_classOf_6 ?_
  refine aw_iload_n dX10_classOf_9 rfl rfl ?_
  have hq_10 := s_kind (l := l) (G := G) (n := n) (f := H) (o := x + 1) hS hB hk
  rw [hst.self] at hq_10
  refine aw_cI (as := [Value.int (nI k)]) (rest := []) (MV.c mV_X8_kindOf) hq_10 ml_X10_117 (RC.w hst.obj rfl) dX10_classOf_10 rfl rfl (by decide) (Nat.le_of_ble_eq_true rfl) (by decide) ?_
  refine aw_iret rfl (by decide) (by decide) dX10_classOf_13 (HQ.of ?_)
  simp [xA, qClass, e_1, nk]
abbrev MX10_amplitudeOf : MT := (RX10, cX10_amplitudeOf, 2, (some .int), [], "amplitudeOf")
set_option maxHeartbeats 4000000 in
theorem g_amplitudeOf {l : Launch} {G : GT} {n : Nat} {H : HT} {x : Nat} {J : Nat → Int32} {B : Nat → Nat → Int32} {K : Nat} {V : Nat → Nat} {sv : Bool} {e1 e2 : Int32} (h0 : H x = gC x sv e1 e2) (hst : sAt H (x + 1) J B) (hS : SV J B V) (hB : VB K V) (v : Int32) : AM l G yX10_amplitudeOf (.code yX10_amplitudeOf cX10_amplitudeOf 2 (some .int)) 10 600 4 24 [.ref x, .int v] (H) n (GQ9 [eIO] (qNum V 12 v) H n) := by
  refine aw_enter (M := MX10_amplitudeOf) rfl rfl (by decide +kernel) rfl (Nat.le_of_ble_eq_true rfl) ?_
  have hcn := hB.cnt
  have hlg := hB.legs
  show AW l G MX10_amplitudeOf 10 600 4 24 _ n 0 0 0 [(0, .ref x), (1, .int v)] [] _ n
  refine aw_aload_n dX10_amplitudeOf_0 rfl rfl ?_
  refine aw_iload_n dX10_amplitudeOf_1 rfl rfl ?_
  rcases Classical.em (¬ (isK v (V 2) = true)) with e_1 | e_1
  · have hq := g_reqP (l := l) (G := G) (n := n) h0 hst hS hB v
    rw [if_neg e_1] at hq
    refine aw_cX (as := [Value.int v]) (rest := []) (MV.c mV_X10_requirePendulum) hq ml_X10_111 (RC.w h0 rfl) dX10_amplitudeOf_2 rfl rfl (by decide) (Nat.le_of_ble_eq_true rfl) (by decide) rfl (HQ.of ?_)
    simp [xA, qNum, e_1]
  have e_1 := Classical.not_not.mp e_1
  have hq := g_reqP (l := l) (G := G) (n := n) h0 hst hS hB v
  rw [if_pos e_1] at hq
  refine aw_cV (as := [Value.int v]) (rest := []) (MV.c mV_X10_requirePendulum) (HQ.v hq) ml_X10_111 (RC.w h0 rfl) dX10_amplitudeOf_2 rfl rfl (by decide) (Nat.le_of_ble_eq_true rfl) (by decide) ?_
  obtain ⟨k, hk, rfl⟩ := isK_of (by omega) e_1
  have nk := nIc (show k < 2 ^ 31 by omega)
  refine aw_aload_n dX10_amplitudeOf_5 rfl rfl ?_
  refine aw_get (v := .ref (x + 1)) fl_X10_10 (h0) rfl dX10_amplitudeOf_6 ?_
  refine aw_iload_n dX10_amplitudeOf_9 rfl rfl ?_
  have hq_10 := s_amp (l := l) (G := G) (n := n) (f := H) (o := x + 1) hS hB hk
  rw [hst.self] at hq_10
  refine aw_cI (as := [Value.int (nI k)]) (rest := []) (MV.c mV_X8_amplitudeAt) hq_10 ml_X10_120 (RC.w hst.obj rfl) dX10_amplitudeOf_10 rfl rfl (by decide) (Nat.le_of_ble_eq_true rfl) (by decide) ?_
  refine aw_iret rfl (by decide) (by decide) dX10_amplitudeOf_13 (HQ.of ?_)
  simp [xA, qNum, e_1, nk]
abbrev MX10_periodOf : MT := (RX10, cX10_periodOf, 2, (some .int), [], "periodOf")
set_option maxHeartbeats 4000000 in
theorem g_periodOf {l : Launch} {G : GT} {n : Nat} {H : HT} {x : Nat} {J : Nat → Int32} {B : Nat → Nat → Int32} {K : Nat} {V : Nat → Nat} {sv : Bool} {e1 e2 : Int32} (h0 : H x = gC x sv e1 e2) (hst : sAt H (x + 1) J B) (hS : SV J B V) (hB : VB K V) (v : Int32) : AM l G yX10_periodOf (.code yX10_periodOf cX10_periodOf 2 (some .int)) 10 600 4 24 [.ref x, .int v] (H) n (GQ9 [eIO] (qPeriod V v) H n) := by
  refine aw_enter (M := MX10_periodOf) rfl rfl (by decide +kernel) rfl (Nat.le_of_ble_eq_true rfl) ?_
  have hcn := hB.cnt
  have hlg := hB.legs
  show AW l G MX10_periodOf 10 600 4 24 _ n 0 0 0 [(0, .ref x), (1, .int v)] [] _ n
  refine aw_aload_n dX10_periodOf_0 rfl rfl ?_
  refine aw_iload_n dX10_periodOf_1 rfl rfl ?_
  rcases Classical.em (¬ (isK v (V 2) = true)) with e_1 | e_1
  · have hq := g_reqP (l := l) (G := G) (n := n) h0 hst hS hB v
    rw [if_neg e_1] at hq
    refine aw_cX (as := [Value.int v]) (rest := []) (MV.c mV_X10_requirePendulum) hq ml_X10_111 (RC.w h0 rfl) dX10_periodOf_2 rfl rfl (by decide) (Nat.le_of_ble_eq_true rfl) (by decide) rfl (HQ.of ?_)
    simp [xA, qPeriod, e_1]
  have e_1 := Classical.not_not.mp e_1
  have hq := g_reqP (l := l) (G := G) (n := n) h0 hst hS hB v
  rw [if_pos e_1] at hq
  refine aw_cV (as := [Value.int v]) (rest := []) (MV.c mV_X10_requirePendulum) (HQ.v hq) ml_X10_111 (RC.w h0 rfl) dX10_periodOf_2 rfl rfl (by decide) (Nat.le_of_ble_eq_true rfl) (by decide) ?_
  obtain ⟨k, hk, rfl⟩ := isK_of (by omega) e_1
  have nk := nIc (show k < 2 ^ 31 by omega)
  refine aw_aload_n dX10_periodOf_5 rfl rfl ?_
  refine aw_get (v := .ref (x + 1)) fl_X10_10 (h0) rfl dX10_periodOf_6 ?_
  refine aw_iload_n dX10_periodOf_9 rfl rfl ?_
  have hq_10 := s_per (l := l) (G := G) (n := n) (f := H) (o := x + 1) hS hB hk
  rw [hst.self] at hq_10
  refine aw_cI (as := [Value.int (nI k)]) (rest := []) (MV.c mV_X8_periodAt) hq_10 ml_X10_129 (RC.w hst.obj rfl) dX10_periodOf_10 rfl rfl (by decide) (Nat.le_of_ble_eq_true rfl) (by decide) ?_
  refine aw_iret rfl (by decide) (by decide) dX10_periodOf_13 (HQ.of ?_)
  simp [xA, qPeriod, e_1, nk]
abbrev MX10_swingsOf : MT := (RX10, cX10_swingsOf, 2, (some .int), [], "swingsOf")
set_option maxHeartbeats 4000000 in
theorem g_swingsOf {l : Launch} {G : GT} {n : Nat} {H : HT} {x : Nat} {J : Nat → Int32} {B : Nat → Nat → Int32} {K : Nat} {V : Nat → Nat} {sv : Bool} {e1 e2 : Int32} (h0 : H x = gC x sv e1 e2) (hst : sAt H (x + 1) J B) (hS : SV J B V) (hB : VB K V) (v : Int32) : AM l G yX10_swingsOf (.code yX10_swingsOf cX10_swingsOf 2 (some .int)) 10 600 4 24 [.ref x, .int v] (H) n (GQ9 [eIO] (qNum V 28 v) H n) := by
  refine aw_enter (M := MX10_swingsOf) rfl rfl (by decide +kernel) rfl (Nat.le_of_ble_eq_true rfl) ?_
  have hcn := hB.cnt
  have hlg := hB.legs
  show AW l G MX10_swingsOf 10 600 4 24 _ n 0 0 0 [(0, .ref x), (1, .int v)] [] _ n
  refine aw_aload_n dX10_swingsOf_0 rfl rfl ?_
  refine aw_iload_n dX10_swingsOf_1 rfl rfl ?_
  rcases Classical.em (¬ (isK v (V 2) = true)) with e_1 | e_1
  · have hq := g_reqP (l := l) (G := G) (n := n) h0 hst hS hB v
    rw [if_neg e_1] at hq
    refine aw_cX (as := [Value.int v]) (rest := []) (MV.c mV_X10_requirePendulum) hq ml_X10_111 (RC.w h0 rfl) dX10_swingsOf_2 rfl rfl (by decide) (Nat.le_of_ble_eq_true rfl) (by decide) rfl (HQ.of ?_)
    simp [xA, qNum, e_1]
  have e_1 := Classical.not_not.mp e_1
  have hq := g_reqP (l := l) (G := G) (n := n) h0 hst hS hB v
  rw [if_pos e_1] at hq
  refine aw_cV (as := [Value.int v]) (rest := []) (MV.c mV_X10_requirePendulum) (HQ.v hq) ml_X10_111 (RC.w h0 rfl) dX10_swingsOf_2 rfl rfl (by decide) (Nat.le_of_ble_eq_true rfl) (by decide) ?_
  obtain ⟨k, hk, rfl⟩ := isK_of (by omega) e_1
  have nk := nIc (show k < 2 ^ 31 by omega)
  refine aw_aload_n dX10_swingsOf_5 rfl rfl ?_
  refine aw_get (v := .ref (x + 1)) fl_X10_10 (h0) rfl dX10_swingsOf_6 ?_
  refine aw_iload_n dX10_swingsOf_9 rfl rfl ?_
  have hq_10 := s_sw (l := l) (G := G) (n := n) (f := H) (o := x + 1) hS hB hk
  rw [hst.self] at hq_10
  refine aw_cI (as := [Value.int (nI k)]) (rest := []) (MV.c mV_X8_swingsAt) hq_10 ml_X10_140 (RC.w hst.obj rfl) dX10_swingsOf_10 rfl rfl (by decide) (Nat.le_of_ble_eq_true rfl) (by decide) ?_
  refine aw_iret rfl (by decide) (by decide) dX10_swingsOf_13 (HQ.of ?_)
  simp [xA, qNum, e_1, nk]
abbrev MX10_startOf : MT := (RX10, cX10_startOf, 2, (some .int), [], "startOf")
set_option maxHeartbeats 4000000 in
theorem g_startOf {l : Launch} {G : GT} {n : Nat} {H : HT} {x : Nat} {J : Nat → Int32} {B : Nat → Nat → Int32} {K : Nat} {V : Nat → Nat} {sv : Bool} {e1 e2 : Int32} (h0 : H x = gC x sv e1 e2) (hst : sAt H (x + 1) J B) (hS : SV J B V) (hB : VB K V) (v : Int32) : AM l G yX10_startOf (.code yX10_startOf cX10_startOf 2 (some .int)) 10 600 4 24 [.ref x, .int v] (H) n (GQ9 [eIO, eNS] (qStart V v) H n) := by
  refine aw_enter (M := MX10_startOf) rfl rfl (by decide +kernel) rfl (Nat.le_of_ble_eq_true rfl) ?_
  have hcn := hB.cnt
  have hlg := hB.legs
  show AW l G MX10_startOf 10 600 4 24 _ n 0 0 0 [(0, .ref x), (1, .int v)] [] _ n
  refine aw_aload_n dX10_startOf_0 rfl rfl ?_
  refine aw_iload_n dX10_startOf_1 rfl rfl ?_
  rcases Classical.em (¬ (isK v (V 2) = true)) with e_1 | e_1
  · have hq := g_reqP (l := l) (G := G) (n := n) h0 hst hS hB v
    rw [if_neg e_1] at hq
    refine aw_cX (as := [Value.int v]) (rest := []) (MV.c mV_X10_requirePendulum) hq ml_X10_111 (RC.w h0 rfl) dX10_startOf_2 rfl rfl (by decide) (Nat.le_of_ble_eq_true rfl) (by decide) rfl (HQ.of ?_)
    simp [xA, qStart, e_1]
  have e_1 := Classical.not_not.mp e_1
  have hq := g_reqP (l := l) (G := G) (n := n) h0 hst hS hB v
  rw [if_pos e_1] at hq
  refine aw_cV (as := [Value.int v]) (rest := []) (MV.c mV_X10_requirePendulum) (HQ.v hq) ml_X10_111 (RC.w h0 rfl) dX10_startOf_2 rfl rfl (by decide) (Nat.le_of_ble_eq_true rfl) (by decide) ?_
  obtain ⟨k, hk, rfl⟩ := isK_of (by omega) e_1
  have nk := nIc (show k < 2 ^ 31 by omega)
  refine aw_aload_n dX10_startOf_5 rfl rfl ?_
  refine aw_iload_n dX10_startOf_6 rfl rfl ?_
  rcases Classical.em (¬ (V (12 + k) ≠ 0)) with e_2 | e_2
  · have hq := g_reqS (l := l) (G := G) (n := n) h0 hst hS hB hk
    rw [if_neg e_2] at hq
    refine aw_cX (as := [Value.int (nI k)]) (rest := []) (MV.c mV_X10_requireSwinging) hq ml_X10_123 (RC.w h0 rfl) dX10_startOf_7 rfl rfl (by decide) (Nat.le_of_ble_eq_true rfl) (by decide) rfl (HQ.of ?_)
    simp [xA, qStart, e_1, nk, Classical.not_not.mp e_2]
  have e_2 := Classical.not_not.mp e_2
  have hq := g_reqS (l := l) (G := G) (n := n) h0 hst hS hB hk
  rw [if_pos e_2] at hq
  refine aw_cV (as := [Value.int (nI k)]) (rest := []) (MV.c mV_X10_requireSwinging) (HQ.v hq) ml_X10_123 (RC.w h0 rfl) dX10_startOf_7 rfl rfl (by decide) (Nat.le_of_ble_eq_true rfl) (by decide) ?_
  refine aw_aload_n dX10_startOf_10 rfl rfl ?_
  refine aw_get (v := .ref (x + 1)) fl_X10_10 (h0) rfl dX10_startOf_11 ?_
  refine aw_iload_n dX10_startOf_14 rfl rfl ?_
  have hq_15 := s_start (l := l) (G := G) (n := n) (f := H) (o := x + 1) hS hB hk
  rw [hst.self] at hq_15
  refine aw_cI (as := [Value.int (nI k)]) (rest := []) (MV.c mV_X8_startAt) hq_15 ml_X10_126 (RC.w hst.obj rfl) dX10_startOf_15 rfl rfl (by decide) (Nat.le_of_ble_eq_true rfl) (by decide) ?_
  refine aw_iret rfl (by decide) (by decide) dX10_startOf_18 (HQ.of ?_)
  simp [xA, qStart, e_1, nk, e_2]
abbrev MX10_periodByEstimates : MT := (RX10, cX10_periodByEstimates, 2, (some .int), [], "periodByEstimates")
set_option maxHeartbeats 4000000 in
theorem g_periodByEstimates {l : Launch} {G : GT} {n : Nat} {H : HT} {x : Nat} {J : Nat → Int32} {B : Nat → Nat → Int32} {K : Nat} {V : Nat → Nat} {sv : Bool} {e1 e2 : Int32} (h0 : H x = gC x sv e1 e2) (hst : sAt H (x + 1) J B) (hS : SV J B V) (hB : VB K V) (v : Int32) : AM l G yX10_periodByEstimates (.code yX10_periodByEstimates cX10_periodByEstimates 2 (some .int)) 10 600 4 24 [.ref x, .int v] (H) n (GQ9 [eIO] (qPeriod V v) H n) := by
  refine aw_enter (M := MX10_periodByEstimates) rfl rfl (by decide +kernel) rfl (Nat.le_of_ble_eq_true rfl) ?_
  have hcn := hB.cnt
  have hlg := hB.legs
  show AW l G MX10_periodByEstimates 10 600 4 24 _ n 0 0 0 [(0, .ref x), (1, .int v)] [] _ n
  refine aw_aload_n dX10_periodByEstimates_0 rfl rfl ?_
  refine aw_iload_n dX10_periodByEstimates_1 rfl rfl ?_
  rcases Classical.em (¬ (isK v (V 2) = true)) with e_1 | e_1
  · have hq := g_reqP (l := l) (G := G) (n := n) h0 hst hS hB v
    rw [if_neg e_1] at hq
    refine aw_cX (as := [Value.int v]) (rest := []) (MV.c mV_X10_requirePendulum) hq ml_X10_111 (RC.w h0 rfl) dX10_periodByEstimates_2 rfl rfl (by decide) (Nat.le_of_ble_eq_true rfl) (by decide) rfl (HQ.of ?_)
    simp [xA, qPeriod, e_1]
  have e_1 := Classical.not_not.mp e_1
  have hq := g_reqP (l := l) (G := G) (n := n) h0 hst hS hB v
  rw [if_pos e_1] at hq
  refine aw_cV (as := [Value.int v]) (rest := []) (MV.c mV_X10_requirePendulum) (HQ.v hq) ml_X10_111 (RC.w h0 rfl) dX10_periodByEstimates_2 rfl rfl (by decide) (Nat.le_of_ble_eq_true rfl) (by decide) ?_
  obtain ⟨k, hk, rfl⟩ := isK_of (by omega) e_1
  have nk := nIc (show k < 2 ^ 31 by omega)
  refine aw_aload_n dX10_periodByEstimates_5 rfl rfl ?_
  refine aw_get (v := .ref (x + 1)) fl_X10_10 (h0) rfl dX10_periodByEstimates_6 ?_
  refine aw_iload_n dX10_periodByEstimates_9 rfl rfl ?_
  have hq_10 := s_len (l := l) (G := G) (n := n) (f := H) (o := x + 1) hS hB hk
  rw [hst.self] at hq_10
  refine aw_cI (as := [Value.int (nI k)]) (rest := []) (MV.c mV_X8_lengthAt) hq_10 ml_X10_114 (RC.w hst.obj rfl) dX10_periodByEstimates_10 rfl rfl (by decide) (Nat.le_of_ble_eq_true rfl) (by decide) ?_
  refine aw_sI (as := [Value.int (nI (V (4 + k)))]) (rest := []) mS_X8_squareOfPeriod s_sq ml_X10_132 dX10_periodByEstimates_13 rfl rfl (by decide) (Nat.le_of_ble_eq_true rfl) (by decide) ?_
  refine aw_sI (as := [Value.int (nI (36 * V (4 + k)))]) (rest := []) mS_X4_rootByEstimates (n_est (hB.len1 hk) (hB.len (by omega))) ml_X10_135 dX10_periodByEstimates_16 rfl rfl (by decide) (Nat.le_of_ble_eq_true rfl) (by decide) ?_
  refine aw_iret rfl (by decide) (by decide) dX10_periodByEstimates_19 (HQ.of ?_)
  simp [xA, qPeriod, e_1, nk]
abbrev MX10_recordOf : MT := (RX10, cX10_recordOf, 2, (some .int), [], "recordOf")
set_option maxHeartbeats 4000000 in
theorem g_recordOf {l : Launch} {G : GT} {n : Nat} {H : HT} {x : Nat} {J : Nat → Int32} {B : Nat → Nat → Int32} {K : Nat} {V : Nat → Nat} {sv : Bool} {e1 e2 : Int32} (h0 : H x = gC x sv e1 e2) (hst : sAt H (x + 1) J B) (hS : SV J B V) (hB : VB K V) (v : Int32) : AM l G yX10_recordOf (.code yX10_recordOf cX10_recordOf 2 (some .int)) 10 600 4 24 [.ref x, .int v] (H) n (GQ9 [eIA, eNS] (qRec V 36 v) H n) := by
  refine aw_enter (M := MX10_recordOf) rfl rfl (by decide +kernel) rfl (Nat.le_of_ble_eq_true rfl) ?_
  have hcn := hB.cnt
  have hlg := hB.legs
  show AW l G MX10_recordOf 10 600 4 24 _ n 0 0 0 [(0, .ref x), (1, .int v)] [] _ n
  refine aw_aload_n dX10_recordOf_0 rfl rfl ?_
  refine aw_iload_n dX10_recordOf_1 rfl rfl ?_
  rcases Classical.em (¬ (isK v 3 = true)) with e_1 | e_1
  · have hq := g_reqC (l := l) (G := G) (n := n) h0 hst hS hB v
    rw [if_neg e_1] at hq
    refine aw_cX (as := [Value.int v]) (rest := []) (MV.c mV_X10_requireRecord) hq ml_X10_149 (RC.w h0 rfl) dX10_recordOf_2 rfl rfl (by decide) (Nat.le_of_ble_eq_true rfl) (by decide) rfl (HQ.of ?_)
    have hw : inB v (nI 0) (nI 2) = isK v 3 := inB_isK (c := 3) (by decide)
    simp [xA, qRec, whyN, hw, e_1]
  have e_1 := Classical.not_not.mp e_1
  obtain ⟨k, hk, rfl⟩ := isK_of (by omega) e_1
  have nk := nIc (show k < 2 ^ 31 by omega)
  rcases Classical.em (V (36 + k) = 0) with e_2 | e_2
  · have hq := g_reqC (l := l) (G := G) (n := n) h0 hst hS hB (nI k)
    rw [if_pos e_1, nk, if_pos e_2] at hq
    refine aw_cX (as := [Value.int (nI k)]) (rest := []) (MV.c mV_X10_requireRecord) hq ml_X10_149 (RC.w h0 rfl) dX10_recordOf_2 rfl rfl (by decide) (Nat.le_of_ble_eq_true rfl) (by decide) rfl (HQ.of ?_)
    have hw : inB (nI k) (nI 0) (nI 2) = isK (nI k) 3 := inB_isK (c := 3) (by decide)
    simp [xA, qRec, whyN, hw, e_1, nk, e_2]
  have hq := g_reqC (l := l) (G := G) (n := n) h0 hst hS hB (nI k)
  rw [if_pos e_1, nk, if_neg e_2] at hq
  refine aw_cV (as := [Value.int (nI k)]) (rest := []) (MV.c mV_X10_requireRecord) (HQ.v hq) ml_X10_149 (RC.w h0 rfl) dX10_recordOf_2 rfl rfl (by decide) (Nat.le_of_ble_eq_true rfl) (by decide) ?_
  refine aw_aload_n dX10_recordOf_5 rfl rfl ?_
  refine aw_get (v := .ref (x + 1)) fl_X10_10 (h0) rfl dX10_recordOf_6 ?_
  refine aw_iload_n dX10_recordOf_9 rfl rfl ?_
  have hq_10 := s_rec (l := l) (G := G) (n := n) (f := H) (o := x + 1) hS hB hk
  rw [hst.self] at hq_10
  refine aw_cI (as := [Value.int (nI k)]) (rest := []) (MV.c mV_X8_recordAt) hq_10 ml_X10_152 (RC.w hst.obj rfl) dX10_recordOf_10 rfl rfl (by decide) (Nat.le_of_ble_eq_true rfl) (by decide) ?_
  refine aw_iret rfl (by decide) (by decide) dX10_recordOf_13 (HQ.of ?_)
  have hw : inB (nI k) (nI 0) (nI 2) = isK (nI k) 3 := inB_isK (c := 3) (by decide)
  simp [xA, qRec, whyN, hw, e_1, nk, e_2]
abbrev MX10_holderOf : MT := (RX10, cX10_holderOf, 2, (some .int), [], "holderOf")
set_option maxHeartbeats 4000000 in
theorem g_holderOf {l : Launch} {G : GT} {n : Nat} {H : HT} {x : Nat} {J : Nat → Int32} {B : Nat → Nat → Int32} {K : Nat} {V : Nat → Nat} {sv : Bool} {e1 e2 : Int32} (h0 : H x = gC x sv e1 e2) (hst : sAt H (x + 1) J B) (hS : SV J B V) (hB : VB K V) (v : Int32) : AM l G yX10_holderOf (.code yX10_holderOf cX10_holderOf 2 (some .int)) 10 600 4 24 [.ref x, .int v] (H) n (GQ9 [eIA, eNS] (qRec V 39 v) H n) := by
  refine aw_enter (M := MX10_holderOf) rfl rfl (by decide +kernel) rfl (Nat.le_of_ble_eq_true rfl) ?_
  have hcn := hB.cnt
  have hlg := hB.legs
  show AW l G MX10_holderOf 10 600 4 24 _ n 0 0 0 [(0, .ref x), (1, .int v)] [] _ n
  refine aw_aload_n dX10_holderOf_0 rfl rfl ?_
  refine aw_iload_n dX10_holderOf_1 rfl rfl ?_
  rcases Classical.em (¬ (isK v 3 = true)) with e_1 | e_1
  · have hq := g_reqC (l := l) (G := G) (n := n) h0 hst hS hB v
    rw [if_neg e_1] at hq
    refine aw_cX (as := [Value.int v]) (rest := []) (MV.c mV_X10_requireRecord) hq ml_X10_149 (RC.w h0 rfl) dX10_holderOf_2 rfl rfl (by decide) (Nat.le_of_ble_eq_true rfl) (by decide) rfl (HQ.of ?_)
    have hw : inB v (nI 0) (nI 2) = isK v 3 := inB_isK (c := 3) (by decide)
    simp [xA, qRec, whyN, hw, e_1]
  have e_1 := Classical.not_not.mp e_1
  obtain ⟨k, hk, rfl⟩ := isK_of (by omega) e_1
  have nk := nIc (show k < 2 ^ 31 by omega)
  rcases Classical.em (V (36 + k) = 0) with e_2 | e_2
  · have hq := g_reqC (l := l) (G := G) (n := n) h0 hst hS hB (nI k)
    rw [if_pos e_1, nk, if_pos e_2] at hq
    refine aw_cX (as := [Value.int (nI k)]) (rest := []) (MV.c mV_X10_requireRecord) hq ml_X10_149 (RC.w h0 rfl) dX10_holderOf_2 rfl rfl (by decide) (Nat.le_of_ble_eq_true rfl) (by decide) rfl (HQ.of ?_)
    have hw : inB (nI k) (nI 0) (nI 2) = isK (nI k) 3 := inB_isK (c := 3) (by decide)
    simp [xA, qRec, whyN, hw, e_1, nk, e_2]
  have hq := g_reqC (l := l) (G := G) (n := n) h0 hst hS hB (nI k)
  rw [if_pos e_1, nk, if_neg e_2] at hq
  refine aw_cV (as := [Value.int (nI k)]) (rest := []) (MV.c mV_X10_requireRecord) (HQ.v hq) ml_X10_149 (RC.w h0 rfl) dX10_holderOf_2 rfl rfl (by decide) (Nat.le_of_ble_eq_true rfl) (by decide) ?_
  refine aw_aload_n dX10_holderOf_5 rfl rfl ?_
  refine aw_get (v := .ref (x + 1)) fl_X10_10 (h0) rfl dX10_holderOf_6 ?_
  refine aw_iload_n dX10_holderOf_9 rfl rfl ?_
  have hq_10 := s_hol (l := l) (G := G) (n := n) (f := H) (o := x + 1) hS hB hk
  rw [hst.self] at hq_10
  refine aw_cI (as := [Value.int (nI k)]) (rest := []) (MV.c mV_X8_holderAt) hq_10 ml_X10_155 (RC.w hst.obj rfl) dX10_holderOf_10 rfl rfl (by decide) (Nat.le_of_ble_eq_true rfl) (by decide) ?_
  refine aw_iret rfl (by decide) (by decide) dX10_holderOf_13 (HQ.of ?_)
  have hw : inB (nI k) (nI 0) (nI 2) = isK (nI k) 3 := inB_isK (c := 3) (by decide)
  simp [xA, qRec, whyN, hw, e_1, nk, e_2]
abbrev MX10_wishOf : MT := (RX10, cX10_wishOf, 2, (some .int), [], "wishOf")
set_option maxHeartbeats 4000000 in
theorem g_wishOf {l : Launch} {G : GT} {n : Nat} {H : HT} {x : Nat} {J : Nat → Int32} {B : Nat → Nat → Int32} {K : Nat} {V : Nat → Nat} {sv : Bool} {e1 e2 : Int32} (h0 : H x = gC x sv e1 e2) (hst : sAt H (x + 1) J B) (hS : SV J B V) (hB : VB K V) (v : Int32) : AM l G yX10_wishOf (.code yX10_wishOf cX10_wishOf 2 (some .int)) 10 600 4 24 [.ref x, .int v] (H) n (GQ9 [eIO] (qWish V v) H n) := by
  refine aw_enter (M := MX10_wishOf) rfl rfl (by decide +kernel) rfl (Nat.le_of_ble_eq_true rfl) ?_
  have hcn := hB.cnt
  have hlg := hB.legs
  show AW l G MX10_wishOf 10 600 4 24 _ n 0 0 0 [(0, .ref x), (1, .int v)] [] _ n
  refine aw_aload_n dX10_wishOf_0 rfl rfl ?_
  refine aw_iload_n dX10_wishOf_1 rfl rfl ?_
  rcases Classical.em (¬ (isK v (V 3) = true)) with e_1 | e_1
  · have hq := g_reqL (l := l) (G := G) (n := n) h0 hst hS hB v
    rw [if_neg e_1] at hq
    refine aw_cX (as := [Value.int v]) (rest := []) (MV.c mV_X10_requireLeg) hq ml_X10_224 (RC.w h0 rfl) dX10_wishOf_2 rfl rfl (by decide) (Nat.le_of_ble_eq_true rfl) (by decide) rfl (HQ.of ?_)
    simp [xA, qWish, e_1]
  have e_1 := Classical.not_not.mp e_1
  have hq := g_reqL (l := l) (G := G) (n := n) h0 hst hS hB v
  rw [if_pos e_1] at hq
  refine aw_cV (as := [Value.int v]) (rest := []) (MV.c mV_X10_requireLeg) (HQ.v hq) ml_X10_224 (RC.w h0 rfl) dX10_wishOf_2 rfl rfl (by decide) (Nat.le_of_ble_eq_true rfl) (by decide) ?_
  obtain ⟨k, hk, rfl⟩ := isK_of (by omega) e_1
  have nk := nIc (show k < 2 ^ 31 by omega)
  refine aw_aload_n dX10_wishOf_5 rfl rfl ?_
  refine aw_get (v := .ref (x + 1)) fl_X10_10 (h0) rfl dX10_wishOf_6 ?_
  refine aw_iload_n dX10_wishOf_9 rfl rfl ?_
  have hq_10 := s_wish (l := l) (G := G) (n := n) (f := H) (o := x + 1) hS hB hk
  rw [hst.self] at hq_10
  refine aw_cI (as := [Value.int (nI k)]) (rest := []) (MV.c mV_X8_wishAt) hq_10 ml_X10_227 (RC.w hst.obj rfl) dX10_wishOf_10 rfl rfl (by decide) (Nat.le_of_ble_eq_true rfl) (by decide) ?_
  refine aw_iret rfl (by decide) (by decide) dX10_wishOf_13 (HQ.of ?_)
  simp [xA, qWish, e_1, nk]
