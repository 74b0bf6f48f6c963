theorem isK_iff9 {v : Int32} {c : Nat} (hc : c < 2 ^ 31) : isK v c = true ↔ ¬ v < 0 ∧ v < nI c := by
  unfold isK
  rw [decide_eq_true_eq, Int32.not_lt, Int32.le_iff_toInt_le, Int32.lt_iff_toInt_lt, nI_toInt hc]
  rfl
/-- a question whose answer fills a table -/
def TQ (ci N r : Nat) (res : Option Value ⊕ String) (H : HT) (n : Nat) : PT := fun y f' n' => y = res ∧ n' = n ∧ (f' = H ∨ ∃ T' : Nat → Int32, f' = kU ci N H r T')
abbrev MX10_fewestFor : MT := (RX10, cX10_fewestFor, 2, (some .int), [], "fewestFor")
set_option maxHeartbeats 4000000 in
theorem g_fewestFor {l : Launch} {G : GT} {n : Nat} {H : HT} {x : Nat} {J : Nat → Int32} {B : Nat → Nat → Int32} {K : Nat} {V : Nat → Nat} {sv : Bool} {e1 e2 : Int32} (h0 : H x = gC x sv e1 e2) (hst : sAt H (x + 1) J B) (hS : SV J B V) (hB : VB K V) (v : Int32) : AM l G yX10_fewestFor (.code yX10_fewestFor cX10_fewestFor 2 (some .int)) 10 600 4 24 [.ref x, .int v] (H) n (GQ9 [eIA, eNS] (qFew V v) H n) := by
  refine aw_enter (M := MX10_fewestFor) rfl rfl (by decide +kernel) rfl (Nat.le_of_ble_eq_true rfl) ?_
  have hcn := hB.cnt
  have hlg := hB.legs
  show AW l G MX10_fewestFor 10 600 4 24 _ n 0 0 0 [(0, .ref x), (1, .int v)] [] _ n
  refine aw_iload_n dX10_fewestFor_0 rfl rfl ?_
  refine aw_iconst_n 1 dX10_fewestFor_1 (by decide) ?_
  rcases Classical.em (¬ (inB v (nI 1) (nI 999) = true)) with e_1 | e_1
  · have hq := g_reqQ (l := l) (G := G) (n := n) (H := H) (a := 1) (by decide) v
    rw [if_neg e_1] at hq
    refine aw_sX (as := [Value.int v, Value.int (nI 1)]) (rest := []) mS_X10_requireQuota hq ml_X10_244 dX10_fewestFor_2 rfl rfl (by decide) (Nat.le_of_ble_eq_true rfl) (by decide) rfl (HQ.of ?_)
    simp [xA, qFew, e_1]
  have e_1 := Classical.not_not.mp e_1
  have hq := g_reqQ (l := l) (G := G) (n := n) (H := H) (a := 1) (by decide) v
  rw [if_pos e_1] at hq
  refine aw_sV (as := [Value.int v, Value.int (nI 1)]) (rest := []) mS_X10_requireQuota (HQ.v hq) ml_X10_244 dX10_fewestFor_2 rfl rfl (by decide) (Nat.le_of_ble_eq_true rfl) (by decide) ?_
  obtain ⟨t, ht1, ht, rfl⟩ := inB_of (by decide) (by decide) e_1
  have nt := nIc (show t < 2 ^ 31 by omega)
  refine aw_aload_n dX10_fewestFor_5 rfl rfl ?_
  refine aw_get (v := .ref (x + 1)) fl_X10_10 (h0) rfl dX10_fewestFor_6 ?_
  refine aw_iload_n dX10_fewestFor_9 rfl rfl ?_
  have hq_f := q_few (l := l) (G := G) (n := n) (f := H) (o := x + 1) hS hB ht1 ht
  rw [hst.self] at hq_f
  refine aw_sI (as := [Value.ref (x + 1), Value.int (nI t)]) (rest := []) mS_X6_fewestGreatestFirst hq_f ml_X10_247 dX10_fewestFor_10 rfl rfl (by decide) (Nat.le_of_ble_eq_true rfl) (by decide) ?_
  have hf9 := few_le V t (2 ^ V 2)
  have hq_e := g_reqE (l := l) (G := G) (n := n) (H := H) hf9
  rcases Classical.em (fewG V t (2 ^ V 2) = 9) with z | z
  · rw [if_pos z] at hq_e
    refine aw_sX (as := [Value.int (fwI (fewG V t (2 ^ V 2)))]) (rest := []) mS_X10_requireEnough hq_e ml_X10_252 dX10_fewestFor_13 rfl rfl (by decide) (Nat.le_of_ble_eq_true rfl) (by decide) rfl (HQ.of ?_)
    have hm : qFew V (nI t) = (2, 0) := by unfold qFew; rw [if_pos e_1, nt, if_neg (by omega)]
    rw [hm]; rfl
  rw [if_neg z] at hq_e
  refine aw_sI (as := [Value.int (fwI (fewG V t (2 ^ V 2)))]) (rest := []) mS_X10_requireEnough hq_e ml_X10_252 dX10_fewestFor_13 rfl rfl (by decide) (Nat.le_of_ble_eq_true rfl) (by decide) ?_
  refine aw_iret rfl (by decide) (by decide) dX10_fewestFor_16 (HQ.of ?_)
  have hm : qFew V (nI t) = (0, fewG V t (2 ^ V 2)) := by unfold qFew; rw [if_pos e_1, nt, if_pos (by omega)]
  rw [hm]; rfl
abbrev MX10_fewestForBySets : MT := (RX10, cX10_fewestForBySets, 2, (some .int), [], "fewestForBySets")
set_option maxHeartbeats 4000000 in
theorem g_fewestForBySets {l : Launch} {G : GT} {n : Nat} {H : HT} {x : Nat} {J : Nat → Int32} {B : Nat → Nat → Int32} {K : Nat} {V : Nat → Nat} {sv : Bool} {e1 e2 : Int32} (h0 : H x = gC x sv e1 e2) (hst : sAt H (x + 1) J B) (hS : SV J B V) (hB : VB K V) (v : Int32) : AM l G yX10_fewestForBySets (.code yX10_fewestForBySets cX10_fewestForBySets 2 (some .int)) 10 600 4 24 [.ref x, .int v] (H) n (GQ9 [eIA, eNS] (qFew V v) H n) := by
  refine aw_enter (M := MX10_fewestForBySets) rfl rfl (by decide +kernel) rfl (Nat.le_of_ble_eq_true rfl) ?_
  have hcn := hB.cnt
  have hlg := hB.legs
  show AW l G MX10_fewestForBySets 10 600 4 24 _ n 0 0 0 [(0, .ref x), (1, .int v)] [] _ n
  refine aw_iload_n dX10_fewestForBySets_0 rfl rfl ?_
  refine aw_iconst_n 1 dX10_fewestForBySets_1 (by decide) ?_
  rcases Classical.em (¬ (inB v (nI 1) (nI 999) = true)) with e_1 | e_1
  · have hq := g_reqQ (l := l) (G := G) (n := n) (H := H) (a := 1) (by decide) v
    rw [if_neg e_1] at hq
    refine aw_sX (as := [Value.int v, Value.int (nI 1)]) (rest := []) mS_X10_requireQuota hq ml_X10_244 dX10_fewestForBySets_2 rfl rfl (by decide) (Nat.le_of_ble_eq_true rfl) (by decide) rfl (HQ.of ?_)
    simp [xA, qFew, e_1]
  have e_1 := Classical.not_not.mp e_1
  have hq := g_reqQ (l := l) (G := G) (n := n) (H := H) (a := 1) (by decide) v
  rw [if_pos e_1] at hq
  refine aw_sV (as := [Value.int v, Value.int (nI 1)]) (rest := []) mS_X10_requireQuota (HQ.v hq) ml_X10_244 dX10_fewestForBySets_2 rfl rfl (by decide) (Nat.le_of_ble_eq_true rfl) (by decide) ?_
  obtain ⟨t, ht1, ht, rfl⟩ := inB_of (by decide) (by decide) e_1
  have nt := nIc (show t < 2 ^ 31 by omega)
  refine aw_aload_n dX10_fewestForBySets_5 rfl rfl ?_
  refine aw_get (v := .ref (x + 1)) fl_X10_10 (h0) rfl dX10_fewestForBySets_6 ?_
  refine aw_iload_n dX10_fewestForBySets_9 rfl rfl ?_
  have hq_f := q_all (l := l) (G := G) (n := n) (f := H) (o := x + 1) hS hB ht1 ht
  rw [hst.self] at hq_f
  refine aw_sI (as := [Value.ref (x + 1), Value.int (nI t)]) (rest := []) mS_X6_fewestOfAllSets hq_f ml_X10_255 dX10_fewestForBySets_10 rfl rfl (by decide) (Nat.le_of_ble_eq_true rfl) (by decide) ?_
  have hf9 := few_le V t (2 ^ V 2)
  have hq_e := g_reqE (l := l) (G := G) (n := n) (H := H) hf9
  rcases Classical.em (fewG V t (2 ^ V 2) = 9) with z | z
  · rw [if_pos z] at hq_e
    refine aw_sX (as := [Value.int (fwI (fewG V t (2 ^ V 2)))]) (rest := []) mS_X10_requireEnough hq_e ml_X10_252 dX10_fewestForBySets_13 rfl rfl (by decide) (Nat.le_of_ble_eq_true rfl) (by decide) rfl (HQ.of ?_)
    have hm : qFew V (nI t) = (2, 0) := by unfold qFew; rw [if_pos e_1, nt, if_neg (by omega)]
    rw [hm]; rfl
  rw [if_neg z] at hq_e
  refine aw_sI (as := [Value.int (fwI (fewG V t (2 ^ V 2)))]) (rest := []) mS_X10_requireEnough hq_e ml_X10_252 dX10_fewestForBySets_13 rfl rfl (by decide) (Nat.le_of_ble_eq_true rfl) (by decide) ?_
  refine aw_iret rfl (by decide) (by decide) dX10_fewestForBySets_16 (HQ.of ?_)
  have hm : qFew V (nI t) = (0, fewG V t (2 ^ V 2)) := by unfold qFew; rw [if_pos e_1, nt, if_pos (by omega)]
  rw [hm]; rfl
abbrev MX10_exactSets : MT := (RX10, cX10_exactSets, 2, (some .int), [], "exactSets")
set_option maxHeartbeats 4000000 in
theorem g_exactSets {l : Launch} {G : GT} {n : Nat} {H : HT} {x : Nat} {J : Nat → Int32} {B : Nat → Nat → Int32} {K : Nat} {V : Nat → Nat} {sv : Bool} {e1 e2 : Int32} (h0 : H x = gC x sv e1 e2) (hst : sAt H (x + 1) J B) (hS : SV J B V) (hB : VB K V) (v : Int32) : AM l G yX10_exactSets (.code yX10_exactSets cX10_exactSets 2 (some .int)) 10 600 4 24 [.ref x, .int v] (H) n (GQ9 [eIA] (qExa V v) H n) := by
  refine aw_enter (M := MX10_exactSets) rfl rfl (by decide +kernel) rfl (Nat.le_of_ble_eq_true rfl) ?_
  have hcn := hB.cnt
  have hlg := hB.legs
  show AW l G MX10_exactSets 10 600 4 24 _ n 0 0 0 [(0, .ref x), (1, .int v)] [] _ n
  refine aw_iload_n dX10_exactSets_0 rfl rfl ?_
  refine aw_iconst_n 0 dX10_exactSets_1 (by decide) ?_
  rcases Classical.em (¬ (inB v (nI 0) (nI 999) = true)) with e_1 | e_1
  · have hq := g_reqQ (l := l) (G := G) (n := n) (H := H) (a := 0) (by decide) v
    rw [if_neg e_1] at hq
    refine aw_sX (as := [Value.int v, Value.int (nI 0)]) (rest := []) mS_X10_requireQuota hq ml_X10_244 dX10_exactSets_2 rfl rfl (by decide) (Nat.le_of_ble_eq_true rfl) (by decide) rfl (HQ.of ?_)
    simp [xA, qExa, e_1]
  have e_1 := Classical.not_not.mp e_1
  have hq := g_reqQ (l := l) (G := G) (n := n) (H := H) (a := 0) (by decide) v
  rw [if_pos e_1] at hq
  refine aw_sV (as := [Value.int v, Value.int (nI 0)]) (rest := []) mS_X10_requireQuota (HQ.v hq) ml_X10_244 dX10_exactSets_2 rfl rfl (by decide) (Nat.le_of_ble_eq_true rfl) (by decide) ?_
  obtain ⟨t, ht1, ht, rfl⟩ := inB_of (by decide) (by decide) e_1
  have nt := nIc (show t < 2 ^ 31 by omega)
  refine aw_aload_n dX10_exactSets_5 rfl rfl ?_
  refine aw_get (v := .ref (x + 1)) fl_X10_10 (h0) rfl dX10_exactSets_6 ?_
  refine aw_iload_n dX10_exactSets_9 rfl rfl ?_
  have hq_f := q_exa (l := l) (G := G) (n := n) (f := H) (o := x + 1) hS hB ht
  rw [hst.self] at hq_f
  refine aw_sI (as := [Value.ref (x + 1), Value.int (nI t)]) (rest := []) mS_X6_setsWithExactly hq_f ml_X10_258 dX10_exactSets_10 rfl rfl (by decide) (Nat.le_of_ble_eq_true rfl) (by decide) ?_
  refine aw_iret rfl (by decide) (by decide) dX10_exactSets_13 (HQ.of ?_)
  simp [xA, qExa, e_1, nt]
abbrev MX10_meanAmplitude : MT := (RX10, cX10_meanAmplitude, 2, (some .double), [], "meanAmplitude")
set_option maxHeartbeats 4000000 in
theorem g_meanAmplitude {l : Launch} {G : GT} {n : Nat} {H : HT} {x : Nat} {J : Nat → Int32} {B : Nat → Nat → Int32} {K : Nat} {V : Nat → Nat} {sv : Bool} {e1 e2 : Int32} (h0 : H x = gC x sv e1 e2) (hst : sAt H (x + 1) J B) (hS : SV J B V) (hB : VB K V) : AM l G yX10_meanAmplitude (.code yX10_meanAmplitude cX10_meanAmplitude 2 (some .double)) 10 600 4 24 [.ref x] (H) n (HQ (xA [eAR] (qMean V).1 (.double (qMean V).2)) H n) := by
  refine aw_enter (M := MX10_meanAmplitude) rfl rfl (by decide +kernel) rfl (Nat.le_of_ble_eq_true rfl) ?_
  have hcn := hB.cnt
  have hlg := hB.legs
  have hca := cntA_le V (V 2)
  have hsu := sumA_le hB (V 2) (by omega)
  show AW l G MX10_meanAmplitude 10 600 4 24 _ n 0 0 0 [(0, .ref x)] [] _ n
  refine aw_aload_n dX10_meanAmplitude_0 rfl rfl ?_
  refine aw_get (v := .ref (x + 1)) fl_X10_10 (h0) rfl dX10_meanAmplitude_1 ?_
  have hq_4 := s_count (l := l) (G := G) (n := n) (f := H) (o := x + 1) hS hB 
  rw [hst.self] at hq_4
  refine aw_cI (as := []) (rest := []) (MV.c mV_X8_swingingCount) hq_4 ml_X10_261 (RC.w hst.obj rfl) dX10_meanAmplitude_4 rfl rfl (by decide) (Nat.le_of_ble_eq_true rfl) (by decide) ?_
  refine aw_istore_n (L' := [(1, .int (nI (cntA V (V 2)))), (0, .ref x)]) dX10_meanAmplitude_7 rfl (by decide) rfl ?_
  refine aw_iload_n dX10_meanAmplitude_8 rfl rfl ?_
  refine aw_if_ne_n (by omega) (tgt := 23) dX10_meanAmplitude_9 (by decide) (fun c_1 => ?_) (fun c_1 => ?_)
  · refine aw_aload_n dX10_meanAmplitude_23 rfl rfl ?_
    refine aw_get (v := .ref (x + 1)) fl_X10_10 (h0) rfl dX10_meanAmplitude_24 ?_
    have hq_27 := s_sum (l := l) (G := G) (n := n) (f := H) (o := x + 1) hS hB 
    rw [hst.self] at hq_27
    refine aw_cI (as := []) (rest := []) (MV.c mV_X8_amplitudeSum) hq_27 ml_X10_270 (RC.w hst.obj rfl) dX10_meanAmplitude_27 rfl rfl (by decide) (Nat.le_of_ble_eq_true rfl) (by decide) ?_
    refine aw_i2d dX10_meanAmplitude_30 ?_
    refine aw_iload_n dX10_meanAmplitude_31 rfl rfl ?_
    refine aw_i2d dX10_meanAmplitude_32 ?_
    refine aw_ddiv (mean_num (by omega) (by omega) (by omega)) dX10_meanAmplitude_33 ?_
    refine aw_dret rfl (by decide) (by decide) dX10_meanAmplitude_34 (HQ.of ?_)
    unfold qMean; rw [if_neg (by omega)]; rfl
  · refine aw_throwX (is := 267) tw_AE rfl (List.mem_of_getElem? (i := 15) rfl) dX10_meanAmplitude_12 dX10_meanAmplitude_15 (Or.inr ⟨dX10_meanAmplitude_16, rfl⟩) dX10_meanAmplitude_19 dX10_meanAmplitude_22 (Nat.le_of_ble_eq_true rfl) (Nat.le_of_ble_eq_true rfl) (by decide) (by decide) (HQ.of ?_)
    unfold qMean; rw [if_pos (by omega)]; rfl
abbrev MX10_leastRelayByTrying : MT := (RX10, cX10_leastRelayByTrying, 1, (some .int), [], "leastRelayByTrying")
set_option maxHeartbeats 4000000 in
theorem g_leastRelayByTrying {l : Launch} {G : GT} {n : Nat} {H : HT} {x : Nat} {J : Nat → Int32} {B : Nat → Nat → Int32} {K : Nat} {V : Nat → Nat} {sv : Bool} {e1 e2 : Int32} (h0 : H x = gC x sv e1 e2) (hst : sAt H (x + 1) J B) (hS : SV J B V) (hB : VB K V)  : AM l G yX10_leastRelayByTrying (.code yX10_leastRelayByTrying cX10_leastRelayByTrying 1 (some .int)) 10 600 4 24 [.ref x] (H) n (GQ9 [eIS] (qRelay V) H n) := by
  refine aw_enter (M := MX10_leastRelayByTrying) rfl rfl (by decide +kernel) rfl (Nat.le_of_ble_eq_true rfl) ?_
  have hcn := hB.cnt
  have hlg := hB.legs
  show AW l G MX10_leastRelayByTrying 10 600 4 24 _ n 0 0 0 [(0, .ref x)] [] _ n
  refine aw_aload_n dX10_leastRelayByTrying_0 rfl rfl ?_
  rcases Classical.em (¬ (¬ (V 2 < V 3))) with e_1 | e_1
  · have hq := g_reqR (l := l) (G := G) (n := n) h0 hst hS hB
    rw [if_pos (Classical.not_not.mp e_1)] at hq
    refine aw_cX (as := []) (rest := []) (MV.c mV_X10_requireRelay) hq ml_X10_230 (RC.w h0 rfl) dX10_leastRelayByTrying_1 rfl rfl (by decide) (Nat.le_of_ble_eq_true rfl) (by decide) rfl (HQ.of ?_)
    unfold qRelay; rw [if_pos (Classical.not_not.mp e_1)]; rfl
  have e_1 := Classical.not_not.mp e_1
  have hq := g_reqR (l := l) (G := G) (n := n) h0 hst hS hB
  rw [if_neg e_1] at hq
  refine aw_cV (as := []) (rest := []) (MV.c mV_X10_requireRelay) (HQ.v hq) ml_X10_230 (RC.w h0 rfl) dX10_leastRelayByTrying_1 rfl rfl (by decide) (Nat.le_of_ble_eq_true rfl) (by decide) ?_
  refine aw_aload_n dX10_leastRelayByTrying_4 rfl rfl ?_
  refine aw_get (v := .ref (x + 1)) fl_X10_10 (h0) rfl dX10_leastRelayByTrying_5 ?_
  refine aw_iconst_n 0 dX10_leastRelayByTrying_8 (by decide) ?_
  refine aw_iconst_n 0 dX10_leastRelayByTrying_9 (by decide) ?_
  refine aw_iconst_n 0 dX10_leastRelayByTrying_10 (by decide) ?_
  refine aw_ldc (v := nI 1000000) kc_X10_236 dX10_leastRelayByTrying_11 ?_
  have hls := ls_lt (V := V) 0
  have hq_b := g_best (l := l) (G := G) (n := n) (f := H) (o := x + 1) hS hB (by omega) (V 3) 0 0 0 1000000 (by omega) (by decide) (by decide) (by decide) (by decide)
  rw [hst.self] at hq_b
  refine aw_sI (as := [Value.ref (x + 1), Value.int (nI 0), Value.int (nI 0), Value.int (nI 0), Value.int (nI 1000000)]) (rest := []) mS_X10_bestByTrying hq_b ml_X10_237 dX10_leastRelayByTrying_13 rfl rfl ⟨by omega, by omega⟩ (Nat.le_of_ble_eq_true rfl) (by decide) ?_
  refine aw_iret rfl (by decide) (by decide) dX10_leastRelayByTrying_16 (HQ.of ?_)
  unfold qRelay; rw [if_neg e_1, show min 1000000 (0 + lsT V 0) = lsT V 0 by omega]; rfl
abbrev MX10_errorPosition : MT := (RX10, cX10_errorPosition, 1, (some .int), [], "errorPosition")
set_option maxHeartbeats 4000000 in
theorem g_errorPosition {l : Launch} {G : GT} {n : Nat} {H : HT} {x : Nat} {J : Nat → Int32} {B : Nat → Nat → Int32} {K : Nat} {V : Nat → Nat} {sv : Bool} {e1 e2 : Int32} (h0 : H x = gC x sv e1 e2) (hst : sAt H (x + 1) J B) (hS : SV J B V) (hB : VB K V) : AM l G yX10_errorPosition (.code yX10_errorPosition cX10_errorPosition 1 (some .int)) 10 600 4 24 [.ref x] (H) n (HQ (xA [eNS] (qE e1).1 (.int (qE e1).2)) H n) := by
  refine aw_enter (M := MX10_errorPosition) rfl rfl (by decide +kernel) rfl (Nat.le_of_ble_eq_true rfl) ?_
  show AW l G MX10_errorPosition 10 600 4 24 _ n 0 0 0 [(0, .ref x)] [] _ n
  refine aw_aload_n dX10_errorPosition_0 rfl rfl ?_
  refine aw_get (v := .int e1) fl_X10_61 (h0) rfl dX10_errorPosition_1 ?_
  refine aw_iconst (v := -1) dX10_errorPosition_4 (by decide) ?_
  refine aw_icmp_ne (tgt := 19) dX10_errorPosition_5 (by decide) (fun c_1 => ?_) (fun c_1 => ?_)
  · refine aw_aload_n dX10_errorPosition_19 rfl rfl ?_
    refine aw_get (v := .int e1) fl_X10_61 (h0) rfl dX10_errorPosition_20 ?_
    refine aw_iret rfl (by decide) (by decide) dX10_errorPosition_23 (HQ.of ?_)
    unfold qE; rw [if_neg c_1]; rfl
  · refine aw_throwX (is := 345) tw_NSEE rfl (List.mem_of_getElem? (i := 24) rfl) dX10_errorPosition_8 dX10_errorPosition_11 (Or.inr ⟨dX10_errorPosition_12, rfl⟩) dX10_errorPosition_15 dX10_errorPosition_18 (Nat.le_of_ble_eq_true rfl) (Nat.le_of_ble_eq_true rfl) (by decide) (by decide) (HQ.of ?_)
    unfold qE; rw [if_pos c_1]; rfl
abbrev MX10_failedCommand : MT := (RX10, cX10_failedCommand, 1, (some .int), [], "failedCommand")
set_option maxHeartbeats 4000000 in
theorem g_failedCommand {l : Launch} {G : GT} {n : Nat} {H : HT} {x : Nat} {J : Nat → Int32} {B : Nat → Nat → Int32} {K : Nat} {V : Nat → Nat} {sv : Bool} {e1 e2 : Int32} (h0 : H x = gC x sv e1 e2) (hst : sAt H (x + 1) J B) (hS : SV J B V) (hB : VB K V) : AM l G yX10_failedCommand (.code yX10_failedCommand cX10_failedCommand 1 (some .int)) 10 600 4 24 [.ref x] (H) n (HQ (xA [eNS] (qE e2).1 (.int (qE e2).2)) H n) := by
  refine aw_enter (M := MX10_failedCommand) rfl rfl (by decide +kernel) rfl (Nat.le_of_ble_eq_true rfl) ?_
  show AW l G MX10_failedCommand 10 600 4 24 _ n 0 0 0 [(0, .ref x)] [] _ n
  refine aw_aload_n dX10_failedCommand_0 rfl rfl ?_
  refine aw_get (v := .int e2) fl_X10_65 (h0) rfl dX10_failedCommand_1 ?_
  refine aw_iconst (v := -1) dX10_failedCommand_4 (by decide) ?_
  refine aw_icmp_ne (tgt := 19) dX10_failedCommand_5 (by decide) (fun c_1 => ?_) (fun c_1 => ?_)
  · refine aw_aload_n dX10_failedCommand_19 rfl rfl ?_
    refine aw_get (v := .int e2) fl_X10_65 (h0) rfl dX10_failedCommand_20 ?_
    refine aw_iret rfl (by decide) (by decide) dX10_failedCommand_23 (HQ.of ?_)
    unfold qE; rw [if_neg c_1]; rfl
  · refine aw_throwX (is := 347) tw_NSEE rfl (List.mem_of_getElem? (i := 18) rfl) dX10_failedCommand_8 dX10_failedCommand_11 (Or.inr ⟨dX10_failedCommand_12, rfl⟩) dX10_failedCommand_15 dX10_failedCommand_18 (Nat.le_of_ble_eq_true rfl) (Nat.le_of_ble_eq_true rfl) (by decide) (by decide) (HQ.of ?_)
    unfold qE; rw [if_pos c_1]; rfl
abbrev MX10_cardAt : MT := (RX10, cX10_cardAt, 2, (some .char), [], "cardAt")
set_option maxHeartbeats 4000000 in
theorem g_cardAt {l : Launch} {G : GT} {n : Nat} {H : HT} {x : Nat} {J : Nat → Int32} {B : Nat → Nat → Int32} {K : Nat} {V : Nat → Nat} {sv : Bool} {e1 e2 : Int32} (h0 : H x = gC x sv e1 e2) (hst : sAt H (x + 1) J B) (hS : SV J B V) (hB : VB K V) {bp : Nat} {Lc : List Nat} (hcd : bK H (x + 111) bp n Lc 0) (v : Int32) : AM l G yX10_cardAt (.code yX10_cardAt cX10_cardAt 2 (some .char)) 10 600 4 24 [.ref x, .int v] (H) n (GQ9 [eIO] (if isK v Lc.length = true then (0, Lc.getD v.toNatClampNeg 0) else (1, 0)) H n) := by
  refine aw_enter (M := MX10_cardAt) rfl rfl (by decide +kernel) rfl (Nat.le_of_ble_eq_true rfl) ?_
  show AW l G MX10_cardAt 10 600 4 24 _ n 0 0 0 [(0, .ref x), (1, .int v)] [] _ n
  refine aw_iload_n dX10_cardAt_0 rfl rfl ?_
  refine aw_if_lt (tgt := 15) dX10_cardAt_1 (by decide) (fun c_1 => ?_) (fun c_1 => ?_)
  · refine aw_throwX (is := 302) tw_IOOBE rfl (List.mem_of_getElem? (i := 23) rfl) dX10_cardAt_15 dX10_cardAt_18 (Or.inr ⟨dX10_cardAt_19, rfl⟩) dX10_cardAt_22 dX10_cardAt_25 (Nat.le_of_ble_eq_true rfl) (Nat.le_of_ble_eq_true rfl) (by decide) (by decide) (HQ.of ?_)
    rw [if_neg (fun z => by
      have h9 := (isK_iff9 (v := v) (c := Lc.length) (by first | omega | (obtain ⟨Nc, Bc, mlc, b0, b1, hN, hL, -⟩ := hcd; omega))).mp z
      first | exact h9.1 c_1 | exact c_2 h9.2 | exact absurd h9.2 (Int32.not_lt.mpr c_2))]; rfl
  · refine aw_iload_n dX10_cardAt_4 rfl rfl ?_
    refine aw_aload_n dX10_cardAt_5 rfl rfl ?_
    refine aw_get (v := .ref (x + 111)) fl_X10_53 (h0) rfl dX10_cardAt_6 ?_
    obtain ⟨Nc, Bc, mlc, b0, b1, hN, hL, -, hne, hcn, hbn, hBc, hqc⟩ := id hcd
    refine aw_cI (as := []) (rest := [Value.int v]) mC_J4_length_8abf5 (b4_len hcd) ml_X10_297 (RC.w b0 rfl) dX10_cardAt_9 rfl rfl (by decide) (Nat.le_of_ble_eq_true rfl) (by decide) ?_
    refine aw_icmp_lt (tgt := 26) dX10_cardAt_12 (by decide) (fun c_2 => ?_) (fun c_2 => ?_)
    · have hk := (isK_iff9 (v := v) (c := Lc.length) (by omega)).mpr ⟨c_1, c_2⟩
      obtain ⟨i, hi, rfl⟩ := isK_of (by omega) hk
      have ni := nIc (show i < 2 ^ 31 by omega)
      refine aw_aload_n dX10_cardAt_26 rfl rfl ?_
      refine aw_get (v := .ref (x + 111)) fl_X10_53 (h0) rfl dX10_cardAt_27 ?_
      refine aw_iload_n dX10_cardAt_30 rfl rfl ?_
      refine aw_cI (as := [Value.int (nI i)]) (rest := []) mC_J4_charAt_5068e (b4_at hcd hi) ml_X10_305 (RC.w b0 rfl) dX10_cardAt_31 rfl rfl (by decide) (Nat.le_of_ble_eq_true rfl) (by decide) ?_
      refine aw_zret rfl (c128_narrow (hBc i hi).2) (by decide) (by decide) dX10_cardAt_34 (HQ.of ?_)
      simp [xA, hk, ni]
    · refine aw_throwX (is := 302) tw_IOOBE rfl (List.mem_of_getElem? (i := 23) rfl) dX10_cardAt_15 dX10_cardAt_18 (Or.inr ⟨dX10_cardAt_19, rfl⟩) dX10_cardAt_22 dX10_cardAt_25 (Nat.le_of_ble_eq_true rfl) (Nat.le_of_ble_eq_true rfl) (by decide) (by decide) (HQ.of ?_)
      rw [if_neg (fun z => by
        have h9 := (isK_iff9 (v := v) (c := Lc.length) (by first | omega | (obtain ⟨Nc, Bc, mlc, b0, b1, hN, hL, -⟩ := hcd; omega))).mp z
        first | exact h9.1 c_1 | exact c_2 h9.2 | exact absurd h9.2 (Int32.not_lt.mpr c_2))]; rfl
abbrev MX10_swingsToRestByTable : MT := (RX10, cX10_swingsToRestByTable, 2, (some .int), [], "swingsToRestByTable")
set_option maxHeartbeats 4000000 in
theorem g_swingsToRestByTable {l : Launch} {G : GT} {n : Nat} {H : HT} {x : Nat} {J : Nat → Int32} {B : Nat → Nat → Int32} {K : Nat} {V : Nat → Nat} {sv : Bool} {e1 e2 : Int32} (h0 : H x = gC x sv e1 e2) (hst : sAt H (x + 1) J B) (hS : SV J B V) (hB : VB K V) {T : Nat → Int32} (hk1 : kAt H 1 61 (x + 102) T) (v : Int32) : AM l G yX10_swingsToRestByTable (.code yX10_swingsToRestByTable cX10_swingsToRestByTable 2 (some .int)) 10 600 4 24 [.ref x, .int v] (H) n (TQ 1 61 (x + 102) (xA [eIO] (qLeft V v).1 (.int (nI (qLeft V v).2))) H n) := by
  refine aw_enter (M := MX10_swingsToRestByTable) rfl rfl (by decide +kernel) rfl (Nat.le_of_ble_eq_true rfl) ?_
  have hcn := hB.cnt
  have hlg := hB.legs
  show AW l G MX10_swingsToRestByTable 10 600 4 24 _ n 0 0 0 [(0, .ref x), (1, .int v)] [] _ n
  refine aw_aload_n dX10_swingsToRestByTable_0 rfl rfl ?_
  refine aw_iload_n dX10_swingsToRestByTable_1 rfl rfl ?_
  rcases Classical.em (¬ (isK v (V 2) = true)) with e_1 | e_1
  · have hq := g_reqP (l := l) (G := G) (n := n) h0 hst hS hB v
    rw [if_neg e_1] at hq
    refine aw_cX (as := [Value.int v]) (rest := []) (MV.c mV_X10_requirePendulum) hq ml_X10_111 (RC.w h0 rfl) dX10_swingsToRestByTable_2 rfl rfl (by decide) (Nat.le_of_ble_eq_true rfl) (by decide) rfl ⟨?_, rfl, Or.inl rfl⟩
    simp [xA, qLeft, e_1]
  have e_1 := Classical.not_not.mp e_1
  have hq := g_reqP (l := l) (G := G) (n := n) h0 hst hS hB v
  rw [if_pos e_1] at hq
  refine aw_cV (as := [Value.int v]) (rest := []) (MV.c mV_X10_requirePendulum) (HQ.v hq) ml_X10_111 (RC.w h0 rfl) dX10_swingsToRestByTable_2 rfl rfl (by decide) (Nat.le_of_ble_eq_true rfl) (by decide) ?_
  obtain ⟨k, hk, rfl⟩ := isK_of (by omega) e_1
  have nk := nIc (show k < 2 ^ 31 by omega)
  refine aw_aload_n dX10_swingsToRestByTable_5 rfl rfl ?_
  refine aw_get (v := .ref (x + 102)) fl_X10_32 (h0) rfl dX10_swingsToRestByTable_6 ?_
  refine aw_aload_n dX10_swingsToRestByTable_9 rfl rfl ?_
  refine aw_get (v := .ref (x + 1)) fl_X10_10 (h0) rfl dX10_swingsToRestByTable_10 ?_
  refine aw_iload_n dX10_swingsToRestByTable_13 rfl rfl ?_
  have hq_t := f_tab (l := l) (G := G) (n := n) (f := H) (o := x + 1) (r := x + 102) (T := T) (by omega) hS hB hk
  rw [hk1.self, hst.self] at hq_t
  refine aw_cP (as := [Value.ref (x + 1), Value.int (nI k)]) (rest := []) (MV.c mV_X1_swingsFromTable) hq_t ml_X10_172 (RC.w hk1.1 rfl) dX10_swingsToRestByTable_14 rfl rfl (by decide) (Nat.le_of_ble_eq_true rfl) (by decide) (fun _ _ _ h => by cases h.1) (fun r9 f9 n9 _ h => ?_)
  obtain ⟨h1, h2, T9, h3, -⟩ := h
  cases h1; subst h2
  refine aw_iret rfl (by decide) (by decide) dX10_swingsToRestByTable_17 ⟨?_, rfl, Or.inr ⟨T9, h3.trans (hst.out (by omega)).self⟩⟩
  simp [xA, qLeft, e_1, nk]
abbrev MX10_leastRelay : MT := (RX10, cX10_leastRelay, 1, (some .int), [], "leastRelay")
set_option maxHeartbeats 4000000 in
theorem g_leastRelay {l : Launch} {G : GT} {n : Nat} {H : HT} {x : Nat} {J : Nat → Int32} {B : Nat → Nat → Int32} {K : Nat} {V : Nat → Nat} {sv : Bool} {e1 e2 : Int32} (h0 : H x = gC x sv e1 e2) (hst : sAt H (x + 1) J B) (hS : SV J B V) (hB : VB K V) {T : Nat → Int32} (hk4 : kAt H 4 256 (x + 104) T)  : AM l G yX10_leastRelay (.code yX10_leastRelay cX10_leastRelay 1 (some .int)) 10 600 4 24 [.ref x] (H) n (TQ 4 256 (x + 104) (xA [eIS] (qRelay V).1 (.int (nI (qRelay V).2))) H n) := by
  refine aw_enter (M := MX10_leastRelay) rfl rfl (by decide +kernel) rfl (Nat.le_of_ble_eq_true rfl) ?_
  have hcn := hB.cnt
  have hlg := hB.legs
  show AW l G MX10_leastRelay 10 600 4 24 _ n 0 0 0 [(0, .ref x)] [] _ n
  refine aw_aload_n dX10_leastRelay_0 rfl rfl ?_
  rcases Classical.em (¬ (¬ (V 2 < V 3))) with e_1 | e_1
  · have hq := g_reqR (l := l) (G := G) (n := n) h0 hst hS hB
    rw [if_pos (Classical.not_not.mp e_1)] at hq
    refine aw_cX (as := []) (rest := []) (MV.c mV_X10_requireRelay) hq ml_X10_230 (RC.w h0 rfl) dX10_leastRelay_1 rfl rfl (by decide) (Nat.le_of_ble_eq_true rfl) (by decide) rfl ⟨?_, rfl, Or.inl rfl⟩
    unfold qRelay; rw [if_pos (Classical.not_not.mp e_1)]; rfl
  have e_1 := Classical.not_not.mp e_1
  have hq := g_reqR (l := l) (G := G) (n := n) h0 hst hS hB
  rw [if_neg e_1] at hq
  refine aw_cV (as := []) (rest := []) (MV.c mV_X10_requireRelay) (HQ.v hq) ml_X10_230 (RC.w h0 rfl) dX10_leastRelay_1 rfl rfl (by decide) (Nat.le_of_ble_eq_true rfl) (by decide) ?_
  refine aw_aload_n dX10_leastRelay_4 rfl rfl ?_
  refine aw_get (v := .ref (x + 104)) fl_X10_39 (h0) rfl dX10_leastRelay_5 ?_
  refine aw_aload_n dX10_leastRelay_8 rfl rfl ?_
  refine aw_get (v := .ref (x + 1)) fl_X10_10 (h0) rfl dX10_leastRelay_9 ?_
  have hq_t := r_least (l := l) (G := G) (n := n) (f := H) (o := x + 1) (r := x + 104) (T := T) (by omega) hS hB (by omega)
  rw [hk4.self, hst.self] at hq_t
  refine aw_cP (as := [Value.ref (x + 1)]) (rest := []) (MV.c mV_X7_leastCost) hq_t ml_X10_233 (RC.w hk4.1 rfl) dX10_leastRelay_12 rfl rfl (by decide) (Nat.le_of_ble_eq_true rfl) (by decide) (fun _ _ _ h => by cases h.1) (fun r9 f9 n9 _ h => ?_)
  obtain ⟨h1, h2, T9, h3, -⟩ := h
  cases h1; subst h2
  refine aw_iret rfl (by decide) (by decide) dX10_leastRelay_15 ⟨?_, rfl, Or.inr ⟨T9, h3.trans (hst.out (by omega)).self⟩⟩
  unfold qRelay; rw [if_neg e_1]; rfl
abbrev MX10_runnerOf : MT := (RX10, cX10_runnerOf, 2, (some .int), [], "runnerOf")
set_option maxHeartbeats 4000000 in
theorem g_runnerOf {l : Launch} {G : GT} {n : Nat} {H : HT} {x : Nat} {J : Nat → Int32} {B : Nat → Nat → Int32} {K : Nat} {V : Nat → Nat} {sv : Bool} {e1 e2 : Int32} (h0 : H x = gC x sv e1 e2) (hst : sAt H (x + 1) J B) (hS : SV J B V) (hB : VB K V) {T : Nat → Int32} (hk4 : kAt H 4 256 (x + 104) T) (v : Int32) : AM l G yX10_runnerOf (.code yX10_runnerOf cX10_runnerOf 2 (some .int)) 10 600 4 24 [.ref x, .int v] (H) n (TQ 4 256 (x + 104) (xA [eIO, eIS] (qRunner V v).1 (.int (nI (qRunner V v).2))) H n) := by
  refine aw_enter (M := MX10_runnerOf) rfl rfl (by decide +kernel) rfl (Nat.le_of_ble_eq_true rfl) ?_
  have hcn := hB.cnt
  have hlg := hB.legs
  show AW l G MX10_runnerOf 10 600 4 24 _ n 0 0 0 [(0, .ref x), (1, .int v)] [] _ n
  refine aw_aload_n dX10_runnerOf_0 rfl rfl ?_
  refine aw_iload_n dX10_runnerOf_1 rfl rfl ?_
  rcases Classical.em (¬ (isK v (V 3) = true)) with e_1 | e_1
  · have hq := g_reqL (l := l) (G := G) (n := n) h0 hst hS hB v
    rw [if_neg e_1] at hq
    refine aw_cX (as := [Value.int v]) (rest := []) (MV.c mV_X10_requireLeg) hq ml_X10_224 (RC.w h0 rfl) dX10_runnerOf_2 rfl rfl (by decide) (Nat.le_of_ble_eq_true rfl) (by decide) rfl ⟨?_, rfl, Or.inl rfl⟩
    simp [xA, qRunner, e_1]
  have e_1 := Classical.not_not.mp e_1
  have hq := g_reqL (l := l) (G := G) (n := n) h0 hst hS hB v
  rw [if_pos e_1] at hq
  refine aw_cV (as := [Value.int v]) (rest := []) (MV.c mV_X10_requireLeg) (HQ.v hq) ml_X10_224 (RC.w h0 rfl) dX10_runnerOf_2 rfl rfl (by decide) (Nat.le_of_ble_eq_true rfl) (by decide) ?_
  obtain ⟨k, hk, rfl⟩ := isK_of (by omega) e_1
  have nk := nIc (show k < 2 ^ 31 by omega)
  refine aw_aload_n dX10_runnerOf_5 rfl rfl ?_
  rcases Classical.em (¬ (¬ (V 2 < V 3))) with e_2 | e_2
  · have hq := g_reqR (l := l) (G := G) (n := n) h0 hst hS hB
    rw [if_pos (Classical.not_not.mp e_2)] at hq
    refine aw_cX (as := []) (rest := []) (MV.c mV_X10_requireRelay) hq ml_X10_230 (RC.w h0 rfl) dX10_runnerOf_6 rfl rfl (by decide) (Nat.le_of_ble_eq_true rfl) (by decide) rfl ⟨?_, rfl, Or.inl rfl⟩
    unfold qRunner; rw [if_pos e_1, if_pos (Classical.not_not.mp e_2)]; rfl
  have e_2 := Classical.not_not.mp e_2
  have hq := g_reqR (l := l) (G := G) (n := n) h0 hst hS hB
  rw [if_neg e_2] at hq
  refine aw_cV (as := []) (rest := []) (MV.c mV_X10_requireRelay) (HQ.v hq) ml_X10_230 (RC.w h0 rfl) dX10_runnerOf_6 rfl rfl (by decide) (Nat.le_of_ble_eq_true rfl) (by decide) ?_
  refine aw_aload_n dX10_runnerOf_9 rfl rfl ?_
  refine aw_get (v := .ref (x + 104)) fl_X10_39 (h0) rfl dX10_runnerOf_10 ?_
  refine aw_aload_n dX10_runnerOf_13 rfl rfl ?_
  refine aw_get (v := .ref (x + 1)) fl_X10_10 (h0) rfl dX10_runnerOf_14 ?_
  refine aw_iload_n dX10_runnerOf_17 rfl rfl ?_
  have hq_t := r_run (l := l) (G := G) (n := n) (f := H) (o := x + 1) (r := x + 104) (T := T) (by omega) hS hB (by omega) hk
  rw [hk4.self, hst.self] at hq_t
  refine aw_cP (as := [Value.ref (x + 1), Value.int (nI k)]) (rest := []) (MV.c mV_X7_runner) hq_t ml_X10_241 (RC.w hk4.1 rfl) dX10_runnerOf_18 rfl rfl (by decide) (Nat.le_of_ble_eq_true rfl) (by decide) (fun _ _ _ h => by cases h.1) (fun r9 f9 n9 _ h => ?_)
  obtain ⟨h1, h2, T9, h3, -⟩ := h
  cases h1; subst h2
  refine aw_iret rfl (by decide) (by decide) dX10_runnerOf_21 ⟨?_, rfl, Or.inr ⟨T9, h3.trans (hst.out (by omega)).self⟩⟩
  unfold qRunner; rw [if_pos e_1, if_neg e_2, nk]; rfl
