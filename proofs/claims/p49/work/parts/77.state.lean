/-- a pendulum's start, or -4; a record, its holder, or -4 -/
def acS (V : Nat → Nat) (k : Nat) : Int32 := acI [-1, -4] (qStart V (nI k)).1 (nI (qStart V (nI k)).2)
def acR (V : Nat → Nat) (a k : Nat) : Int32 := acI [-2, -4] (qRec V a (nI k)).1 (nI (qRec V a (nI k)).2)
def stA (V : Nat → Nat) : Nat → Int32 → Int32
  | 0, v => v
  | k + 1, v => (nI 31 * (nI 31 * (nI 31 * (nI 31 * stA V k v + nI (V (4 + k))) + nI (V (12 + k))) + acS V k) + nI (V (28 + k)))
def stB (V : Nat → Nat) : Nat → Int32 → Int32
  | 0, v => v
  | k + 1, v => (nI 31 * stB V k v + nI (V (42 + k)))
def stC (V : Nat → Nat) : Nat → Int32 → Int32
  | 0, v => v
  | k + 1, v => (nI 31 * (nI 31 * stC V k v + acR V 36 k) + acR V 39 k)
def st0 (V : Nat → Nat) : Int32 := (nI 31 * (nI 31 * (nI 31 * nI (V 0) + nI (V 1)) + nI (V 2)) + nI (V 3))
/-- what the law's state answers -/
def stN (V : Nat → Nat) : Int32 := stC V 3 (stB V (V 3) (stA V (V 2) (st0 V)))
theorem qNum_k {V : Nat → Nat} {a k : Nat} (hk : k < V 2) (h8 : V 2 ≤ 8) : qNum V a (nI k) = (0, V (a + k)) := by
  unfold qNum; rw [if_pos (by rw [isK_nI (by omega)]; exact decide_eq_true hk), nIc (by omega)]
theorem qWish_k {V : Nat → Nat} {k : Nat} (hk : k < V 3) (h8 : V 3 ≤ 6) : qWish V (nI k) = (0, V (42 + k)) := by
  unfold qWish; rw [if_pos (by rw [isK_nI (by omega)]; exact decide_eq_true hk), nIc (by omega)]
set_option maxHeartbeats 4000000 in
theorem st_l3 {l : Launch} {G : GT} {n : Nat} {H : HT} {x bp K : Nat} {s : SG} (hW : GW H x bp n s) (hSB : SB K s) (hK : K + 30500 < 16000000) {v0 : Int32} : ∀ (N k nc ns : Nat), 3 - k = N → k ≤ 3 → nc ≤ 300 + 16 * k → ns ≤ 1800 + 96 * k → AW l G ML_state 12 720 400 2400 (rI (stC s.1 3 v0) H n) n nc ns 115 [(2, .int (nI k)), (1, .int (stC s.1 k v0)), (0, .ref x)] [] H n := by
  obtain ⟨h0, ⟨J, B, hst, hS⟩, -⟩ := id hW
  have hc := hSB.1.cnt
  have hl := hSB.1.legs
  intro N
  induction N using Nat.strongRecOn with
  | ind N ih =>
    intro k nc ns hN hk hnc hns
    refine aw_iload_n dL_state_115 rfl rfl ?_
    refine aw_iconst_n 3 dL_state_116 (by decide) ?_
    refine aw_icmp_ge_n (a := k) (b := 3) (by omega) (by omega) (tgt := 152) dL_state_117 (by decide) (fun c => ?_) (fun c => ?_)
    · have hk3 : k = 3 := by omega
      subst hk3
      refine aw_iload_n dL_state_152 rfl rfl ?_
      exact aw_iret rfl (by omega) (by omega) dL_state_153 ⟨rfl, rfl, rfl⟩
    · refine aw_bipush_n 31 dL_state_120 (by decide) ?_
      refine aw_bipush_n 31 dL_state_122 (by decide) ?_
      refine aw_iload_n dL_state_124 rfl rfl ?_
      refine aw_imul dL_state_125 ?_
      refine aw_aload_n dL_state_126 rfl rfl ?_
      refine aw_bipush_n 15 dL_state_127 (by decide) ?_
      refine aw_iload_n dL_state_129 rfl rfl ?_
      refine aw_iconst_n 0 dL_state_130 (by decide) ?_
      refine aw_sW (as := [Value.ref x, Value.int (nI 15), Value.int (nI k), Value.int (nI 0)]) (rest := [Value.int ((nI 31) * (stC s.1 k v0)), Value.int (nI 31)]) mW_L_act (l_actr_15 (l := l) (G := G) hW hSB hK (nI k) (nI 0)) ml_L_30 dL_state_131 rfl rfl (by decide) (Nat.le_of_ble_eq_true rfl) ⟨by omega, by omega⟩ (fun _ _ _ h => by cases h.1) (fun r9 f9 n9 _ h => ?_)
      obtain ⟨g1, g2, g3⟩ := h
      cases g1; rw [g2, g3]
      refine aw_iadd dL_state_134 ?_
      refine aw_imul dL_state_135 ?_
      refine aw_aload_n dL_state_136 rfl rfl ?_
      refine aw_bipush_n 16 dL_state_137 (by decide) ?_
      refine aw_iload_n dL_state_139 rfl rfl ?_
      refine aw_iconst_n 0 dL_state_140 (by decide) ?_
      refine aw_sW (as := [Value.ref x, Value.int (nI 16), Value.int (nI k), Value.int (nI 0)]) (rest := [Value.int ((nI 31) * (((nI 31) * (stC s.1 k v0)) + (acR s.1 36 k)))]) mW_L_act (l_actr_16 (l := l) (G := G) hW hSB hK (nI k) (nI 0)) ml_L_30 dL_state_141 rfl rfl (by decide) (Nat.le_of_ble_eq_true rfl) ⟨by omega, by omega⟩ (fun _ _ _ h => by cases h.1) (fun r9 f9 n9 _ h => ?_)
      obtain ⟨g1, g2, g3⟩ := h
      cases g1; rw [g2, g3]
      refine aw_iadd dL_state_144 ?_
      refine aw_istore_n (L' := [(1, .int (stC s.1 (k + 1) v0)), (2, .int (nI k)), (0, .ref x)]) dL_state_145 rfl (Nat.le_of_ble_eq_true rfl) rfl ?_
      refine aw_iinc_n (L' := [(2, .int (nI (k + 1))), (1, .int (stC s.1 (k + 1) v0)), (0, .ref x)]) 1 dL_state_146 rfl (by decide) (Nat.le_of_ble_eq_true rfl) rfl ?_
      refine aw_goto (tgt := 115) dL_state_149 (by decide) ?_
      exact ih _ (by omega) (k + 1) _ _ rfl (by omega) (by omega) (by omega)
set_option maxHeartbeats 4000000 in
theorem st_l2 {l : Launch} {G : GT} {n : Nat} {H : HT} {x bp K : Nat} {s : SG} (hW : GW H x bp n s) (hSB : SB K s) (hK : K + 30500 < 16000000) {v0 : Int32} : ∀ (N k nc ns : Nat), s.1 3 - k = N → k ≤ s.1 3 → nc ≤ 240 + 8 * k → ns ≤ 1440 + 48 * k → AW l G ML_state 12 720 400 2400 (rI (stC s.1 3 (stB s.1 (s.1 3) v0)) H n) n nc ns 88 [(2, .int (nI k)), (1, .int (stB s.1 k v0)), (0, .ref x)] [] H n := by
  obtain ⟨h0, ⟨J, B, hst, hS⟩, -⟩ := id hW
  have hc := hSB.1.cnt
  have hl := hSB.1.legs
  intro N
  induction N using Nat.strongRecOn with
  | ind N ih =>
    intro k nc ns hN hk hnc hns
    refine aw_iload_n dL_state_88 rfl rfl ?_
    refine aw_aload_n dL_state_89 rfl rfl ?_
    refine aw_cI (as := []) (rest := [Value.int (nI k)]) (MV.c mV_X10_legCount) (HQ.i rfl (g_legCount (l := l) (G := G) (n := n) h0 hst hS hSB.1)) ml_L_110 (RC.w h0 rfl) dL_state_90 rfl rfl (by decide) (Nat.le_of_ble_eq_true rfl) ⟨by omega, by omega⟩ ?_
    refine aw_icmp_ge_n (a := k) (b := s.1 3) (by omega) (by omega) (tgt := 113) dL_state_93 (by decide) (fun c => ?_) (fun c => ?_)
    · have hk3 : k = s.1 3 := by omega
      subst hk3
      refine aw_iconst_n 0 dL_state_113 (by decide) ?_
      refine aw_istore_n (L' := [(2, .int (nI 0)), (1, .int (stB s.1 (s.1 3) v0)), (0, .ref x)]) dL_state_114 rfl (Nat.le_of_ble_eq_true rfl) rfl ?_
      exact st_l3 hW hSB hK _ 0 _ _ rfl (by omega) (by omega) (by omega)
    · refine aw_bipush_n 31 dL_state_96 (by decide) ?_
      refine aw_iload_n dL_state_98 rfl rfl ?_
      refine aw_imul dL_state_99 ?_
      refine aw_aload_n dL_state_100 rfl rfl ?_
      refine aw_iload_n dL_state_101 rfl rfl ?_
      have hA := g_wishOf (l := l) (G := G) (n := n) h0 hst hS hSB.1 (nI k)
      rw [qWish_k c hl] at hA
      refine aw_cI (as := [Value.int (nI k)]) (rest := [Value.int ((nI 31) * (stB s.1 k v0))]) (MV.c mV_X10_wishOf) (HQ.i rfl hA) ml_L_122 (RC.w h0 rfl) dL_state_102 rfl rfl (by decide) (Nat.le_of_ble_eq_true rfl) ⟨by omega, by omega⟩ ?_
      refine aw_iadd dL_state_105 ?_
      refine aw_istore_n (L' := [(1, .int (stB s.1 (k + 1) v0)), (2, .int (nI k)), (0, .ref x)]) dL_state_106 rfl (Nat.le_of_ble_eq_true rfl) rfl ?_
      refine aw_iinc_n (L' := [(2, .int (nI (k + 1))), (1, .int (stB s.1 (k + 1) v0)), (0, .ref x)]) 1 dL_state_107 rfl (by decide) (Nat.le_of_ble_eq_true rfl) rfl ?_
      refine aw_goto (tgt := 88) dL_state_110 (by decide) ?_
      exact ih _ (by omega) (k + 1) _ _ rfl (by omega) (by omega) (by omega)
set_option maxHeartbeats 4000000 in
theorem st_l1 {l : Launch} {G : GT} {n : Nat} {H : HT} {x bp K : Nat} {s : SG} (hW : GW H x bp n s) (hSB : SB K s) (hK : K + 30500 < 16000000) {v0 : Int32} : ∀ (N k nc ns : Nat), s.1 2 - k = N → k ≤ s.1 2 → nc ≤ 16 + 24 * k → ns ≤ 96 + 144 * k → AW l G ML_state 12 720 400 2400 (rI (stC s.1 3 (stB s.1 (s.1 3) (stA s.1 (s.1 2) v0))) H n) n nc ns 31 [(2, .int (nI k)), (1, .int (stA s.1 k v0)), (0, .ref x)] [] H n := by
  obtain ⟨h0, ⟨J, B, hst, hS⟩, -⟩ := id hW
  have hc := hSB.1.cnt
  have hl := hSB.1.legs
  intro N
  induction N using Nat.strongRecOn with
  | ind N ih =>
    intro k nc ns hN hk hnc hns
    refine aw_iload_n dL_state_31 rfl rfl ?_
    refine aw_aload_n dL_state_32 rfl rfl ?_
    refine aw_cI (as := []) (rest := [Value.int (nI k)]) (MV.c mV_X10_pendulumCount) (HQ.i rfl (g_pendulumCount (l := l) (G := G) (n := n) h0 hst hS hSB.1)) ml_L_34 (RC.w h0 rfl) dL_state_33 rfl rfl (by decide) (Nat.le_of_ble_eq_true rfl) ⟨by omega, by omega⟩ ?_
    refine aw_icmp_ge_n (a := k) (b := s.1 2) (by omega) (by omega) (tgt := 86) dL_state_36 (by decide) (fun c => ?_) (fun c => ?_)
    · have hk3 : k = s.1 2 := by omega
      subst hk3
      refine aw_iconst_n 0 dL_state_86 (by decide) ?_
      refine aw_istore_n (L' := [(2, .int (nI 0)), (1, .int (stA s.1 (s.1 2) v0)), (0, .ref x)]) dL_state_87 rfl (Nat.le_of_ble_eq_true rfl) rfl ?_
      exact st_l2 hW hSB hK _ 0 _ _ rfl (by omega) (by omega) (by omega)
    · refine aw_bipush_n 31 dL_state_39 (by decide) ?_
      refine aw_bipush_n 31 dL_state_41 (by decide) ?_
      refine aw_bipush_n 31 dL_state_43 (by decide) ?_
      refine aw_bipush_n 31 dL_state_45 (by decide) ?_
      refine aw_iload_n dL_state_47 rfl rfl ?_
      refine aw_imul dL_state_48 ?_
      refine aw_aload_n dL_state_49 rfl rfl ?_
      refine aw_iload_n dL_state_50 rfl rfl ?_
      have hA := g_lengthOf (l := l) (G := G) (n := n) h0 hst hS hSB.1 (nI k)
      rw [qNum_k c hc] at hA
      refine aw_cI (as := [Value.int (nI k)]) (rest := [Value.int ((nI 31) * (stA s.1 k v0)), Value.int (nI 31), Value.int (nI 31), Value.int (nI 31)]) (MV.c mV_X10_lengthOf) (HQ.i rfl hA) ml_L_113 (RC.w h0 rfl) dL_state_51 rfl rfl (by decide) (Nat.le_of_ble_eq_true rfl) ⟨by omega, by omega⟩ ?_
      refine aw_iadd dL_state_54 ?_
      refine aw_imul dL_state_55 ?_
      refine aw_aload_n dL_state_56 rfl rfl ?_
      refine aw_iload_n dL_state_57 rfl rfl ?_
      have hA2 := g_amplitudeOf (l := l) (G := G) (n := n) h0 hst hS hSB.1 (nI k)
      rw [qNum_k c hc] at hA2
      refine aw_cI (as := [Value.int (nI k)]) (rest := [Value.int ((nI 31) * (((nI 31) * (stA s.1 k v0)) + (nI (s.1 (4 + k))))), Value.int (nI 31), Value.int (nI 31)]) (MV.c mV_X10_amplitudeOf) (HQ.i rfl hA2) ml_L_116 (RC.w h0 rfl) dL_state_58 rfl rfl (by decide) (Nat.le_of_ble_eq_true rfl) ⟨by omega, by omega⟩ ?_
      refine aw_iadd dL_state_61 ?_
      refine aw_imul dL_state_62 ?_
      refine aw_aload_n dL_state_63 rfl rfl ?_
      refine aw_bipush_n 14 dL_state_64 (by decide) ?_
      refine aw_iload_n dL_state_66 rfl rfl ?_
      refine aw_iconst_n 0 dL_state_67 (by decide) ?_
      refine aw_sW (as := [Value.ref x, Value.int (nI 14), Value.int (nI k), Value.int (nI 0)]) (rest := [Value.int ((nI 31) * (((nI 31) * (((nI 31) * (stA s.1 k v0)) + (nI (s.1 (4 + k))))) + (nI (s.1 (12 + k))))), Value.int (nI 31)]) mW_L_act (l_actr_14 (l := l) (G := G) hW hSB hK (nI k) (nI 0)) ml_L_30 dL_state_68 rfl rfl (by decide) (Nat.le_of_ble_eq_true rfl) ⟨by omega, by omega⟩ (fun _ _ _ h => by cases h.1) (fun r9 f9 n9 _ h => ?_)
      obtain ⟨g1, g2, g3⟩ := h
      cases g1; rw [g2, g3]
      refine aw_iadd dL_state_71 ?_
      refine aw_imul dL_state_72 ?_
      refine aw_aload_n dL_state_73 rfl rfl ?_
      refine aw_iload_n dL_state_74 rfl rfl ?_
      have hA3 := g_swingsOf (l := l) (G := G) (n := n) h0 hst hS hSB.1 (nI k)
      rw [qNum_k c hc] at hA3
      refine aw_cI (as := [Value.int (nI k)]) (rest := [Value.int ((nI 31) * (((nI 31) * (((nI 31) * (((nI 31) * (stA s.1 k v0)) + (nI (s.1 (4 + k))))) + (nI (s.1 (12 + k))))) + (acS s.1 k)))]) (MV.c mV_X10_swingsOf) (HQ.i rfl hA3) ml_L_119 (RC.w h0 rfl) dL_state_75 rfl rfl (by decide) (Nat.le_of_ble_eq_true rfl) ⟨by omega, by omega⟩ ?_
      refine aw_iadd dL_state_78 ?_
      refine aw_istore_n (L' := [(1, .int (stA s.1 (k + 1) v0)), (2, .int (nI k)), (0, .ref x)]) dL_state_79 rfl (Nat.le_of_ble_eq_true rfl) rfl ?_
      refine aw_iinc_n (L' := [(2, .int (nI (k + 1))), (1, .int (stA s.1 (k + 1) v0)), (0, .ref x)]) 1 dL_state_80 rfl (by decide) (Nat.le_of_ble_eq_true rfl) rfl ?_
      refine aw_goto (tgt := 31) dL_state_83 (by decide) ?_
      exact ih _ (by omega) (k + 1) _ _ rfl (by omega) (by omega) (by omega)
set_option maxHeartbeats 4000000 in
theorem l_stateR {l : Launch} {G : GT} {n : Nat} {H : HT} {x bp K : Nat} {s : SG} (hW : GW H x bp n s) (hSB : SB K s) (hK : K + 30500 < 16000000) : AM l G yL_state (.code yL_state cL_state 3 (some .int)) 12 720 400 2400 [.ref x] H n (rI (stN s.1) H n) := by
  refine aw_enter (M := ML_state) rfl rfl (by decide +kernel) rfl (Nat.le_of_ble_eq_true rfl) ?_
  show AW l G ML_state 12 720 400 2400 _ n 0 0 0 [(0, .ref x)] [] _ n
  obtain ⟨h0, ⟨J, B, hst, hS⟩, -⟩ := id hW
  have hc := hSB.1.cnt
  have hl := hSB.1.legs
  refine aw_bipush_n 31 dL_state_0 (by decide) ?_
  refine aw_bipush_n 31 dL_state_2 (by decide) ?_
  refine aw_bipush_n 31 dL_state_4 (by decide) ?_
  refine aw_aload_n dL_state_6 rfl rfl ?_
  refine aw_cI (as := []) (rest := [Value.int (nI 31), Value.int (nI 31), Value.int (nI 31)]) (MV.c mV_X10_clock) (HQ.i rfl (g_clock (l := l) (G := G) (n := n) h0 hst hS hSB.1)) ml_L_104 (RC.w h0 rfl) dL_state_7 rfl rfl (by decide) (Nat.le_of_ble_eq_true rfl) ⟨by omega, by omega⟩ ?_
  refine aw_imul dL_state_10 ?_
  refine aw_aload_n dL_state_11 rfl rfl ?_
  refine aw_cI (as := []) (rest := [Value.int ((nI 31) * (nI (s.1 0))), Value.int (nI 31), Value.int (nI 31)]) (MV.c mV_X10_friction) (HQ.i rfl (g_friction (l := l) (G := G) (n := n) h0 hst hS hSB.1)) ml_L_107 (RC.w h0 rfl) dL_state_12 rfl rfl (by decide) (Nat.le_of_ble_eq_true rfl) ⟨by omega, by omega⟩ ?_
  refine aw_iadd dL_state_15 ?_
  refine aw_imul dL_state_16 ?_
  refine aw_aload_n dL_state_17 rfl rfl ?_
  refine aw_cI (as := []) (rest := [Value.int ((nI 31) * (((nI 31) * (nI (s.1 0))) + (nI (s.1 1)))), Value.int (nI 31)]) (MV.c mV_X10_pendulumCount) (HQ.i rfl (g_pendulumCount (l := l) (G := G) (n := n) h0 hst hS hSB.1)) ml_L_34 (RC.w h0 rfl) dL_state_18 rfl rfl (by decide) (Nat.le_of_ble_eq_true rfl) ⟨by omega, by omega⟩ ?_
  refine aw_iadd dL_state_21 ?_
  refine aw_imul dL_state_22 ?_
  refine aw_aload_n dL_state_23 rfl rfl ?_
  refine aw_cI (as := []) (rest := [Value.int ((nI 31) * (((nI 31) * (((nI 31) * (nI (s.1 0))) + (nI (s.1 1)))) + (nI (s.1 2))))]) (MV.c mV_X10_legCount) (HQ.i rfl (g_legCount (l := l) (G := G) (n := n) h0 hst hS hSB.1)) ml_L_110 (RC.w h0 rfl) dL_state_24 rfl rfl (by decide) (Nat.le_of_ble_eq_true rfl) ⟨by omega, by omega⟩ ?_
  refine aw_iadd dL_state_27 ?_
  refine aw_istore_n (L' := [(1, .int (st0 s.1)), (0, .ref x)]) dL_state_28 rfl (Nat.le_of_ble_eq_true rfl) rfl ?_
  refine aw_iconst_n 0 dL_state_29 (by decide) ?_
  refine aw_istore_n (L' := [(2, .int (nI 0)), (1, .int (st0 s.1)), (0, .ref x)]) dL_state_30 rfl (Nat.le_of_ble_eq_true rfl) rfl ?_
  exact st_l1 hW hSB hK _ 0 _ _ rfl (by omega) (by omega) (by omega)
theorem l_state {l : Launch} {G : GT} {n : Nat} {H : HT} {x bp K : Nat} {s : SG} (hW : GW H x bp n s) (hSB : SB K s) (hK : K + 30500 < 16000000) : AM l G yL_state (.code yL_state cL_state 3 (some .int)) 12 720 400 2400 [.ref x] H n (GA (some (.int (stN s.1))) x bp H n s) :=
  AM.post (l_stateR hW hSB hK) fun r f' n' hr => by
    obtain ⟨h1, h2, h3⟩ := hr
    subst h2; subst h3
    exact ⟨h1, Nat.le_refl _, bp, Or.inl rfl, hW, fun _ _ _ _ => rfl⟩
