set_option maxHeartbeats 8000000 in
theorem sg_10 {l : Launch} {G : GT} {hh : List ExceptionTableEntry} {nm : String} (hG9 : gN G ≤ 260) {x z : Nat} {sx sz : SG} {V : Nat → Nat} {K Kz t : Nat} (ht : t < 32) (hX : XO K sx V) (hK : K ≤ 600000) : ∀ (f : HT) (n nc ns : Nat), W2 f n x sx z sz → nc ≤ 200000 → ns ≤ 2000000 → AW l G (ML hh nm) 2048 94400 642731 7159190 LPo 67 nc ns 1187 [(7, .ref z), (6, .int (nI (20 + t))), (4, .int (stN V)), (3, .int (nI (V 0))), (1, .ref x)] [] f n := by
  intro f n nc ns hW hnc hns
  refine aw_aload_n dL_law_1187 rfl rfl ?_
  refine aw_g1 (as := []) (rest := []) mV_X10_restore rfl hW (fun bx hG => GX.gq hX.res.1 (q_restore (l := l) (G := G) hG hX.1 (by omega))) ml_L_254 dL_law_1188 rfl rfl (by decide) (Nat.le_of_ble_eq_true rfl) ⟨by omega, by omega⟩ (fun f n hn hW => ?_)
  refine aw_iload_n dL_law_1191 rfl rfl ?_
  refine aw_icmp_ne (tgt := 1208) dL_law_1192 (by decide) (fun c => absurd rfl c) (fun _ => ?_)
  refine aw_aload_n dL_law_1195 rfl rfl ?_
  refine aw_t1 (as := [Value.ref x]) (rest := []) mS_L_state hW (fun bx hG => l_state (l := l) (G := G) hG hX.res.2.2 (by omega)) ml_L_140 dL_law_1196 rfl rfl (by decide) (Nat.le_of_ble_eq_true rfl) ⟨by omega, by omega⟩ (fun f n hn hW => ?_)
  refine aw_iload dL_law_1199 rfl ?_
  refine aw_icmp_ne (tgt := 1208) dL_law_1201 (by decide) (fun c => absurd (by rw [hX.res.2.1]) c) (fun _ => ?_)
  refine aw_iconst_n 1 dL_law_1204 (by decide) ?_
  refine aw_goto (tgt := 1209) dL_law_1205 (by decide) ?_
  exact aw_zret rfl rfl (by omega) (by omega) dL_law_1209 rfl
theorem dl_am : ∀ t, t < 32 → lenD (am (20 + t)) 9 = 2 := by decide +kernel
theorem tc_60 : ∀ t, t < 32 → (TC (20 + t)).length ≤ 60 := by decide +kernel
theorem cp_c3 : ∀ t, t < 32 → cpN (cpN (cpN 16 (([] : List Nat).length + T244.length)) (([] ++ T244).length + lenD (am (20 + t)) 9)) (([] ++ T244 ++ decN (am (20 + t))).length + T246.length) ≤ 100 := by decide +kernel
theorem cp_c4 : ∀ t, t < 32 → ([] ++ T244 ++ decN (am (20 + t)) ++ T246).length < cpN (cpN (cpN 16 (([] : List Nat).length + T244.length)) (([] ++ T244).length + lenD (am (20 + t)) 9)) (([] ++ T244 ++ decN (am (20 + t))).length + T246.length) := by decide +kernel
theorem cp_z1 : cpN 16 (([] : List Nat).length + T199.length) ≤ 100 := by decide +kernel
theorem cp_z2 : ∀ t, t < 32 → cpN (cpN 16 (([] : List Nat).length + T199.length)) (([] ++ T199).length + lenD (20 + t) 9) ≤ 100 := by decide +kernel
theorem cp_z3 : ∀ t, t < 32 → cpN (cpN (cpN 16 (([] : List Nat).length + T199.length)) (([] ++ T199).length + lenD (20 + t) 9)) (([] ++ T199 ++ decN (20 + t)).length + T208.length) ≤ 100 := by decide +kernel
theorem cp_z4 : ∀ t, t < 32 → ([] ++ T199 ++ decN (20 + t) ++ T208).length < cpN (cpN (cpN 16 (([] : List Nat).length + T199.length)) (([] ++ T199).length + lenD (20 + t) 9)) (([] ++ T199 ++ decN (20 + t)).length + T208.length) := by decide +kernel
set_option maxHeartbeats 8000000 in
theorem sg_9 {l : Launch} {G : GT} {hh : List ExceptionTableEntry} {nm : String} (hG9 : gN G ≤ 260) {x z : Nat} {sx sz : SG} {V : Nat → Nat} {K Kz t : Nat} (ht : t < 32) (hX : XO K sx V) (hK : K ≤ 600000) (hZ : ZO Kz sz (Z8 (20 + t))) (hKz : Kz ≤ 100000) (hU : (undS sz).1 = lv (Z7 (20 + t)) ∧ sz.2.1.1 ≠ 0) : ∀ (f : HT) (n nc ns : Nat), W2 f n x sx z sz → nc ≤ 180000 → ns ≤ 1800000 → AW l G (ML hh nm) 2048 94400 642731 7159190 LPo 67 nc ns 970 [(7, .ref z), (6, .int (nI (20 + t))), (4, .int (stN V)), (3, .int (nI (V 0))), (1, .ref x)] [] f n := by
  intro f n nc ns hW hnc hns
  refine aw_aload dL_law_970 rfl ?_
  refine aw_bipush_n 28 dL_law_972 (by decide) ?_
  refine aw_g2 (as := [Value.int (nI 28)]) (rest := []) mV_X10_fewestFor rfl hW (fun bx hG => GX.gq (by rw [hZ.2]; exact zq_8_2 t ht) (q_fewestFor (l := l) (G := G) hG hZ.1 (by omega) (nI 28))) ml_L_75 dL_law_974 rfl rfl (by decide) (Nat.le_of_ble_eq_true rfl) ⟨by omega, by omega⟩ (fun f n hn hW => ?_)
  refine aw_iconst_n 1 dL_law_977 (by decide) ?_
  refine aw_icmp_ne (tgt := 1185) dL_law_978 (by decide) (fun c => absurd rfl c) (fun _ => ?_)
  refine aw_aload dL_law_981 rfl ?_
  refine aw_bipush_n 29 dL_law_983 (by decide) ?_
  refine aw_g2 (as := [Value.int (nI 29)]) (rest := []) mV_X10_fewestFor rfl hW (fun bx hG => GX.gq (by rw [hZ.2]; exact zq_8_3 t ht) (q_fewestFor (l := l) (G := G) hG hZ.1 (by omega) (nI 29))) ml_L_75 dL_law_985 rfl rfl (by decide) (Nat.le_of_ble_eq_true rfl) ⟨by omega, by omega⟩ (fun f n hn hW => ?_)
  refine aw_iconst_n 2 dL_law_988 (by decide) ?_
  refine aw_icmp_ne (tgt := 1185) dL_law_989 (by decide) (fun c => absurd rfl c) (fun _ => ?_)
  refine aw_aload dL_law_992 rfl ?_
  refine aw_bipush_n 42 dL_law_994 (by decide) ?_
  refine aw_g2 (as := [Value.int (nI 42)]) (rest := []) mV_X10_fewestForBySets rfl hW (fun bx hG => GX.gq (by rw [hZ.2]; exact zq_8_4 t ht) (q_fewestForBySets (l := l) (G := G) hG hZ.1 (by omega) (nI 42))) ml_L_78 dL_law_996 rfl rfl (by decide) (Nat.le_of_ble_eq_true rfl) ⟨by omega, by omega⟩ (fun f n hn hW => ?_)
  refine aw_iconst_n 2 dL_law_999 (by decide) ?_
  refine aw_icmp_ne (tgt := 1185) dL_law_1000 (by decide) (fun c => absurd rfl c) (fun _ => ?_)
  refine aw_aload dL_law_1003 rfl ?_
  refine aw_bipush_n 49 dL_law_1005 (by decide) ?_
  refine aw_g2 (as := [Value.int (nI 49)]) (rest := []) mV_X10_fewestFor rfl hW (fun bx hG => GX.gq (by rw [hZ.2]; exact zq_8_5 t ht) (q_fewestFor (l := l) (G := G) hG hZ.1 (by omega) (nI 49))) ml_L_75 dL_law_1007 rfl rfl (by decide) (Nat.le_of_ble_eq_true rfl) ⟨by omega, by omega⟩ (fun f n hn hW => ?_)
  refine aw_iconst_n 4 dL_law_1010 (by decide) ?_
  refine aw_icmp_ne (tgt := 1185) dL_law_1011 (by decide) (fun c => absurd rfl c) (fun _ => ?_)
  refine aw_aload dL_law_1014 rfl ?_
  refine aw_bipush_n 13 dL_law_1016 (by decide) ?_
  refine aw_bipush_n 50 dL_law_1018 (by decide) ?_
  refine aw_iconst_n 0 dL_law_1020 (by decide) ?_
  refine aw_x2 (as := [Value.ref z, Value.int (nI 13), Value.int (nI 50), Value.int (nI 0)]) (rest := []) mW_L_act hW (fun bx hG => GA.v (l_act_13 (l := l) (G := G) hG hZ.1 (by omega) (nI 50) (nI 0)) (by rw [hZ.2, zq_8_6 t ht] <;> rfl)) ml_L_30 dL_law_1021 rfl rfl (by decide) (Nat.le_of_ble_eq_true rfl) ⟨by omega, by omega⟩ (fun f n hn hW => ?_)
  refine aw_bipush (v := -4) dL_law_1024 (by decide) ?_
  refine aw_icmp_ne (tgt := 1185) dL_law_1026 (by decide) (fun c => absurd rfl c) (fun _ => ?_)
  refine aw_aload dL_law_1029 rfl ?_
  refine aw_bipush_n 28 dL_law_1031 (by decide) ?_
  refine aw_g2 (as := [Value.int (nI 28)]) (rest := []) mV_X10_exactSets rfl hW (fun bx hG => GX.gq (by rw [hZ.2]; exact zq_8_7 t ht) (q_exactSets (l := l) (G := G) hG hZ.1 (by omega) (nI 28))) ml_L_193 dL_law_1033 rfl rfl (by decide) (Nat.le_of_ble_eq_true rfl) ⟨by omega, by omega⟩ (fun f n hn hW => ?_)
  refine aw_iconst_n 1 dL_law_1036 (by decide) ?_
  refine aw_icmp_ne (tgt := 1185) dL_law_1037 (by decide) (fun c => absurd rfl c) (fun _ => ?_)
  refine aw_aload dL_law_1040 rfl ?_
  refine aw_bipush_n 47 dL_law_1042 (by decide) ?_
  refine aw_g2 (as := [Value.int (nI 47)]) (rest := []) mV_X10_exactSets rfl hW (fun bx hG => GX.gq (by rw [hZ.2]; exact zq_8_8 t ht) (q_exactSets (l := l) (G := G) hG hZ.1 (by omega) (nI 47))) ml_L_193 dL_law_1044 rfl rfl (by decide) (Nat.le_of_ble_eq_true rfl) ⟨by omega, by omega⟩ (fun f n hn hW => ?_)
  refine aw_iconst_n 1 dL_law_1047 (by decide) ?_
  refine aw_icmp_ne (tgt := 1185) dL_law_1048 (by decide) (fun c => absurd rfl c) (fun _ => ?_)
  refine aw_aload dL_law_1051 rfl ?_
  refine aw_iconst_n 3 dL_law_1053 (by decide) ?_
  refine aw_g2 (as := [Value.int (nI 3)]) (rest := []) mV_X10_exactSets rfl hW (fun bx hG => GX.gq (by rw [hZ.2]; exact zq_8_9 t ht) (q_exactSets (l := l) (G := G) hG hZ.1 (by omega) (nI 3))) ml_L_193 dL_law_1054 rfl rfl (by decide) (Nat.le_of_ble_eq_true rfl) ⟨by omega, by omega⟩ (fun f n hn hW => ?_)
  refine aw_if_ne (tgt := 1185) dL_law_1057 (by decide) (fun c => absurd nI_0 c) (fun _ => ?_)
  refine aw_aload dL_law_1060 rfl ?_
  refine aw_bipush_n 12 dL_law_1062 (by decide) ?_
  refine aw_iconst_n 0 dL_law_1064 (by decide) ?_
  refine aw_iconst_n 0 dL_law_1065 (by decide) ?_
  refine aw_x2 (as := [Value.ref z, Value.int (nI 12), Value.int (nI 0), Value.int (nI 0)]) (rest := []) mW_L_act hW (fun bx hG => GA.v (l_act_12 (l := l) (G := G) hG hZ.1 (by omega) (nI 0) (nI 0)) (by rw [hZ.2, zq_8_10 t ht] <;> rfl)) ml_L_30 dL_law_1066 rfl rfl (by decide) (Nat.le_of_ble_eq_true rfl) ⟨by omega, by omega⟩ (fun f n hn hW => ?_)
  refine aw_bipush (v := -2) dL_law_1069 (by decide) ?_
  refine aw_icmp_ne (tgt := 1185) dL_law_1071 (by decide) (fun c => absurd rfl c) (fun _ => ?_)
  refine aw_aload dL_law_1074 rfl ?_
  refine aw_aload dL_law_1076 rfl ?_
  refine aw_iconst_n 2 dL_law_1078 (by decide) ?_
  have hc9 : qCard sz.1 (nI 2) = (0, T238) := by rw [hZ.2]; exact zq_8_11 t ht
  refine aw_g2 (as := [Value.int (nI 2)]) (rest := [Value.ref z]) mV_X10_writeCard rfl hW (fun bx hG => GX.gc hc9 (q_writeCard (l := l) (G := G) hG hZ.1 (by omega) (nI 2))) ml_L_235 dL_law_1079 rfl rfl (by decide) (Nat.le_of_ble_eq_true rfl) ⟨by omega, by omega⟩ (fun f n hn hW => ?_)
  have hS1 : SB Kz (cardS sz (0, T238)) := by have h9 := hZ.1.card (nI 2); rw [hc9] at h9; exact h9
  obtain ⟨w1, w2, w3⟩ := und_card (s := sz) (q := (0, T238))
  refine aw_ldcS ls_238 (by decide) dL_law_1082 ?_
  obtain ⟨b9, hG9z, -⟩ := hW.swap.fst
  refine aw_sI (as := [Value.ref z, Value.int (nI T238.length), Value.ref 46]) (rest := []) mS_L_isCard (l_isCard (l := l) (G := G) hG9z hS1 rfl (fun _ _ => rfl) (Or.inl os_238) (by decide)) ml_L_240 dL_law_1084 rfl rfl (by decide) (Nat.le_of_ble_eq_true rfl) ⟨by omega, by omega⟩ ?_
  refine aw_if_eq (tgt := 1185) dL_law_1087 (by decide) (fun c => absurd c (by decide)) (fun _ => ?_)
  refine aw_aload dL_law_1090 rfl ?_
  refine aw_aload dL_law_1092 rfl ?_
  refine aw_iconst_n 0 dL_law_1094 (by decide) ?_
  have hc8 : qCard (cardS sz (0, T238)).1 (nI 0) = (0, TC (20 + t)) := by rw [w3, hZ.2]; exact zq_8_12 t ht
  refine aw_g2 (as := [Value.int (nI 0)]) (rest := [Value.ref z]) mV_X10_writeCard rfl hW (fun bx hG => GX.gc hc8 (q_writeCard (l := l) (G := G) hG hS1 (by omega) (nI 0))) ml_L_235 dL_law_1095 rfl rfl (by decide) (Nat.le_of_ble_eq_true rfl) ⟨by omega, by omega⟩ (fun f n hn hW => ?_)
  have hS2 : SB Kz (cardS (cardS sz (0, T238)) (0, TC (20 + t))) := by have h9 := hS1.card (nI 0); rw [hc8] at h9; exact h9
  obtain ⟨u1, u2, u3⟩ := und_card (s := cardS sz (0, T238)) (q := (0, TC (20 + t)))
  have hd8 := dl_am t ht
  have hW0 := hW
  refine aw_new4 fn_L_196 (by omega) (by omega) dL_law_1098 ?_
  refine aw_dup dL_law_1101 rfl ?_
  refine aw_iV (as := []) (rest := [Value.ref n, Value.int (nI (TC (20 + t)).length), Value.ref z]) mI_J4_init_da8c8 (b4_new (Nat.lt_succ_self n) up_self) ml_L_198 dL_law_1102 rfl rfl (by decide) (Nat.le_of_ble_eq_true rfl) ⟨by omega, by omega⟩ ?_
  have hk0 := BN.bJ (H := va_up f n (.inr (0, [.null, .int 0, .int 0, .int 0]))) (Nat.lt_succ_self n)
  have hF0 : ∀ a, a < n → BN (va_up f n (.inr (0, [.null, .int 0, .int 0, .int 0]))) n (n + 1) a = f a := fun a ha => (BN.out (by omega) (by omega)).trans (up_ne (by omega))
  refine aw_ldcS ls_244 (by decide) dL_law_1105 ?_
  refine aw_cP (as := [Value.ref 47]) (rest := [Value.int (nI (TC (20 + t)).length), Value.ref z]) (MV.c mV_J4_append_15ec4) (j4_str os_244 hk0 (by decide)) ml_L_201 (RC.w hk0.choose_spec.choose_spec.1 rfl) dL_law_1107 rfl rfl (by decide) (Nat.le_of_ble_eq_true rfl) ⟨by omega, by omega⟩ (fun _ _ _ h => by cases h.1) (fun r1 f1 n1 hn1 h => ?_)
  obtain ⟨g1, bp1, -, -, hb1, hk1, hB1⟩ := h
  cases g1
  have hF1 : ∀ a, a < n → f1 a = f a := fun a ha => (hB1 a (by omega) (by omega) (by omega)).trans (hF0 a ha)
  have hm1 : n ≤ bp1 := by omega
  refine aw_iload dL_law_1110 rfl ?_
  refine aw_iconst_n 1 dL_law_1112 (by decide) ?_
  refine aw_iload dL_law_1113 rfl ?_
  refine aw_bipush_n 20 dL_law_1115 (by decide) ?_
  refine aw_idiv_n (by omega) (by decide) (by decide) dL_law_1117 ?_
  refine aw_mmax_n (by decide) (by omega) ml_L_128 (by decide) (Nat.le_of_ble_eq_true rfl) (by omega) (by omega) dL_law_1118 ?_
  refine aw_isub_n (am_le t ht).2.2 dL_law_1121 ?_
  refine aw_cP (as := [Value.int (nI (am (20 + t)))]) (rest := [Value.int (nI (TC (20 + t)).length), Value.ref z]) (MV.c mV_J4_append_bf812) (j4_int hk1 (am_le t ht).2.1 (by show cpN 16 (6 + lenD (am (20 + t)) 9) ≤ 100; unfold cpN; rw [if_pos (by omega)]; omega)) ml_L_205 (RC.w hk1.choose_spec.choose_spec.1 rfl) dL_law_1122 rfl rfl (by decide) (Nat.le_of_ble_eq_true rfl) ⟨by omega, by omega⟩ (fun _ _ _ h => by cases h.1) (fun r2 f2 n2 hn2 h => ?_)
  obtain ⟨g1, bp2, -, -, hb2, hk2, hB2⟩ := h
  cases g1
  have hF2 : ∀ a, a < n → f2 a = f a := fun a ha => (hB2 a (by omega) (by omega) (by omega)).trans (hF1 a ha)
  have hm2 : n ≤ bp2 := by omega
  refine aw_ldcS ls_246 (by decide) dL_law_1125 ?_
  refine aw_cP (as := [Value.ref 48]) (rest := [Value.int (nI (TC (20 + t)).length), Value.ref z]) (MV.c mV_J4_append_15ec4) (j4_str os_246 hk2 (cp_c3 t ht)) ml_L_201 (RC.w hk2.choose_spec.choose_spec.1 rfl) dL_law_1127 rfl rfl (by decide) (Nat.le_of_ble_eq_true rfl) ⟨by omega, by omega⟩ (fun _ _ _ h => by cases h.1) (fun r3 f3 n3 hn3 h => ?_)
  obtain ⟨g1, bp3, -, -, hb3, hk3, hB3⟩ := h
  cases g1
  have hF3 : ∀ a, a < n → f3 a = f a := fun a ha => (hB3 a (by omega) (by omega) (by omega)).trans (hF2 a ha)
  refine aw_cP (as := []) (rest := [Value.int (nI (TC (20 + t)).length), Value.ref z]) (MV.c mV_J4_toString_0e30d) (t_str hk3 (cp_c4 t ht)) ml_L_210 (RC.w hk3.choose_spec.choose_spec.1 rfl) dL_law_1130 rfl rfl (by decide) (Nat.le_of_ble_eq_true rfl) ⟨by omega, by omega⟩ (fun _ _ _ h => by cases h.1) (fun r8 f8 n8 hn8 h => ?_)
  obtain ⟨g1, g2, hns9, hF8⟩ := h
  cases g1
  have hFz : ∀ a, a < n → f8 a = f a := fun a ha => (hF8 a (by omega)).trans (hF3 a ha)
  have hW := hW0.fr (f' := f8) (n' := n8) (by omega) hFz
  have hns8 : NS f8 n3 (n3 + 1) (TC (20 + t)) := hns9
  obtain ⟨b9, hG9z, -⟩ := hW.swap.fst
  refine aw_sI (as := [Value.ref z, Value.int (nI (TC (20 + t)).length), Value.ref n3]) (rest := []) mS_L_isCard (l_isCard (l := l) (G := G) hG9z hS2 rfl (fun _ _ => rfl) (Or.inr hns8) (tc_60 t ht)) ml_L_240 dL_law_1133 rfl rfl (by decide) (Nat.le_of_ble_eq_true rfl) ⟨by omega, by omega⟩ ?_
  refine aw_if_eq (tgt := 1185) dL_law_1136 (by decide) (fun c => absurd c (by decide)) (fun _ => ?_)
  refine aw_aload dL_law_1139 rfl ?_
  have hne : (cardS (cardS sz (0, T238)) (0, TC (20 + t))).2.1.1 ≠ 0 := by rw [u2, w2]; exact hU.2
  have hq7 := qUndo_le (cardS (cardS sz (0, T238)) (0, TC (20 + t)))
  have hq8 := hS2.2.1
  refine aw_g2 (as := []) (rest := []) mV_X10_undo rfl hW (fun bx hG => GX.ga (qUndo_ne hne) (q_undo (l := l) (G := G) hG hS2 (by omega))) ml_L_153 dL_law_1141 rfl rfl (by decide) (Nat.le_of_ble_eq_true rfl) ⟨by omega, by omega⟩ (fun f n hn hW => ?_)
  refine aw_if_lt_n (by omega) (tgt := 1185) dL_law_1144 (by decide) ?_
  have hZ : ZO Kz (undS (cardS (cardS sz (0, T238)) (0, TC (20 + t)))) (Z7 (20 + t)) := ⟨hS2.und, by rw [u1, w1]; exact hU.1⟩
  refine aw_aload dL_law_1147 rfl ?_
  refine aw_g2 (as := []) (rest := []) mV_X10_legCount rfl hW (fun bx hG => GA.v (GX.ga rfl (q_legCount (l := l) (G := G) hG hZ.1 (by omega))) (by rw [hZ.2, (z_l3 _)])) ml_L_110 dL_law_1149 rfl rfl (by decide) (Nat.le_of_ble_eq_true rfl) ⟨by omega, by omega⟩ (fun f n hn hW => ?_)
  refine aw_iconst_n 3 dL_law_1152 (by decide) ?_
  refine aw_icmp_ne (tgt := 1185) dL_law_1153 (by decide) (fun c => absurd rfl c) (fun _ => ?_)
  refine aw_aload dL_law_1156 rfl ?_
  refine aw_g2 (as := []) (rest := []) mV_X10_meanAmplitude rfl hW (fun bx hG => GX.gm (by rw [hZ.2]; exact zq_7_5 t ht) (q_meanAmplitude (l := l) (G := G) hG hZ.1 (by omega))) ml_L_248 dL_law_1158 rfl rfl (by decide) (Nat.le_of_ble_eq_true rfl) ⟨by omega, by omega⟩ (fun f n hn hW => ?_)
  refine aw_iload dL_law_1161 rfl ?_
  refine aw_iconst_n 1 dL_law_1163 (by decide) ?_
  refine aw_iload dL_law_1164 rfl ?_
  refine aw_bipush_n 20 dL_law_1166 (by decide) ?_
  refine aw_idiv_n (by omega) (by decide) (by decide) dL_law_1168 ?_
  refine aw_mmax_n (by decide) (by omega) ml_L_128 (by decide) (Nat.le_of_ble_eq_true rfl) (by omega) (by omega) dL_law_1169 ?_
  refine aw_isub_n (am_le t ht).2.2 dL_law_1172 ?_
  refine aw_bipush_n 8 dL_law_1173 (by decide) ?_
  refine aw_iadd_n dL_law_1175 ?_
  refine aw_i2d dL_law_1176 ?_
  refine aw_ldc2d k_252 dL_law_1177 ?_
  refine aw_ddiv (by rw [← two_d]; exact mean_num (am_le t ht).1 (by decide) (by decide)) dL_law_1180 ?_
  refine aw_dcmp dL_law_1181 ?_
  refine aw_if_eq (tgt := 1187) dL_law_1182 (by decide) (fun _ => ?_) (fun c => absurd (by rw [z_mean t ht]; decide +kernel) c)
  exact sg_10 (Kz := 0) hG9 ht hX hK _ _ _ _ hW (by omega) (by omega)
set_option maxHeartbeats 8000000 in
theorem sg_8 {l : Launch} {G : GT} {hh : List ExceptionTableEntry} {nm : String} (hG9 : gN G ≤ 260) {x z : Nat} {sx sz : SG} {V : Nat → Nat} {K Kz t : Nat} (ht : t < 32) (hX : XO K sx V) (hK : K ≤ 600000) (hZ : ZO Kz sz (Z4 (20 + t))) (hKz : Kz ≤ 90000) : ∀ (f : HT) (n nc ns : Nat), W2 f n x sx z sz → nc ≤ 160000 → ns ≤ 1600000 → AW l G (ML hh nm) 2048 94400 642731 7159190 LPo 67 nc ns 845 [(7, .ref z), (6, .int (nI (20 + t))), (4, .int (stN V)), (3, .int (nI (V 0))), (1, .ref x)] [] f n := by
  intro f n nc ns hW hnc hns
  refine aw_aload dL_law_845 rfl ?_
  refine aw_bipush_n 10 dL_law_847 (by decide) ?_
  have hq9 := zo_4 ht (by rw [← hZ.2]; exact hZ.1.1)
  rw [← hZ.2] at hq9
  have hZ9 := hZ.op hq9 (vq_leg hZ.1.1 (by omega) (nI 10))
  refine aw_g2 (as := [Value.int (nI 10)]) (rest := []) mV_X10_addLeg rfl hW (fun bx hG => GX.go hq9 (q_addLeg (l := l) (G := G) hG hZ.1 (by omega) (nI 10))) ml_L_54 dL_law_849 rfl rfl (by decide) (Nat.le_of_ble_eq_true rfl) ⟨by omega, by omega⟩ (fun f n hn hW => ?_)
  obtain ⟨s1, e9⟩ : ∃ s9, s9 = opS sz (0, 1, lv (Z5 (20 + t))) := ⟨_, rfl⟩
  rw [← e9] at hW hZ9
  have hZo := hZ
  have hZ := hZ9
  refine aw_iconst_n 1 dL_law_852 (by decide) ?_
  refine aw_icmp_ne (tgt := 968) dL_law_853 (by decide) (fun c => absurd rfl c) (fun _ => ?_)
  refine aw_aload dL_law_856 rfl ?_
  refine aw_bipush_n 12 dL_law_858 (by decide) ?_
  have hq9 := zo_5 ht (by rw [← hZ.2]; exact hZ.1.1)
  rw [← hZ.2] at hq9
  have hZ9 := hZ.op hq9 (vq_leg hZ.1.1 (by omega) (nI 12))
  refine aw_g2 (as := [Value.int (nI 12)]) (rest := []) mV_X10_addLeg rfl hW (fun bx hG => GX.go hq9 (q_addLeg (l := l) (G := G) hG hZ.1 (by omega) (nI 12))) ml_L_54 dL_law_860 rfl rfl (by decide) (Nat.le_of_ble_eq_true rfl) ⟨by omega, by omega⟩ (fun f n hn hW => ?_)
  obtain ⟨s2, e9⟩ : ∃ s9, s9 = opS s1 (0, 2, lv (Z6 (20 + t))) := ⟨_, rfl⟩
  rw [← e9] at hW hZ9
  have hZo := hZ
  have hZ := hZ9
  refine aw_iconst_n 2 dL_law_863 (by decide) ?_
  refine aw_icmp_ne (tgt := 968) dL_law_864 (by decide) (fun c => absurd rfl c) (fun _ => ?_)
  refine aw_aload dL_law_867 rfl ?_
  refine aw_bipush_n 60 dL_law_869 (by decide) ?_
  have hq9 := zo_6 ht (by rw [← hZ.2]; exact hZ.1.1)
  rw [← hZ.2] at hq9
  have hZ9 := hZ.op hq9 (vq_leg hZ.1.1 (by omega) (nI 60))
  refine aw_g2 (as := [Value.int (nI 60)]) (rest := []) mV_X10_addLeg rfl hW (fun bx hG => GX.go hq9 (q_addLeg (l := l) (G := G) hG hZ.1 (by omega) (nI 60))) ml_L_54 dL_law_871 rfl rfl (by decide) (Nat.le_of_ble_eq_true rfl) ⟨by omega, by omega⟩ (fun f n hn hW => ?_)
  obtain ⟨s3, e9⟩ : ∃ s9, s9 = opS s2 (0, 3, lv (Z7 (20 + t))) := ⟨_, rfl⟩
  rw [← e9] at hW hZ9
  have hZo := hZ
  have hZ := hZ9
  refine aw_iconst_n 3 dL_law_874 (by decide) ?_
  refine aw_icmp_ne (tgt := 968) dL_law_875 (by decide) (fun c => absurd rfl c) (fun _ => ?_)
  refine aw_aload dL_law_878 rfl ?_
  refine aw_g2 (as := []) (rest := []) mV_X10_leastRelay rfl hW (fun bx hG => GX.gq (by rw [hZ.2]; exact zq_7_0 t ht) (q_leastRelay (l := l) (G := G) hG hZ.1 (by omega) )) ml_L_66 dL_law_880 rfl rfl (by decide) (Nat.le_of_ble_eq_true rfl) ⟨by omega, by omega⟩ (fun f n hn hW => ?_)
  refine aw_iconst_n 5 dL_law_883 (by decide) ?_
  refine aw_icmp_ne (tgt := 968) dL_law_884 (by decide) (fun c => absurd rfl c) (fun _ => ?_)
  refine aw_aload dL_law_887 rfl ?_
  refine aw_g2 (as := []) (rest := []) mV_X10_leastRelayByTrying rfl hW (fun bx hG => GX.gq (by rw [hZ.2]; exact zq_7_0 t ht) (q_leastRelayByTrying (l := l) (G := G) hG hZ.1 (by omega) )) ml_L_69 dL_law_889 rfl rfl (by decide) (Nat.le_of_ble_eq_true rfl) ⟨by omega, by omega⟩ (fun f n hn hW => ?_)
  refine aw_iconst_n 5 dL_law_892 (by decide) ?_
  refine aw_icmp_ne (tgt := 968) dL_law_893 (by decide) (fun c => absurd rfl c) (fun _ => ?_)
  refine aw_aload dL_law_896 rfl ?_
  refine aw_iconst_n 0 dL_law_898 (by decide) ?_
  refine aw_g2 (as := [Value.int (nI 0)]) (rest := []) mV_X10_runnerOf rfl hW (fun bx hG => GX.gq (by rw [hZ.2]; exact zq_7_1 t ht) (q_runnerOf (l := l) (G := G) hG hZ.1 (by omega) (nI 0))) ml_L_72 dL_law_899 rfl rfl (by decide) (Nat.le_of_ble_eq_true rfl) ⟨by omega, by omega⟩ (fun f n hn hW => ?_)
  refine aw_if_ne (tgt := 968) dL_law_902 (by decide) (fun c => absurd nI_0 c) (fun _ => ?_)
  refine aw_aload dL_law_905 rfl ?_
  refine aw_iconst_n 1 dL_law_907 (by decide) ?_
  refine aw_g2 (as := [Value.int (nI 1)]) (rest := []) mV_X10_runnerOf rfl hW (fun bx hG => GX.gq (by rw [hZ.2]; exact zq_7_2 t ht) (q_runnerOf (l := l) (G := G) hG hZ.1 (by omega) (nI 1))) ml_L_72 dL_law_908 rfl rfl (by decide) (Nat.le_of_ble_eq_true rfl) ⟨by omega, by omega⟩ (fun f n hn hW => ?_)
  refine aw_iconst_n 1 dL_law_911 (by decide) ?_
  refine aw_icmp_ne (tgt := 968) dL_law_912 (by decide) (fun c => absurd rfl c) (fun _ => ?_)
  refine aw_aload dL_law_915 rfl ?_
  refine aw_iconst_n 2 dL_law_917 (by decide) ?_
  refine aw_g2 (as := [Value.int (nI 2)]) (rest := []) mV_X10_runnerOf rfl hW (fun bx hG => GX.gq (by rw [hZ.2]; exact zq_7_3 t ht) (q_runnerOf (l := l) (G := G) hG hZ.1 (by omega) (nI 2))) ml_L_72 dL_law_918 rfl rfl (by decide) (Nat.le_of_ble_eq_true rfl) ⟨by omega, by omega⟩ (fun f n hn hW => ?_)
  refine aw_iconst_n 3 dL_law_921 (by decide) ?_
  refine aw_icmp_ne (tgt := 968) dL_law_922 (by decide) (fun c => absurd rfl c) (fun _ => ?_)
  refine aw_aload dL_law_925 rfl ?_
  refine aw_bipush_n 11 dL_law_927 (by decide) ?_
  refine aw_iconst_n 3 dL_law_929 (by decide) ?_
  refine aw_iconst_n 0 dL_law_930 (by decide) ?_
  refine aw_x2 (as := [Value.ref z, Value.int (nI 11), Value.int (nI 3), Value.int (nI 0)]) (rest := []) mW_L_act hW (fun bx hG => GA.v (l_act_11 (l := l) (G := G) hG hZ.1 (by omega) (nI 3) (nI 0)) (by rw [hZ.2, zq_7_4 t ht] <;> rfl)) ml_L_30 dL_law_931 rfl rfl (by decide) (Nat.le_of_ble_eq_true rfl) ⟨by omega, by omega⟩ (fun f n hn hW => ?_)
  refine aw_iconst (v := -1) dL_law_934 (by decide) ?_
  refine aw_icmp_ne (tgt := 968) dL_law_935 (by decide) (fun c => absurd rfl c) (fun _ => ?_)
  refine aw_aload dL_law_938 rfl ?_
  refine aw_iconst_n 0 dL_law_940 (by decide) ?_
  have hq9 := zo_7 ht (by rw [← hZ.2]; exact hZ.1.1)
  rw [← hZ.2] at hq9
  have hZ9 := hZ.op hq9 (vq_cut hZ.1.1 (by omega) (nI 0))
  refine aw_g2 (as := [Value.int (nI 0)]) (rest := []) mV_X10_removeLeg rfl hW (fun bx hG => GX.go hq9 (q_removeLeg (l := l) (G := G) hG hZ.1 (by omega) (nI 0))) ml_L_57 dL_law_941 rfl rfl (by decide) (Nat.le_of_ble_eq_true rfl) ⟨by omega, by omega⟩ (fun f n hn hW => ?_)
  obtain ⟨s4, e9⟩ : ∃ s9, s9 = opS s3 (0, 10, lv (Z8 (20 + t))) := ⟨_, rfl⟩
  rw [← e9] at hW hZ9
  have hZo := hZ
  have hZ := hZ9
  have hU : (undS s4).1 = lv (Z7 (20 + t)) ∧ s4.2.1.1 ≠ 0 := by
    rw [e9, opS0]
    refine ⟨?_, push_ne⟩
    rw [undS_ne push_ne]
    exact push_top.trans hZo.2
  refine aw_bipush_n 10 dL_law_944 (by decide) ?_
  refine aw_icmp_ne (tgt := 968) dL_law_946 (by decide) (fun c => absurd rfl c) (fun _ => ?_)
  refine aw_aload dL_law_949 rfl ?_
  refine aw_g2 (as := []) (rest := []) mV_X10_leastRelay rfl hW (fun bx hG => GX.gq (by rw [hZ.2]; exact zq_8_0 t ht) (q_leastRelay (l := l) (G := G) hG hZ.1 (by omega) )) ml_L_66 dL_law_951 rfl rfl (by decide) (Nat.le_of_ble_eq_true rfl) ⟨by omega, by omega⟩ (fun f n hn hW => ?_)
  refine aw_iconst_n 1 dL_law_954 (by decide) ?_
  refine aw_icmp_ne (tgt := 968) dL_law_955 (by decide) (fun c => absurd rfl c) (fun _ => ?_)
  refine aw_aload dL_law_958 rfl ?_
  refine aw_iconst_n 0 dL_law_960 (by decide) ?_
  refine aw_g2 (as := [Value.int (nI 0)]) (rest := []) mV_X10_runnerOf rfl hW (fun bx hG => GX.gq (by rw [hZ.2]; exact zq_8_1 t ht) (q_runnerOf (l := l) (G := G) hG hZ.1 (by omega) (nI 0))) ml_L_72 dL_law_961 rfl rfl (by decide) (Nat.le_of_ble_eq_true rfl) ⟨by omega, by omega⟩ (fun f n hn hW => ?_)
  refine aw_iconst_n 1 dL_law_964 (by decide) ?_
  refine aw_icmp_eq (tgt := 970) dL_law_965 (by decide) (fun _ => ?_) (fun c => absurd rfl c)
  exact sg_9 hG9 ht hX hK hZ (by omega) hU _ _ _ _ hW (by omega) (by omega)
set_option maxHeartbeats 8000000 in
theorem sg_7 {l : Launch} {G : GT} {hh : List ExceptionTableEntry} {nm : String} (hG9 : gN G ≤ 260) {x z : Nat} {sx sz : SG} {V : Nat → Nat} {K Kz t : Nat} (ht : t < 32) (hX : XO K sx V) (hK : K ≤ 600000) (hZ : ZO Kz sz (Z1 (20 + t))) (hKz : Kz ≤ 80000) : ∀ (f : HT) (n nc ns : Nat), W2 f n x sx z sz → nc ≤ 140000 → ns ≤ 1400000 → AW l G (ML hh nm) 2048 94400 642731 7159190 LPo 67 nc ns 682 [(7, .ref z), (6, .int (nI (20 + t))), (4, .int (stN V)), (3, .int (nI (V 0))), (1, .ref x)] [] f n := by
  intro f n nc ns hW hnc hns
  refine aw_aload dL_law_682 rfl ?_
  refine aw_iconst_n 2 dL_law_684 (by decide) ?_
  refine aw_bipush_n 10 dL_law_685 (by decide) ?_
  have hq9 := zo_1 ht (by rw [← hZ.2]; exact hZ.1.1)
  rw [← hZ.2] at hq9
  have hZ9 := hZ.op hq9 (vq_push hZ.1.1 (by omega) (nI 2) (nI 10))
  refine aw_g2 (as := [Value.int (nI 2), Value.int (nI 10)]) (rest := []) mV_X10_push rfl hW (fun bx hG => GX.go hq9 (q_push (l := l) (G := G) hG hZ.1 (by omega) (nI 2) (nI 10))) ml_L_41 dL_law_687 rfl rfl (by decide) (Nat.le_of_ble_eq_true rfl) ⟨by omega, by omega⟩ (fun f n hn hW => ?_)
  obtain ⟨s1, e9⟩ : ∃ s9, s9 = opS sz (0, 10, lv (Z2 (20 + t))) := ⟨_, rfl⟩
  rw [← e9] at hW hZ9
  have hZo := hZ
  have hZ := hZ9
  refine aw_bipush_n 10 dL_law_690 (by decide) ?_
  refine aw_icmp_ne (tgt := 843) dL_law_692 (by decide) (fun c => absurd rfl c) (fun _ => ?_)
  refine aw_aload dL_law_695 rfl ?_
  refine aw_iconst_n 1 dL_law_697 (by decide) ?_
  refine aw_iconst_n 2 dL_law_698 (by decide) ?_
  refine aw_g2 (as := [Value.int (nI 1), Value.int (nI 2)]) (rest := []) mV_X10_meeting rfl hW (fun bx hG => GX.gq (by rw [hZ.2]; exact zq_2_0 t ht) (q_meeting (l := l) (G := G) hG hZ.1 (by omega) (nI 1) (nI 2))) ml_L_60 dL_law_699 rfl rfl (by decide) (Nat.le_of_ble_eq_true rfl) ⟨by omega, by omega⟩ (fun f n hn hW => ?_)
  refine aw_bipush_n 63 dL_law_702 (by decide) ?_
  refine aw_icmp_ne (tgt := 843) dL_law_704 (by decide) (fun c => absurd rfl c) (fun _ => ?_)
  refine aw_aload dL_law_707 rfl ?_
  refine aw_iconst_n 2 dL_law_709 (by decide) ?_
  refine aw_iconst_n 1 dL_law_710 (by decide) ?_
  refine aw_g2 (as := [Value.int (nI 2), Value.int (nI 1)]) (rest := []) mV_X10_meetingByDivisors rfl hW (fun bx hG => GX.gq (by rw [hZ.2]; exact zq_2_1 t ht) (q_meetingByDivisors (l := l) (G := G) hG hZ.1 (by omega) (nI 2) (nI 1))) ml_L_63 dL_law_711 rfl rfl (by decide) (Nat.le_of_ble_eq_true rfl) ⟨by omega, by omega⟩ (fun f n hn hW => ?_)
  refine aw_bipush_n 63 dL_law_714 (by decide) ?_
  refine aw_icmp_ne (tgt := 843) dL_law_716 (by decide) (fun c => absurd rfl c) (fun _ => ?_)
  refine aw_aload dL_law_719 rfl ?_
  refine aw_g2 (as := []) (rest := []) mV_X10_meetingPairs rfl hW (fun bx hG => GA.v (GX.ga rfl (q_meetingPairs (l := l) (G := G) hG hZ.1 (by omega))) (by rw [hZ.2, zp_2 t ht])) ml_L_190 dL_law_721 rfl rfl (by decide) (Nat.le_of_ble_eq_true rfl) ⟨by omega, by omega⟩ (fun f n hn hW => ?_)
  refine aw_iconst_n 1 dL_law_724 (by decide) ?_
  refine aw_icmp_ne (tgt := 843) dL_law_725 (by decide) (fun c => absurd rfl c) (fun _ => ?_)
  refine aw_aload dL_law_728 rfl ?_
  refine aw_iconst_n 3 dL_law_730 (by decide) ?_
  have hq9 := zo_2 ht (by rw [← hZ.2]; exact hZ.1.1)
  rw [← hZ.2] at hq9
  have hZ9 := hZ.op hq9 (vq_pass hZ.1.1 (by omega) (nI 3))
  refine aw_g2 (as := [Value.int (nI 3)]) (rest := []) mV_X10_pass rfl hW (fun bx hG => GX.go hq9 (q_pass (l := l) (G := G) hG hZ.1 (by omega) (nI 3))) ml_L_51 dL_law_731 rfl rfl (by decide) (Nat.le_of_ble_eq_true rfl) ⟨by omega, by omega⟩ (fun f n hn hW => ?_)
  obtain ⟨s2, e9⟩ : ∃ s9, s9 = opS s1 (0, 1, lv (Z3 (20 + t))) := ⟨_, rfl⟩
  rw [← e9] at hW hZ9
  have hZo := hZ
  have hZ := hZ9
  refine aw_iconst_n 1 dL_law_734 (by decide) ?_
  refine aw_icmp_ne (tgt := 843) dL_law_735 (by decide) (fun c => absurd rfl c) (fun _ => ?_)
  refine aw_aload dL_law_738 rfl ?_
  refine aw_g2 (as := []) (rest := []) mV_X10_clock rfl hW (fun bx hG => GA.v (GX.ga rfl (q_clock (l := l) (G := G) hG hZ.1 (by omega))) (by rw [hZ.2, (z_c6 _)])) ml_L_104 dL_law_740 rfl rfl (by decide) (Nat.le_of_ble_eq_true rfl) ⟨by omega, by omega⟩ (fun f n hn hW => ?_)
  refine aw_bipush_n 6 dL_law_743 (by decide) ?_
  refine aw_icmp_ne (tgt := 843) dL_law_745 (by decide) (fun c => absurd rfl c) (fun _ => ?_)
  refine aw_aload dL_law_748 rfl ?_
  refine aw_iconst_n 0 dL_law_750 (by decide) ?_
  refine aw_g2 (as := [Value.int (nI 0)]) (rest := []) mV_X10_amplitudeOf rfl hW (fun bx hG => GX.gq (by rw [hZ.2]; exact zq_3_0 t ht) (q_amplitudeOf (l := l) (G := G) hG hZ.1 (by omega) (nI 0))) ml_L_116 dL_law_751 rfl rfl (by decide) (Nat.le_of_ble_eq_true rfl) ⟨by omega, by omega⟩ (fun f n hn hW => ?_)
  refine aw_iload dL_law_754 rfl ?_
  refine aw_iconst_n 1 dL_law_756 (by decide) ?_
  refine aw_iload dL_law_757 rfl ?_
  refine aw_bipush_n 20 dL_law_759 (by decide) ?_
  refine aw_idiv_n (by omega) (by decide) (by decide) dL_law_761 ?_
  refine aw_mmax_n (by decide) (by omega) ml_L_128 (by decide) (Nat.le_of_ble_eq_true rfl) (by omega) (by omega) dL_law_762 ?_
  refine aw_isub_n (am_le t ht).2.2 dL_law_765 ?_
  refine aw_icmp_ne (tgt := 843) dL_law_766 (by decide) (fun c => absurd rfl c) (fun _ => ?_)
  refine aw_aload dL_law_769 rfl ?_
  refine aw_iconst_n 0 dL_law_771 (by decide) ?_
  refine aw_g2 (as := [Value.int (nI 0)]) (rest := []) mV_X10_swingsOf rfl hW (fun bx hG => GX.gq (by rw [hZ.2]; exact zq_3_1 t ht) (q_swingsOf (l := l) (G := G) hG hZ.1 (by omega) (nI 0))) ml_L_119 dL_law_772 rfl rfl (by decide) (Nat.le_of_ble_eq_true rfl) ⟨by omega, by omega⟩ (fun f n hn hW => ?_)
  refine aw_iconst_n 1 dL_law_775 (by decide) ?_
  refine aw_icmp_ne (tgt := 843) dL_law_776 (by decide) (fun c => absurd rfl c) (fun _ => ?_)
  refine aw_aload dL_law_779 rfl ?_
  refine aw_iconst_n 1 dL_law_781 (by decide) ?_
  refine aw_bipush_n 8 dL_law_782 (by decide) ?_
  refine aw_g2 (as := [Value.int (nI 1), Value.int (nI 8)]) (rest := []) mV_X10_amplitudeAfter rfl hW (fun bx hG => GX.gq (by rw [hZ.2]; exact zq_3_2 t ht) (q_amplitudeAfter (l := l) (G := G) hG hZ.1 (by omega) (nI 1) (nI 8))) ml_L_93 dL_law_784 rfl rfl (by decide) (Nat.le_of_ble_eq_true rfl) ⟨by omega, by omega⟩ (fun f n hn hW => ?_)
  refine aw_bipush_n 8 dL_law_787 (by decide) ?_
  refine aw_icmp_ne (tgt := 843) dL_law_789 (by decide) (fun c => absurd rfl c) (fun _ => ?_)
  refine aw_aload dL_law_792 rfl ?_
  refine aw_iconst_n 1 dL_law_794 (by decide) ?_
  refine aw_bipush_n 9 dL_law_795 (by decide) ?_
  refine aw_g2 (as := [Value.int (nI 1), Value.int (nI 9)]) (rest := []) mV_X10_amplitudeAfter rfl hW (fun bx hG => GX.gq (by rw [hZ.2]; exact zq_3_3 t ht) (q_amplitudeAfter (l := l) (G := G) hG hZ.1 (by omega) (nI 1) (nI 9))) ml_L_93 dL_law_797 rfl rfl (by decide) (Nat.le_of_ble_eq_true rfl) ⟨by omega, by omega⟩ (fun f n hn hW => ?_)
  refine aw_bipush_n 7 dL_law_800 (by decide) ?_
  refine aw_icmp_ne (tgt := 843) dL_law_802 (by decide) (fun c => absurd rfl c) (fun _ => ?_)
  refine aw_aload dL_law_805 rfl ?_
  refine aw_iconst_n 0 dL_law_807 (by decide) ?_
  refine aw_g2 (as := [Value.int (nI 0)]) (rest := []) mV_X10_pendulumAtRank rfl hW (fun bx hG => GX.gq (by rw [hZ.2]; exact zq_3_4 t ht) (q_pendulumAtRank (l := l) (G := G) hG hZ.1 (by omega) (nI 0))) ml_L_232 dL_law_808 rfl rfl (by decide) (Nat.le_of_ble_eq_true rfl) ⟨by omega, by omega⟩ (fun f n hn hW => ?_)
  refine aw_if_ne (tgt := 843) dL_law_811 (by decide) (fun c => absurd nI_0 c) (fun _ => ?_)
  refine aw_aload dL_law_814 rfl ?_
  refine aw_iconst_n 3 dL_law_816 (by decide) ?_
  refine aw_g2 (as := [Value.int (nI 3)]) (rest := []) mV_X10_pendulumAtRank rfl hW (fun bx hG => GX.gq (by rw [hZ.2]; exact zq_3_5 t ht) (q_pendulumAtRank (l := l) (G := G) hG hZ.1 (by omega) (nI 3))) ml_L_232 dL_law_817 rfl rfl (by decide) (Nat.le_of_ble_eq_true rfl) ⟨by omega, by omega⟩ (fun f n hn hW => ?_)
  refine aw_iconst_n 3 dL_law_820 (by decide) ?_
  refine aw_icmp_ne (tgt := 843) dL_law_821 (by decide) (fun c => absurd rfl c) (fun _ => ?_)
  refine aw_aload dL_law_824 rfl ?_
  refine aw_iconst_n 2 dL_law_826 (by decide) ?_
  have hq9 := zo_3 ht (by rw [← hZ.2]; exact hZ.1.1)
  rw [← hZ.2] at hq9
  have hZ9 := hZ.op hq9 (vq_catch hZ.1.1 (by omega) (nI 2))
  refine aw_g2 (as := [Value.int (nI 2)]) (rest := []) mV_X10_catchPendulum rfl hW (fun bx hG => GX.go hq9 (q_catchPendulum (l := l) (G := G) hG hZ.1 (by omega) (nI 2))) ml_L_45 dL_law_827 rfl rfl (by decide) (Nat.le_of_ble_eq_true rfl) ⟨by omega, by omega⟩ (fun f n hn hW => ?_)
  obtain ⟨s3, e9⟩ : ∃ s9, s9 = opS s2 (0, 10, lv (Z4 (20 + t))) := ⟨_, rfl⟩
  rw [← e9] at hW hZ9
  have hZo := hZ
  have hZ := hZ9
  refine aw_bipush_n 10 dL_law_830 (by decide) ?_
  refine aw_icmp_ne (tgt := 843) dL_law_832 (by decide) (fun c => absurd rfl c) (fun _ => ?_)
  refine aw_aload dL_law_835 rfl ?_
  refine aw_g2 (as := []) (rest := []) mV_X10_meetingPairs rfl hW (fun bx hG => GA.v (GX.ga rfl (q_meetingPairs (l := l) (G := G) hG hZ.1 (by omega))) (by rw [hZ.2, zp_4 t ht])) ml_L_190 dL_law_837 rfl rfl (by decide) (Nat.le_of_ble_eq_true rfl) ⟨by omega, by omega⟩ (fun f n hn hW => ?_)
  refine aw_if_eq (tgt := 845) dL_law_840 (by decide) (fun _ => ?_) (fun c => absurd nI_0 c)
  exact sg_8 hG9 ht hX hK hZ (by omega) _ _ _ _ hW (by omega) (by omega)
set_option maxHeartbeats 8000000 in
theorem sg_6 {l : Launch} {G : GT} {hh : List ExceptionTableEntry} {nm : String} (hG9 : gN G ≤ 260) {x z : Nat} {sx sz : SG} {V : Nat → Nat} {K Kz t : Nat} (ht : t < 32) (hX : XO K sx V) (hK : K ≤ 600000) (hZ : ZO Kz sz (Z1 (20 + t))) (hKz : Kz ≤ 80000) : ∀ (f : HT) (n nc ns : Nat), W2 f n x sx z sz → nc ≤ 120000 → ns ≤ 1200000 → AW l G (ML hh nm) 2048 94400 642731 7159190 LPo 67 nc ns 478 [(7, .ref z), (6, .int (nI (20 + t))), (4, .int (stN V)), (3, .int (nI (V 0))), (1, .ref x)] [] f n := by
  intro f n nc ns hW hnc hns
  refine aw_aload dL_law_478 rfl ?_
  refine aw_iconst_n 0 dL_law_480 (by decide) ?_
  refine aw_g2 (as := [Value.int (nI 0)]) (rest := []) mV_X10_periodOf rfl hW (fun bx hG => GX.gq (by rw [hZ.2]; exact zq_1_0 t ht) (q_periodOf (l := l) (G := G) hG hZ.1 (by omega) (nI 0))) ml_L_214 dL_law_481 rfl rfl (by decide) (Nat.le_of_ble_eq_true rfl) ⟨by omega, by omega⟩ (fun f n hn hW => ?_)
  refine aw_bipush_n 6 dL_law_484 (by decide) ?_
  refine aw_icmp_ne (tgt := 680) dL_law_486 (by decide) (fun c => absurd rfl c) (fun _ => ?_)
  refine aw_aload dL_law_489 rfl ?_
  refine aw_iconst_n 1 dL_law_491 (by decide) ?_
  refine aw_g2 (as := [Value.int (nI 1)]) (rest := []) mV_X10_periodOf rfl hW (fun bx hG => GX.gq (by rw [hZ.2]; exact zq_1_1 t ht) (q_periodOf (l := l) (G := G) hG hZ.1 (by omega) (nI 1))) ml_L_214 dL_law_492 rfl rfl (by decide) (Nat.le_of_ble_eq_true rfl) ⟨by omega, by omega⟩ (fun f n hn hW => ?_)
  refine aw_bipush_n 12 dL_law_495 (by decide) ?_
  refine aw_icmp_ne (tgt := 680) dL_law_497 (by decide) (fun c => absurd rfl c) (fun _ => ?_)
  refine aw_aload dL_law_500 rfl ?_
  refine aw_iconst_n 2 dL_law_502 (by decide) ?_
  refine aw_g2 (as := [Value.int (nI 2)]) (rest := []) mV_X10_periodOf rfl hW (fun bx hG => GX.gq (by rw [hZ.2]; exact zq_1_2 t ht) (q_periodOf (l := l) (G := G) hG hZ.1 (by omega) (nI 2))) ml_L_214 dL_law_503 rfl rfl (by decide) (Nat.le_of_ble_eq_true rfl) ⟨by omega, by omega⟩ (fun f n hn hW => ?_)
  refine aw_bipush_n 30 dL_law_506 (by decide) ?_
  refine aw_icmp_ne (tgt := 680) dL_law_508 (by decide) (fun c => absurd rfl c) (fun _ => ?_)
  refine aw_aload dL_law_511 rfl ?_
  refine aw_iconst_n 3 dL_law_513 (by decide) ?_
  refine aw_g2 (as := [Value.int (nI 3)]) (rest := []) mV_X10_periodOf rfl hW (fun bx hG => GX.gq (by rw [hZ.2]; exact zq_1_3 t ht) (q_periodOf (l := l) (G := G) hG hZ.1 (by omega) (nI 3))) ml_L_214 dL_law_514 rfl rfl (by decide) (Nat.le_of_ble_eq_true rfl) ⟨by omega, by omega⟩ (fun f n hn hW => ?_)
  refine aw_bipush_n 59 dL_law_517 (by decide) ?_
  refine aw_icmp_ne (tgt := 680) dL_law_519 (by decide) (fun c => absurd rfl c) (fun _ => ?_)
  refine aw_aload dL_law_522 rfl ?_
  refine aw_iconst_n 3 dL_law_524 (by decide) ?_
  refine aw_g2 (as := [Value.int (nI 3)]) (rest := []) mV_X10_periodByEstimates rfl hW (fun bx hG => GX.gq (by rw [hZ.2]; exact zq_1_3 t ht) (q_periodByEstimates (l := l) (G := G) hG hZ.1 (by omega) (nI 3))) ml_L_217 dL_law_525 rfl rfl (by decide) (Nat.le_of_ble_eq_true rfl) ⟨by omega, by omega⟩ (fun f n hn hW => ?_)
  refine aw_bipush_n 59 dL_law_528 (by decide) ?_
  refine aw_icmp_ne (tgt := 680) dL_law_530 (by decide) (fun c => absurd rfl c) (fun _ => ?_)
  refine aw_aload dL_law_533 rfl ?_
  refine aw_iconst_n 3 dL_law_535 (by decide) ?_
  refine aw_g2 (as := [Value.int (nI 3)]) (rest := []) mV_X10_classOf rfl hW (fun bx hG => GX.gq (by rw [hZ.2]; exact zq_1_4 t ht) (q_classOf (l := l) (G := G) hG hZ.1 (by omega) (nI 3))) ml_L_220 dL_law_536 rfl rfl (by decide) (Nat.le_of_ble_eq_true rfl) ⟨by omega, by omega⟩ (fun f n hn hW => ?_)
  refine aw_iconst_n 2 dL_law_539 (by decide) ?_
  refine aw_icmp_ne (tgt := 680) dL_law_540 (by decide) (fun c => absurd rfl c) (fun _ => ?_)
  refine aw_aload dL_law_543 rfl ?_
  refine aw_iconst_n 1 dL_law_545 (by decide) ?_
  refine aw_g2 (as := [Value.int (nI 1)]) (rest := []) mV_X10_startOf rfl hW (fun bx hG => GX.gq (by rw [hZ.2]; exact zq_1_5 t ht) (q_startOf (l := l) (G := G) hG hZ.1 (by omega) (nI 1))) ml_L_81 dL_law_546 rfl rfl (by decide) (Nat.le_of_ble_eq_true rfl) ⟨by omega, by omega⟩ (fun f n hn hW => ?_)
  refine aw_iconst_n 3 dL_law_549 (by decide) ?_
  refine aw_icmp_ne (tgt := 680) dL_law_550 (by decide) (fun c => absurd rfl c) (fun _ => ?_)
  refine aw_aload dL_law_553 rfl ?_
  refine aw_iconst_n 0 dL_law_555 (by decide) ?_
  refine aw_g2 (as := [Value.int (nI 0)]) (rest := []) mV_X10_recordOf rfl hW (fun bx hG => GX.gq (by rw [hZ.2]; exact zq_1_6 t ht) (q_recordOf (l := l) (G := G) hG hZ.1 (by omega) (nI 0))) ml_L_84 dL_law_556 rfl rfl (by decide) (Nat.le_of_ble_eq_true rfl) ⟨by omega, by omega⟩ (fun f n hn hW => ?_)
  refine aw_iload dL_law_559 rfl ?_
  refine aw_icmp_ne (tgt := 680) dL_law_561 (by decide) (fun c => absurd rfl c) (fun _ => ?_)
  refine aw_aload dL_law_564 rfl ?_
  refine aw_iconst_n 0 dL_law_566 (by decide) ?_
  refine aw_g2 (as := [Value.int (nI 0)]) (rest := []) mV_X10_holderOf rfl hW (fun bx hG => GX.gq (by rw [hZ.2]; exact zq_1_7 t ht) (q_holderOf (l := l) (G := G) hG hZ.1 (by omega) (nI 0))) ml_L_87 dL_law_567 rfl rfl (by decide) (Nat.le_of_ble_eq_true rfl) ⟨by omega, by omega⟩ (fun f n hn hW => ?_)
  refine aw_if_ne (tgt := 680) dL_law_570 (by decide) (fun c => absurd nI_0 c) (fun _ => ?_)
  refine aw_aload dL_law_573 rfl ?_
  refine aw_bipush_n 7 dL_law_575 (by decide) ?_
  refine aw_iconst_n 0 dL_law_577 (by decide) ?_
  refine aw_iconst_n 1 dL_law_578 (by decide) ?_
  refine aw_x2 (as := [Value.ref z, Value.int (nI 7), Value.int (nI 0), Value.int (nI 1)]) (rest := []) mW_L_act hW (fun bx hG => GA.v (l_act_7 (l := l) (G := G) hG hZ.1 (by omega) (nI 0) (nI 1)) (by rw [hZ.2, zq_1_8 t ht] <;> rfl)) ml_L_30 dL_law_579 rfl rfl (by decide) (Nat.le_of_ble_eq_true rfl) ⟨by omega, by omega⟩ (fun f n hn hW => ?_)
  refine aw_bipush (v := -4) dL_law_582 (by decide) ?_
  refine aw_icmp_ne (tgt := 680) dL_law_584 (by decide) (fun c => absurd rfl c) (fun _ => ?_)
  refine aw_aload dL_law_587 rfl ?_
  refine aw_bipush_n 8 dL_law_589 (by decide) ?_
  refine aw_iconst_n 0 dL_law_591 (by decide) ?_
  refine aw_iconst_n 1 dL_law_592 (by decide) ?_
  refine aw_x2 (as := [Value.ref z, Value.int (nI 8), Value.int (nI 0), Value.int (nI 1)]) (rest := []) mW_L_act hW (fun bx hG => GA.v (l_act_8 (l := l) (G := G) hG hZ.1 (by omega) (nI 0) (nI 1)) (by rw [hZ.2, zq_1_8 t ht] <;> rfl)) ml_L_30 dL_law_593 rfl rfl (by decide) (Nat.le_of_ble_eq_true rfl) ⟨by omega, by omega⟩ (fun f n hn hW => ?_)
  refine aw_bipush (v := -4) dL_law_596 (by decide) ?_
  refine aw_icmp_ne (tgt := 680) dL_law_598 (by decide) (fun c => absurd rfl c) (fun _ => ?_)
  refine aw_aload dL_law_601 rfl ?_
  refine aw_g2 (as := []) (rest := []) mV_X10_meetingPairs rfl hW (fun bx hG => GA.v (GX.ga rfl (q_meetingPairs (l := l) (G := G) hG hZ.1 (by omega))) (by rw [hZ.2, zp_1 t ht])) ml_L_190 dL_law_603 rfl rfl (by decide) (Nat.le_of_ble_eq_true rfl) ⟨by omega, by omega⟩ (fun f n hn hW => ?_)
  refine aw_if_ne (tgt := 680) dL_law_606 (by decide) (fun c => absurd nI_0 c) (fun _ => ?_)
  refine aw_aload dL_law_609 rfl ?_
  refine aw_bipush_n 7 dL_law_611 (by decide) ?_
  refine aw_iconst_n 0 dL_law_613 (by decide) ?_
  refine aw_iconst_n 2 dL_law_614 (by decide) ?_
  refine aw_x2 (as := [Value.ref z, Value.int (nI 7), Value.int (nI 0), Value.int (nI 2)]) (rest := []) mW_L_act hW (fun bx hG => GA.v (l_act_7 (l := l) (G := G) hG hZ.1 (by omega) (nI 0) (nI 2)) (by rw [hZ.2, zq_1_9 t ht] <;> rfl)) ml_L_30 dL_law_615 rfl rfl (by decide) (Nat.le_of_ble_eq_true rfl) ⟨by omega, by omega⟩ (fun f n hn hW => ?_)
  refine aw_bipush (v := -3) dL_law_618 (by decide) ?_
  refine aw_icmp_ne (tgt := 680) dL_law_620 (by decide) (fun c => absurd rfl c) (fun _ => ?_)
  refine aw_aload dL_law_623 rfl ?_
  refine aw_iconst_n 1 dL_law_625 (by decide) ?_
  refine aw_iconst_n 2 dL_law_626 (by decide) ?_
  refine aw_g2 (as := [Value.int (nI 1), Value.int (nI 2)]) (rest := []) mV_X10_cycleOf rfl hW (fun bx hG => GX.gq (by rw [hZ.2]; exact zq_1_10 t ht) (q_cycleOf (l := l) (G := G) hG hZ.1 (by omega) (nI 1) (nI 2))) ml_L_223 dL_law_627 rfl rfl (by decide) (Nat.le_of_ble_eq_true rfl) ⟨by omega, by omega⟩ (fun f n hn hW => ?_)
  refine aw_bipush_n 60 dL_law_630 (by decide) ?_
  refine aw_icmp_ne (tgt := 680) dL_law_632 (by decide) (fun c => absurd rfl c) (fun _ => ?_)
  refine aw_aload dL_law_635 rfl ?_
  refine aw_iconst_n 0 dL_law_637 (by decide) ?_
  refine aw_iconst_n 0 dL_law_638 (by decide) ?_
  refine aw_g2 (as := [Value.int (nI 0), Value.int (nI 0)]) (rest := []) mV_X10_meeting rfl hW (fun bx hG => GX.gq (by rw [hZ.2]; exact zq_1_11 t ht) (q_meeting (l := l) (G := G) hG hZ.1 (by omega) (nI 0) (nI 0))) ml_L_60 dL_law_639 rfl rfl (by decide) (Nat.le_of_ble_eq_true rfl) ⟨by omega, by omega⟩ (fun f n hn hW => ?_)
  refine aw_bipush_n 6 dL_law_642 (by decide) ?_
  refine aw_icmp_ne (tgt := 680) dL_law_644 (by decide) (fun c => absurd rfl c) (fun _ => ?_)
  refine aw_aload dL_law_647 rfl ?_
  refine aw_iconst_n 1 dL_law_649 (by decide) ?_
  refine aw_g2 (as := [Value.int (nI 1)]) (rest := []) mV_X10_restTick rfl hW (fun bx hG => GX.gq (by rw [hZ.2]; exact zq_1_12 t ht) (q_restTick (l := l) (G := G) hG hZ.1 (by omega) (nI 1))) ml_L_90 dL_law_650 rfl rfl (by decide) (Nat.le_of_ble_eq_true rfl) ⟨by omega, by omega⟩ (fun f n hn hW => ?_)
  refine aw_bipush_n 99 dL_law_653 (by decide) ?_
  refine aw_icmp_ne (tgt := 680) dL_law_655 (by decide) (fun c => absurd rfl c) (fun _ => ?_)
  refine aw_aload dL_law_658 rfl ?_
  refine aw_iconst_n 1 dL_law_660 (by decide) ?_
  refine aw_g2 (as := [Value.int (nI 1)]) (rest := []) mV_X10_swingsToRest rfl hW (fun bx hG => GX.gq (by rw [hZ.2]; exact zq_1_13 t ht) (q_swingsToRest (l := l) (G := G) hG hZ.1 (by omega) (nI 1))) ml_L_226 dL_law_661 rfl rfl (by decide) (Nat.le_of_ble_eq_true rfl) ⟨by omega, by omega⟩ (fun f n hn hW => ?_)
  refine aw_bipush_n 8 dL_law_664 (by decide) ?_
  refine aw_icmp_ne (tgt := 680) dL_law_666 (by decide) (fun c => absurd rfl c) (fun _ => ?_)
  refine aw_aload dL_law_669 rfl ?_
  refine aw_iconst_n 1 dL_law_671 (by decide) ?_
  refine aw_g2 (as := [Value.int (nI 1)]) (rest := []) mV_X10_swingsToRestByTable rfl hW (fun bx hG => GX.gq (by rw [hZ.2]; exact zq_1_13 t ht) (q_swingsToRestByTable (l := l) (G := G) hG hZ.1 (by omega) (nI 1))) ml_L_229 dL_law_672 rfl rfl (by decide) (Nat.le_of_ble_eq_true rfl) ⟨by omega, by omega⟩ (fun f n hn hW => ?_)
  refine aw_bipush_n 8 dL_law_675 (by decide) ?_
  refine aw_icmp_eq (tgt := 682) dL_law_677 (by decide) (fun _ => ?_) (fun c => absurd rfl c)
  exact sg_7 hG9 ht hX hK hZ hKz _ _ _ _ hW (by omega) (by omega)
