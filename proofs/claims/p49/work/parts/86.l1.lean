set_option maxHeartbeats 8000000 in
theorem sg_3 {l : Launch} {G : GT} {hh : List ExceptionTableEntry} {nm : String} (hG9 : gN G ≤ 260) {x y : Nat} {sx sy : SG} {V : Nat → Nat} {K : Nat} (hX : XO K sx V) (hK : K ≤ 200000) (hf : sx.2.2.2.2.1.2 = nI 0) : ∀ (f : HT) (n nc ns : Nat), W2 f n x sx y sy → nc ≤ 60000 → ns ≤ 600000 → AW l G (ML hh nm) 2048 94400 642731 7159190 LPo 67 nc ns 190 [(4, .int (stN V)), (3, .int (nI (V 0))), (1, .ref x), (0, .ref 0)] [] f n := by
  intro f n nc ns hW hnc hns
  have hXo := hX
  obtain ⟨s0, e0, p0, q0, hX⟩ := hX.bad (by omega) ok_166 rd_166
  rw [hf] at q0
  have hf := q0
  refine aw_aload_n dL_law_190 rfl rfl ?_
  refine aw_ldcS ls_166 (by decide) dL_law_191 ?_
  refine aw_iconst_n 1 dL_law_193 (by decide) ?_
  refine aw_t1 (as := [Value.ref x, Value.ref 34, Value.int (nI 1)]) (rest := []) mS_L_fails hW (fun bx hG => l_fails (l := l) (G := G) hG hXo.1 (by omega) hXo.2.2.2 ok_166 (Or.inl os_166) (Or.inl os_166) e0 p0 (by decide)) ml_L_168 dL_law_194 rfl rfl (by decide) (Nat.le_of_ble_eq_true rfl) ⟨by omega, by omega⟩ (fun f n hn hW => ?_)
  refine aw_if_eq (tgt := 310) dL_law_197 (by decide) (fun c => absurd c (by decide)) (fun _ => ?_)
  have hXo := hX
  obtain ⟨s1, e1, p1, q1, hX⟩ := hX.bad (by omega) ok_172 rd_172
  rw [hf] at q1
  have hf := q1
  refine aw_aload_n dL_law_200 rfl rfl ?_
  refine aw_ldcS ls_172 (by decide) dL_law_201 ?_
  refine aw_bipush_n 6 dL_law_203 (by decide) ?_
  refine aw_t1 (as := [Value.ref x, Value.ref 35, Value.int (nI 6)]) (rest := []) mS_L_fails hW (fun bx hG => l_fails (l := l) (G := G) hG hXo.1 (by omega) hXo.2.2.2 ok_172 (Or.inl os_172) (Or.inl os_172) e1 p1 (by decide)) ml_L_168 dL_law_205 rfl rfl (by decide) (Nat.le_of_ble_eq_true rfl) ⟨by omega, by omega⟩ (fun f n hn hW => ?_)
  refine aw_if_eq (tgt := 310) dL_law_208 (by decide) (fun c => absurd c (by decide)) (fun _ => ?_)
  have hXo := hX
  obtain ⟨s2, e2, p2, q2, hX⟩ := hX.bad (by omega) ok_174 rd_174
  rw [hf] at q2
  have hf := q2
  refine aw_aload_n dL_law_211 rfl rfl ?_
  refine aw_ldcS ls_174 (by decide) dL_law_212 ?_
  refine aw_bipush_n 8 dL_law_214 (by decide) ?_
  refine aw_t1 (as := [Value.ref x, Value.ref 36, Value.int (nI 8)]) (rest := []) mS_L_fails hW (fun bx hG => l_fails (l := l) (G := G) hG hXo.1 (by omega) hXo.2.2.2 ok_174 (Or.inl os_174) (Or.inl os_174) e2 p2 (by decide)) ml_L_168 dL_law_216 rfl rfl (by decide) (Nat.le_of_ble_eq_true rfl) ⟨by omega, by omega⟩ (fun f n hn hW => ?_)
  refine aw_if_eq (tgt := 310) dL_law_219 (by decide) (fun c => absurd c (by decide)) (fun _ => ?_)
  have hXo := hX
  obtain ⟨s3, e3, p3, q3, hX⟩ := hX.bad (by omega) ok_176 rd_176
  rw [hf] at q3
  have hf := q3
  refine aw_aload_n dL_law_222 rfl rfl ?_
  refine aw_ldcS ls_176 (by decide) dL_law_223 ?_
  refine aw_iconst_n 0 dL_law_225 (by decide) ?_
  refine aw_t1 (as := [Value.ref x, Value.ref 37, Value.int (nI 0)]) (rest := []) mS_L_fails hW (fun bx hG => l_fails (l := l) (G := G) hG hXo.1 (by omega) hXo.2.2.2 ok_176 (Or.inl os_176) (Or.inl os_176) e3 p3 (by decide)) ml_L_168 dL_law_226 rfl rfl (by decide) (Nat.le_of_ble_eq_true rfl) ⟨by omega, by omega⟩ (fun f n hn hW => ?_)
  refine aw_if_eq (tgt := 310) dL_law_229 (by decide) (fun c => absurd c (by decide)) (fun _ => ?_)
  have hXo := hX
  obtain ⟨s4, e4, p4, q4, hX⟩ := hX.bad (by omega) ok_178 rd_178
  rw [hf] at q4
  have hf := q4
  refine aw_aload_n dL_law_232 rfl rfl ?_
  refine aw_ldcS ls_178 (by decide) dL_law_233 ?_
  refine aw_bipush_n 6 dL_law_235 (by decide) ?_
  refine aw_t1 (as := [Value.ref x, Value.ref 38, Value.int (nI 6)]) (rest := []) mS_L_fails hW (fun bx hG => l_fails (l := l) (G := G) hG hXo.1 (by omega) hXo.2.2.2 ok_178 (Or.inl os_178) (Or.inl os_178) e4 p4 (by decide)) ml_L_168 dL_law_237 rfl rfl (by decide) (Nat.le_of_ble_eq_true rfl) ⟨by omega, by omega⟩ (fun f n hn hW => ?_)
  refine aw_if_eq (tgt := 310) dL_law_240 (by decide) (fun c => absurd c (by decide)) (fun _ => ?_)
  have hXo := hX
  obtain ⟨s5, e5, p5, q5, hX⟩ := hX.bad (by omega) ok_180 rd_180
  rw [hf] at q5
  have hf := q5
  refine aw_aload_n dL_law_243 rfl rfl ?_
  refine aw_ldcS ls_180 (by decide) dL_law_244 ?_
  refine aw_iconst_n 1 dL_law_246 (by decide) ?_
  refine aw_t1 (as := [Value.ref x, Value.ref 39, Value.int (nI 1)]) (rest := []) mS_L_fails hW (fun bx hG => l_fails (l := l) (G := G) hG hXo.1 (by omega) hXo.2.2.2 ok_180 (Or.inl os_180) (Or.inl os_180) e5 p5 (by decide)) ml_L_168 dL_law_247 rfl rfl (by decide) (Nat.le_of_ble_eq_true rfl) ⟨by omega, by omega⟩ (fun f n hn hW => ?_)
  refine aw_if_eq (tgt := 310) dL_law_250 (by decide) (fun c => absurd c (by decide)) (fun _ => ?_)
  have hXo := hX
  obtain ⟨s6, e6, p6, q6, hX⟩ := hX.bad (by omega) ok_182 rd_182
  rw [hf] at q6
  have hf := q6
  refine aw_aload_n dL_law_253 rfl rfl ?_
  refine aw_ldcS ls_182 (by decide) dL_law_254 ?_
  refine aw_iconst_n 3 dL_law_256 (by decide) ?_
  refine aw_t1 (as := [Value.ref x, Value.ref 40, Value.int (nI 3)]) (rest := []) mS_L_fails hW (fun bx hG => l_fails (l := l) (G := G) hG hXo.1 (by omega) hXo.2.2.2 ok_182 (Or.inl os_182) (Or.inl os_182) e6 p6 (by decide)) ml_L_168 dL_law_257 rfl rfl (by decide) (Nat.le_of_ble_eq_true rfl) ⟨by omega, by omega⟩ (fun f n hn hW => ?_)
  refine aw_if_eq (tgt := 310) dL_law_260 (by decide) (fun c => absurd c (by decide)) (fun _ => ?_)
  have hXo := hX
  obtain ⟨s7, e7, p7, q7, hX⟩ := hX.bad (by omega) ok_184 rd_184
  rw [hf] at q7
  have hf := q7
  refine aw_aload_n dL_law_263 rfl rfl ?_
  refine aw_ldcS ls_184 (by decide) dL_law_264 ?_
  refine aw_iconst_n 5 dL_law_266 (by decide) ?_
  refine aw_t1 (as := [Value.ref x, Value.ref 41, Value.int (nI 5)]) (rest := []) mS_L_fails hW (fun bx hG => l_fails (l := l) (G := G) hG hXo.1 (by omega) hXo.2.2.2 ok_184 (Or.inl os_184) (Or.inl os_184) e7 p7 (by decide)) ml_L_168 dL_law_267 rfl rfl (by decide) (Nat.le_of_ble_eq_true rfl) ⟨by omega, by omega⟩ (fun f n hn hW => ?_)
  refine aw_if_eq (tgt := 310) dL_law_270 (by decide) (fun c => absurd c (by decide)) (fun _ => ?_)
  have hXo := hX
  obtain ⟨s8, e8, p8, q8, hX⟩ := hX.bad (by omega) ok_186 rd_186
  rw [hf] at q8
  have hf := q8
  refine aw_aload_n dL_law_273 rfl rfl ?_
  refine aw_ldcS ls_186 (by decide) dL_law_274 ?_
  refine aw_bipush_n 9 dL_law_276 (by decide) ?_
  refine aw_t1 (as := [Value.ref x, Value.ref 42, Value.int (nI 9)]) (rest := []) mS_L_fails hW (fun bx hG => l_fails (l := l) (G := G) hG hXo.1 (by omega) hXo.2.2.2 ok_186 (Or.inl os_186) (Or.inl os_186) e8 p8 (by decide)) ml_L_168 dL_law_278 rfl rfl (by decide) (Nat.le_of_ble_eq_true rfl) ⟨by omega, by omega⟩ (fun f n hn hW => ?_)
  refine aw_if_eq (tgt := 310) dL_law_281 (by decide) (fun c => absurd c (by decide)) (fun _ => ?_)
  have hXo := hX
  obtain ⟨s9, e9, p9, q9, hX⟩ := hX.bad (by omega) ok_188 rd_188
  rw [hf] at q9
  have hf := q9
  refine aw_aload_n dL_law_284 rfl rfl ?_
  refine aw_ldcS ls_188 (by decide) dL_law_285 ?_
  refine aw_iconst_n 0 dL_law_287 (by decide) ?_
  refine aw_t1 (as := [Value.ref x, Value.ref 43, Value.int (nI 0)]) (rest := []) mS_L_fails hW (fun bx hG => l_fails (l := l) (G := G) hG hXo.1 (by omega) hXo.2.2.2 ok_188 (Or.inl os_188) (Or.inl os_188) e9 p9 (by decide)) ml_L_168 dL_law_288 rfl rfl (by decide) (Nat.le_of_ble_eq_true rfl) ⟨by omega, by omega⟩ (fun f n hn hW => ?_)
  refine aw_if_eq (tgt := 310) dL_law_291 (by decide) (fun c => absurd c (by decide)) (fun _ => ?_)
  refine aw_aload_n dL_law_294 rfl rfl ?_
  refine aw_g1 (as := []) (rest := []) mV_X10_failedCommand rfl hW (fun bx hG => GX.gf (e := 0) (s2 := sg0) (by decide) hf (q_failedCommand (l := l) (G := G) hG hX.1 (by omega))) ml_L_161 dL_law_295 rfl rfl (by decide) (Nat.le_of_ble_eq_true rfl) ⟨by omega, by omega⟩ (fun f n hn hW => ?_)
  refine aw_if_ne (tgt := 310) dL_law_298 (by decide) (fun c => absurd nI_0 c) (fun _ => ?_)
  refine aw_aload_n dL_law_301 rfl rfl ?_
  refine aw_t1 (as := [Value.ref x]) (rest := []) mS_L_state hW (fun bx hG => l_state (l := l) (G := G) hG hX.1 (by omega)) ml_L_140 dL_law_302 rfl rfl (by decide) (Nat.le_of_ble_eq_true rfl) ⟨by omega, by omega⟩ (fun f n hn hW => ?_)
  refine aw_iload dL_law_305 rfl ?_
  refine aw_icmp_eq (tgt := 312) dL_law_307 (by decide) (fun _ => ?_) (fun c => absurd (by rw [hX.2.1]) c)
  exact sg_4 hG9 hX (by omega) _ _ _ _ hW (by omega) (by omega)
set_option maxHeartbeats 8000000 in
theorem sg_2 {l : Launch} {G : GT} {hh : List ExceptionTableEntry} {nm : String} (hG9 : gN G ≤ 260) {x y : Nat} {sx sy : SG} {V : Nat → Nat} {K : Nat} (hX : XO K sx V) (hK : K ≤ 120000) : ∀ (f : HT) (n nc ns : Nat), W2 f n x sx y sy → nc ≤ 40000 → ns ≤ 400000 → AW l G (ML hh nm) 2048 94400 642731 7159190 LPo 67 nc ns 123 [(4, .int (stN V)), (3, .int (nI (V 0))), (1, .ref x), (0, .ref 0)] [] f n := by
  intro f n nc ns hW hnc hns
  obtain ⟨W9, hr9⟩ := rn_156 V
  have hc8 : V 2 ≤ 8 := by rw [← hX.2.1]; exact hX.1.1.cnt
  have hXo := hX
  obtain ⟨s1, e9, p9, hX⟩ := hX.stop (by omega) ok_156 rd_156 hr9
  refine aw_aload_n dL_law_123 rfl rfl ?_
  refine aw_ldcS ls_156 (by decide) dL_law_124 ?_
  refine aw_t1 (as := [Value.ref x, Value.ref 32]) (rest := []) mS_L_put hW (fun bx hG => l_put (l := l) (G := G) hG hXo.1 (by omega) hXo.2.2.2 ok_156 (Or.inl os_156) (Or.inl os_156)) ml_L_146 dL_law_126 rfl rfl (by decide) (Nat.le_of_ble_eq_true rfl) ⟨by omega, by omega⟩ (fun f n hn hW => ?_)
  refine aw_aload_n dL_law_129 rfl rfl ?_
  refine aw_x1 (as := [Value.ref x]) (rest := []) mW_L_runs hW (fun bx hG => GX.gr e9 (v := -2) rfl (l_runs (l := l) (G := G) hG (hXo.1.tx ok_156 (Nat.le_refl _)) (by omega))) ml_L_158 dL_law_130 rfl rfl (by decide) (Nat.le_of_ble_eq_true rfl) ⟨by omega, by omega⟩ (fun f n hn hW => ?_)
  refine aw_bipush (v := -2) dL_law_133 (by decide) ?_
  refine aw_icmp_ne (tgt := 155) dL_law_135 (by decide) (fun c => absurd rfl c) (fun _ => ?_)
  refine aw_aload_n dL_law_138 rfl rfl ?_
  refine aw_g1 (as := []) (rest := []) mV_X10_failedCommand rfl hW (fun bx hG => GX.gf (e := 0) (s2 := sg0) (by decide) p9 (q_failedCommand (l := l) (G := G) hG hX.1 (by omega))) ml_L_161 dL_law_139 rfl rfl (by decide) (Nat.le_of_ble_eq_true rfl) ⟨by omega, by omega⟩ (fun f n hn hW => ?_)
  refine aw_iconst_n 1 dL_law_142 (by decide) ?_
  refine aw_icmp_ne (tgt := 155) dL_law_143 (by decide) (fun c => absurd rfl c) (fun _ => ?_)
  refine aw_aload_n dL_law_146 rfl rfl ?_
  refine aw_t1 (as := [Value.ref x]) (rest := []) mS_L_state hW (fun bx hG => l_state (l := l) (G := G) hG hX.1 (by omega)) ml_L_140 dL_law_147 rfl rfl (by decide) (Nat.le_of_ble_eq_true rfl) ⟨by omega, by omega⟩ (fun f n hn hW => ?_)
  refine aw_iload dL_law_150 rfl ?_
  refine aw_icmp_eq (tgt := 157) dL_law_152 (by decide) (fun _ => ?_) (fun c => absurd (by rw [hX.2.1]) c)
  have hXo := hX
  obtain ⟨s2, e9, p9, hX⟩ := hX.stop (by omega) ok_164 rd_164 (rn_164 hc8)
  refine aw_aload_n dL_law_157 rfl rfl ?_
  refine aw_ldcS ls_164 (by decide) dL_law_158 ?_
  refine aw_t1 (as := [Value.ref x, Value.ref 33]) (rest := []) mS_L_put hW (fun bx hG => l_put (l := l) (G := G) hG hXo.1 (by omega) hXo.2.2.2 ok_164 (Or.inl os_164) (Or.inl os_164)) ml_L_146 dL_law_160 rfl rfl (by decide) (Nat.le_of_ble_eq_true rfl) ⟨by omega, by omega⟩ (fun f n hn hW => ?_)
  refine aw_aload_n dL_law_163 rfl rfl ?_
  refine aw_x1 (as := [Value.ref x]) (rest := []) mW_L_runs hW (fun bx hG => GX.gr e9 (v := -2) rfl (l_runs (l := l) (G := G) hG (hXo.1.tx ok_164 (Nat.le_refl _)) (by omega))) ml_L_158 dL_law_164 rfl rfl (by decide) (Nat.le_of_ble_eq_true rfl) ⟨by omega, by omega⟩ (fun f n hn hW => ?_)
  refine aw_bipush (v := -2) dL_law_167 (by decide) ?_
  refine aw_icmp_ne (tgt := 188) dL_law_169 (by decide) (fun c => absurd rfl c) (fun _ => ?_)
  refine aw_aload_n dL_law_172 rfl rfl ?_
  refine aw_g1 (as := []) (rest := []) mV_X10_failedCommand rfl hW (fun bx hG => GX.gf (e := 0) (s2 := sg0) (by decide) p9 (q_failedCommand (l := l) (G := G) hG hX.1 (by omega))) ml_L_161 dL_law_173 rfl rfl (by decide) (Nat.le_of_ble_eq_true rfl) ⟨by omega, by omega⟩ (fun f n hn hW => ?_)
  refine aw_if_ne (tgt := 188) dL_law_176 (by decide) (fun c => absurd nI_0 c) (fun _ => ?_)
  refine aw_aload_n dL_law_179 rfl rfl ?_
  refine aw_t1 (as := [Value.ref x]) (rest := []) mS_L_state hW (fun bx hG => l_state (l := l) (G := G) hG hX.1 (by omega)) ml_L_140 dL_law_180 rfl rfl (by decide) (Nat.le_of_ble_eq_true rfl) ⟨by omega, by omega⟩ (fun f n hn hW => ?_)
  refine aw_iload dL_law_183 rfl ?_
  refine aw_icmp_eq (tgt := 190) dL_law_185 (by decide) (fun _ => ?_) (fun c => absurd (by rw [hX.2.1]) c)
  exact sg_3 hG9 hX (by omega) p9 _ _ _ _ hW (by omega) (by omega)
set_option maxHeartbeats 8000000 in
theorem sg_1 {l : Launch} {G : GT} {hh : List ExceptionTableEntry} {nm : String} (hG9 : gN G ≤ 260) {x y : Nat} {s : SG} (hB : BO 60000 s) : ∀ (f : HT) (n nc ns : Nat), W2 f n x s y s → nc ≤ 20000 → ns ≤ 200000 → AW l G (ML hh nm) 2048 94400 642731 7159190 LPo 67 nc ns 10 [(2, .ref y), (1, .ref x), (0, .ref 0)] [] f n := by
  intro f n nc ns hW hnc hns
  have hX := XO.sav hB
  refine aw_aload_n dL_law_10 rfl rfl ?_
  refine aw_g1 (as := []) (rest := []) mV_X10_save rfl hW (fun bx hG => GX.ga rfl (q_save (l := l) (G := G) hG hB.1 (by omega))) ml_L_137 dL_law_11 rfl rfl (by decide) (Nat.le_of_ble_eq_true rfl) ⟨by omega, by omega⟩ (fun f n hn hW => ?_)
  refine aw_istore_n (L' := [(3, .int (nI (s.1 0))), (2, .ref y), (1, .ref x), (0, .ref 0)]) dL_law_14 rfl (Nat.le_of_ble_eq_true rfl) rfl ?_
  refine aw_aload_n dL_law_15 rfl rfl ?_
  refine aw_t1 (as := [Value.ref x]) (rest := []) mS_L_state hW (fun bx hG => l_state (l := l) (G := G) hG hX.1 (by omega)) ml_L_140 dL_law_16 rfl rfl (by decide) (Nat.le_of_ble_eq_true rfl) ⟨by omega, by omega⟩ (fun f n hn hW => ?_)
  refine aw_istore (L' := [(4, .int (stN s.1)), (3, .int (nI (s.1 0))), (2, .ref y), (1, .ref x), (0, .ref 0)]) dL_law_19 (Nat.le_of_ble_eq_true rfl) rfl ?_
  refine aw_aload_n dL_law_21 rfl rfl ?_
  refine aw_ldcS ls_144 (by decide) dL_law_22 ?_
  refine aw_t1 (as := [Value.ref x, Value.ref 31]) (rest := []) mS_L_put hW (fun bx hG => l_put (l := l) (G := G) hG hX.1 (by omega) hX.2.2.2 ok_144 (Or.inl os_144) (Or.inl os_144)) ml_L_146 dL_law_24 rfl rfl (by decide) (Nat.le_of_ble_eq_true rfl) ⟨by omega, by omega⟩ (fun f n hn hW => ?_)
  obtain ⟨s2, e2, hS2, hV2, hu2, hX2⟩ := hX.run (by omega) ok_144 rd_144 (rn_144 _)
  refine aw_aload_n dL_law_27 rfl rfl ?_
  refine aw_g1 (as := []) (rest := []) mV_X10_execute rfl hW (fun bx hG => GX.ge e2 (q_execute (l := l) (G := G) hG (hX.1.tx ok_144 (Nat.le_refl _)) (by omega))) ml_L_150 dL_law_28 rfl rfl (by decide) (Nat.le_of_ble_eq_true rfl) ⟨by omega, by omega⟩ (fun f n hn hW => ?_)
  refine aw_iconst_n 3 dL_law_31 (by decide) ?_
  refine aw_icmp_ne (tgt := 73) dL_law_32 (by decide) (fun c => absurd rfl c) (fun _ => ?_)
  have hT1 := hB.op (vq_fric hB.1.1 (by omega) (nI 9))
  have hfl := fric_le s.1 (nI 9)
  have hf30 := hB.1.1.fric
  obtain ⟨t1, d1⟩ : ∃ q, q = opS s (opFric s.1 (nI 9)) := ⟨_, rfl⟩
  rw [← d1] at hT1
  have hT2 := hT1.op (vq_pass hT1.1.1 (by omega) (nI 40))
  have hp1 := pass_le (k := 40) hT1.1.1.cnt (by decide)
  obtain ⟨t2, d2⟩ : ∃ q, q = opS t1 (opPass t1.1 (nI 40)) := ⟨_, rfl⟩
  rw [← d2] at hT2
  have hT3 := hT2.op (vq_pass hT2.1.1 (by omega) (nI 7))
  have hp2 := pass_le (k := 7) hT2.1.1.cnt (by decide)
  obtain ⟨t3, d3⟩ : ∃ q, q = opS t2 (opPass t2.1 (nI 7)) := ⟨_, rfl⟩
  rw [← d3] at hT3
  have v1 : t1.1 = (opFric s.1 (nI 9)).2.2 := by rw [d1]; unfold opS; rw [if_pos (fric9 _)]
  have v2 : t2.1 = (opPass t1.1 (nI 40)).2.2 := by rw [d2]; unfold opS; rw [if_pos (pass40 _)]
  have v3 : t3.1 = F9 s.1 := by rw [d3]; unfold opS; rw [if_pos (pass7 _), v2, v1]; rfl
  obtain ⟨hu5, hu6, hu7, hu8⟩ := und3 (s := s) (q1 := opFric s.1 (nI 9)) (q2 := opPass t1.1 (nI 40)) (q3 := opPass t2.1 (nI 7)) hB.1.2.1 (fric9 _) (pass40 _) (pass7 _)
  rw [← d1, ← d2, ← d3] at hu5 hu6 hu7 hu8
  refine aw_aload_n dL_law_35 rfl rfl ?_
  refine aw_bipush_n 9 dL_law_36 (by decide) ?_
  refine aw_g2 (as := [Value.int (nI 9)]) (rest := []) mV_X10_setFriction rfl hW (fun bx hG => GA.st9 (GX.ga (fric9 _) (q_setFriction (l := l) (G := G) hG hB.1 (by omega) (nI 9))) d1.symm) ml_L_48 dL_law_38 rfl rfl (by decide) (Nat.le_of_ble_eq_true rfl) ⟨by omega, by omega⟩ (fun f n hn hW => ?_)
  refine aw_if_lt_n (by omega) (tgt := 73) dL_law_41 (by decide) ?_
  refine aw_aload_n dL_law_44 rfl rfl ?_
  refine aw_bipush_n 40 dL_law_45 (by decide) ?_
  refine aw_g2 (as := [Value.int (nI 40)]) (rest := []) mV_X10_pass rfl hW (fun bx hG => GA.st9 (GX.ga (pass40 _) (q_pass (l := l) (G := G) hG hT1.1 (by omega) (nI 40))) d2.symm) ml_L_51 dL_law_47 rfl rfl (by decide) (Nat.le_of_ble_eq_true rfl) ⟨by omega, by omega⟩ (fun f n hn hW => ?_)
  refine aw_if_lt_n (hp1) (tgt := 73) dL_law_50 (by decide) ?_
  refine aw_aload_n dL_law_53 rfl rfl ?_
  refine aw_bipush_n 7 dL_law_54 (by decide) ?_
  refine aw_g2 (as := [Value.int (nI 7)]) (rest := []) mV_X10_pass rfl hW (fun bx hG => GA.st9 (GX.ga (pass7 _) (q_pass (l := l) (G := G) hG hT2.1 (by omega) (nI 7))) d3.symm) ml_L_51 dL_law_56 rfl rfl (by decide) (Nat.le_of_ble_eq_true rfl) ⟨by omega, by omega⟩ (fun f n hn hW => ?_)
  refine aw_if_lt_n (hp2) (tgt := 73) dL_law_59 (by decide) ?_
  refine aw_aload_n dL_law_62 rfl rfl ?_
  refine aw_t1 (as := [Value.ref x]) (rest := []) mS_L_state hW (fun bx hG => l_state (l := l) (G := G) hG hS2 (by omega)) ml_L_140 dL_law_63 rfl rfl (by decide) (Nat.le_of_ble_eq_true rfl) ⟨by omega, by omega⟩ (fun f n hn hW => ?_)
  refine aw_aload_n dL_law_66 rfl rfl ?_
  refine aw_t2 (as := [Value.ref y]) (rest := [Value.int (stN s2.1)]) mS_L_state hW (fun bx hG => l_state (l := l) (G := G) hG hT3.1 (by omega)) ml_L_140 dL_law_67 rfl rfl (by decide) (Nat.le_of_ble_eq_true rfl) ⟨by omega, by omega⟩ (fun f n hn hW => ?_)
  refine aw_icmp_eq (tgt := 75) dL_law_70 (by decide) (fun _ => ?_) (fun c => absurd (by rw [hV2, v3]) c)
  have hl1 := qUndo_le s2
  have hl2 := hS2.2.1
  refine aw_aload_n dL_law_75 rfl rfl ?_
  refine aw_g1 (as := []) (rest := []) mV_X10_undo rfl hW (fun bx hG => GX.ga hu2 (q_undo (l := l) (G := G) hG hS2 (by omega))) ml_L_153 dL_law_76 rfl rfl (by decide) (Nat.le_of_ble_eq_true rfl) ⟨by omega, by omega⟩ (fun f n hn hW => ?_)
  refine aw_if_lt_n (by omega) (tgt := 121) dL_law_79 (by decide) ?_
  refine aw_aload_n dL_law_82 rfl rfl ?_
  refine aw_t1 (as := [Value.ref x]) (rest := []) mS_L_state hW (fun bx hG => l_state (l := l) (G := G) hG hX2.1 (by omega)) ml_L_140 dL_law_83 rfl rfl (by decide) (Nat.le_of_ble_eq_true rfl) ⟨by omega, by omega⟩ (fun f n hn hW => ?_)
  refine aw_iload dL_law_86 rfl ?_
  refine aw_icmp_ne (tgt := 121) dL_law_88 (by decide) (fun c => absurd (by rw [hX2.2.1]) c) (fun _ => ?_)
  have hl1 := qUndo_le (t3)
  have hl2 := (hT3.1).2.1
  refine aw_aload_n dL_law_91 rfl rfl ?_
  refine aw_g2 (as := []) (rest := []) mV_X10_undo rfl hW (fun bx hG => GX.ga hu5 (q_undo (l := l) (G := G) hG (hT3.1) (by omega))) ml_L_153 dL_law_92 rfl rfl (by decide) (Nat.le_of_ble_eq_true rfl) ⟨by omega, by omega⟩ (fun f n hn hW => ?_)
  refine aw_if_lt_n (by omega) (tgt := 121) dL_law_95 (by decide) ?_
  have hl1 := qUndo_le (undS t3)
  have hl2 := (SB.und (hT3.1)).2.1
  refine aw_aload_n dL_law_98 rfl rfl ?_
  refine aw_g2 (as := []) (rest := []) mV_X10_undo rfl hW (fun bx hG => GX.ga hu6 (q_undo (l := l) (G := G) hG (SB.und (hT3.1)) (by omega))) ml_L_153 dL_law_99 rfl rfl (by decide) (Nat.le_of_ble_eq_true rfl) ⟨by omega, by omega⟩ (fun f n hn hW => ?_)
  refine aw_if_lt_n (by omega) (tgt := 121) dL_law_102 (by decide) ?_
  have hl1 := qUndo_le (undS (undS t3))
  have hl2 := (SB.und (SB.und (hT3.1))).2.1
  refine aw_aload_n dL_law_105 rfl rfl ?_
  refine aw_g2 (as := []) (rest := []) mV_X10_undo rfl hW (fun bx hG => GX.ga hu7 (q_undo (l := l) (G := G) hG (SB.und (SB.und (hT3.1))) (by omega))) ml_L_153 dL_law_106 rfl rfl (by decide) (Nat.le_of_ble_eq_true rfl) ⟨by omega, by omega⟩ (fun f n hn hW => ?_)
  refine aw_if_lt_n (by omega) (tgt := 121) dL_law_109 (by decide) ?_
  refine aw_aload_n dL_law_112 rfl rfl ?_
  refine aw_t2 (as := [Value.ref y]) (rest := []) mS_L_state hW (fun bx hG => l_state (l := l) (G := G) hG (SB.und (SB.und (SB.und (hT3.1)))) (by omega)) ml_L_140 dL_law_113 rfl rfl (by decide) (Nat.le_of_ble_eq_true rfl) ⟨by omega, by omega⟩ (fun f n hn hW => ?_)
  refine aw_iload dL_law_116 rfl ?_
  refine aw_icmp_eq (tgt := 123) dL_law_118 (by decide) (fun _ => ?_) (fun c => absurd (by rw [hu8]) c)
  refine aw_sub [(4, .int (stN s.1)), (3, .int (nI (s.1 0))), (1, .ref x), (0, .ref 0)] (by simp) ?_
  exact sg_2 hG9 hX2 (by omega) _ _ _ _ hW (by omega) (by omega)
theorem law_AW {l : Launch} {G : GT} {hh : List ExceptionTableEntry} {nm : String} (hG9 : gN G ≤ 260) (f : HT) : AW l G (ML hh nm) 2048 94400 642731 7159190 LPo 67 0 0 0 [(0, .ref 0)] [] f 67 := by
  refine aw_aload_n dL_law_0 rfl rfl ?_
  refine aw_sP (as := [Value.ref 0]) (rest := []) mS_L_build (l_build hG9 (Nat.le_refl _)) ml_L_133 dL_law_1 rfl rfl (by decide) (Nat.le_of_ble_eq_true rfl) ⟨by omega, by omega⟩ (fun _ _ _ h => by cases h.1) (fun r1 f1 n1 hn1 h => ?_)
  obtain ⟨g1, w1, bx, w2, w3⟩ := h
  cases g1
  refine aw_astore_n (L' := [(1, .ref 67), (0, .ref 0)]) dL_law_4 rfl (Nat.le_of_ble_eq_true rfl) rfl ?_
  refine aw_aload_n dL_law_5 rfl rfl ?_
  refine aw_sP (as := [Value.ref 0]) (rest := []) mS_L_build (l_build hG9 (Nat.le_trans (by decide) w1)) ml_L_133 dL_law_6 rfl rfl (by decide) (Nat.le_of_ble_eq_true rfl) ⟨by omega, by omega⟩ (fun _ _ _ h => by cases h.1) (fun r2 f2 n2 hn2 h => ?_)
  obtain ⟨g1, u1, cy, u2, u3⟩ := h
  cases g1
  refine aw_astore_n (L' := [(2, .ref n1), (1, .ref 67), (0, .ref 0)]) dL_law_9 rfl (Nat.le_of_ble_eq_true rfl) rfl ?_
  exact sg_1 hG9 (bS_ok G) f2 n2 _ _ (W2.one w2 w1 (by omega) u3 u2 u1) (by omega) (by omega)
