theorem dl_a : ∀ t, t < 32 → lenD (20 + t) 9 = 2 := by decide +kernel
set_option maxHeartbeats 8000000 in
theorem sg_5 {l : Launch} {G : GT} {hh : List ExceptionTableEntry} {nm : String} (hG9 : gN G ≤ 260) {x z : Nat} {sx sz : SG} {V : Nat → Nat} {K Kz t : Nat} (ht : t < 32) (hX : XO K sx V) (hK : K ≤ 600000) (hZ : ZO Kz sz Z0) (hKz : Kz ≤ 40000) (h0t : sz.2.2.2.1.1 = 0) : ∀ (f : HT) (n nc ns : Nat), W2 f n x sx z sz → nc ≤ 100000 → ns ≤ 1000000 → AW l G (ML hh nm) 2048 94400 642731 7159190 LPo 67 nc ns 438 [(7, .ref z), (6, .int (nI (20 + t))), (4, .int (stN V)), (3, .int (nI (V 0))), (1, .ref x)] [] f n := by
  intro f n nc ns hW hnc hns
  obtain ⟨bx9, cz9, a1, a2, a3, a4, a5, a6, a7, a8, a9, a10⟩ := id hW
  refine aw_aload dL_law_438 rfl ?_
  have hd8 := dl_a t ht
  have hW0 := hW
  refine aw_new4 fn_L_196 (by omega) (by omega) dL_law_440 ?_
  refine aw_dup dL_law_443 rfl ?_
  refine aw_iV (as := []) (rest := [Value.ref n, Value.ref z]) mI_J4_init_da8c8 (b4_new (Nat.lt_succ_self n) up_self) ml_L_198 dL_law_444 rfl rfl (by decide) (Nat.le_of_ble_eq_true rfl) ⟨by omega, by omega⟩ ?_
  have hk0 := BN.bJ (H := va_up f n (.inr (0, [.null, .int 0, .int 0, .int 0]))) (Nat.lt_succ_self n)
  have hF0 : ∀ a, a < n → BN (va_up f n (.inr (0, [.null, .int 0, .int 0, .int 0]))) n (n + 1) a = f a := fun a ha => (BN.out (by omega) (by omega)).trans (up_ne (by omega))
  refine aw_ldcS ls_199 (by decide) dL_law_447 ?_
  refine aw_cP (as := [Value.ref 44]) (rest := [Value.ref z]) (MV.c mV_J4_append_15ec4) (j4_str os_199 hk0 cp_z1) ml_L_201 (RC.w hk0.choose_spec.choose_spec.1 rfl) dL_law_449 rfl rfl (by decide) (Nat.le_of_ble_eq_true rfl) ⟨by omega, by omega⟩ (fun _ _ _ h => by cases h.1) (fun r1 f1 n1 hn1 h => ?_)
  obtain ⟨g1, bp1, -, -, hb1, hk1, hB1⟩ := h
  cases g1
  have hF1 : ∀ a, a < n → f1 a = f a := fun a ha => (hB1 a (by omega) (by omega) (by omega)).trans (hF0 a ha)
  have hm1 : n ≤ bp1 := by omega
  refine aw_iload dL_law_452 rfl ?_
  refine aw_cP (as := [Value.int (nI (20 + t))]) (rest := [Value.ref z]) (MV.c mV_J4_append_bf812) (j4_int hk1 (by omega) (cp_z2 t ht)) ml_L_205 (RC.w hk1.choose_spec.choose_spec.1 rfl) dL_law_454 rfl rfl (by decide) (Nat.le_of_ble_eq_true rfl) ⟨by omega, by omega⟩ (fun _ _ _ h => by cases h.1) (fun r2 f2 n2 hn2 h => ?_)
  obtain ⟨g1, bp2, -, -, hb2, hk2, hB2⟩ := h
  cases g1
  have hF2 : ∀ a, a < n → f2 a = f a := fun a ha => (hB2 a (by omega) (by omega) (by omega)).trans (hF1 a ha)
  have hm2 : n ≤ bp2 := by omega
  refine aw_ldcS ls_208 (by decide) dL_law_457 ?_
  refine aw_cP (as := [Value.ref 45]) (rest := [Value.ref z]) (MV.c mV_J4_append_15ec4) (j4_str os_208 hk2 (cp_z3 t ht)) ml_L_201 (RC.w hk2.choose_spec.choose_spec.1 rfl) dL_law_459 rfl rfl (by decide) (Nat.le_of_ble_eq_true rfl) ⟨by omega, by omega⟩ (fun _ _ _ h => by cases h.1) (fun r3 f3 n3 hn3 h => ?_)
  obtain ⟨g1, bp3, -, -, hb3, hk3, hB3⟩ := h
  cases g1
  have hF3 : ∀ a, a < n → f3 a = f a := fun a ha => (hB3 a (by omega) (by omega) (by omega)).trans (hF2 a ha)
  refine aw_cP (as := []) (rest := [Value.ref z]) (MV.c mV_J4_toString_0e30d) (t_str hk3 (cp_z4 t ht)) ml_L_210 (RC.w hk3.choose_spec.choose_spec.1 rfl) dL_law_462 rfl rfl (by decide) (Nat.le_of_ble_eq_true rfl) ⟨by omega, by omega⟩ (fun _ _ _ h => by cases h.1) (fun r8 f8 n8 hn8 h => ?_)
  obtain ⟨g1, g2, hns9, hF8⟩ := h
  cases g1
  have hFz : ∀ a, a < n → f8 a = f a := fun a ha => (hF8 a (by omega)).trans (hF3 a ha)
  have hns8 : NS f8 n3 (n3 + 1) (TZ (20 + t)) := hns9
  have hz8 : GW f8 z cz9 n8 sz := a2.fr (fun a z1 z2 => hFz a (by omega)) (hFz cz9 a6) (by omega)
  have hx8 : GW f8 x bx9 n8 sx := a1.fr (fun a z1 z2 => hFz a (by omega)) (hFz bx9 a5) (by omega)
  refine aw_s0 (as := [Value.ref z, Value.ref n3]) (rest := []) mS_L_put (l_put (l := l) (G := G) hz8 hZ.1 (by omega) h0t (ok_z ht) (Or.inr hns8) (Or.inr ⟨by omega, by omega, by omega, by omega, by omega, by omega⟩)) ml_L_146 dL_law_465 rfl rfl (by decide) (Nat.le_of_ble_eq_true rfl) ⟨by omega, by omega⟩ (fun f n bz9 hn hbz hGz hFq => ?_)
  have hW : W2 f n x sx z (txS sz (TZ (20 + t)).length (TZ (20 + t))) := (W2.ga (v := none) hz8 hx8 (by omega) (by omega) (by omega) (by omega) (by omega) (by omega) (by omega) (fun q => a10 q.symm) ⟨rfl, hn, bz9, hbz, hGz, hFq⟩).swap
  have hX9 := hZ.1.tx (ok_z ht) (Nat.le_refl _)
  have he9 : qExe (txS sz (TZ (20 + t)).length (TZ (20 + t))) = (0, 7, opS (emS (txS sz (TZ (20 + t)).length (TZ (20 + t)))) (0, 7, lv (Z1 (20 + t)))) := by
    show exT (txS sz (TZ (20 + t)).length (TZ (20 + t))) (RD (TZ (20 + t))) = _
    unfold exT
    rw [rd_z t ht]
    rw [if_neg (show ¬ ((DZ (20 + t), ((TZ (20 + t)).length, false)).2.2 = true ∨ (DZ (20 + t), ((TZ (20 + t)).length, false)).2.1 < (txS sz (TZ (20 + t)).length (TZ (20 + t))).2.2.2.1.1) from fun q => q.elim (fun q => Bool.noConfusion q) (fun q => Nat.lt_irrefl _ q))]
    show exR (emS (txS sz (TZ (20 + t)).length (TZ (20 + t)))) (rnL (DZ (20 + t)) 0 sz.1) = _
    rw [hZ.2, rn_z ht]
    rfl
  have hS9 := hX9.exe (by omega)
  rw [he9] at hS9
  refine aw_aload dL_law_468 rfl ?_
  refine aw_g2 (as := []) (rest := []) mV_X10_execute rfl hW (fun bx hG => GX.ge he9 (q_execute (l := l) (G := G) hG hX9 (by omega))) ml_L_150 dL_law_470 rfl rfl (by decide) (Nat.le_of_ble_eq_true rfl) ⟨by omega, by omega⟩ (fun f n hn hW => ?_)
  refine aw_bipush_n 7 dL_law_473 (by decide) ?_
  refine aw_icmp_ne (tgt := 680) dL_law_475 (by decide) (fun c => absurd rfl c) (fun _ => ?_)
  exact sg_6 hG9 ht hX hK ⟨hS9, by rw [opS0]⟩ (by omega) _ _ _ _ hW (by omega) (by omega)
set_option maxHeartbeats 8000000 in
theorem sg_4b {l : Launch} {G : GT} {hh : List ExceptionTableEntry} {nm : String} (hG9 : gN G ≤ 260) {x z : Nat} {sx sz : SG} {V : Nat → Nat} {K Kz t : Nat} (ht : t < 32) (hX : XO K sx V) (hK : K ≤ 600000) (hZ : ZO Kz sz Z0) (hKz : Kz ≤ 40000) (h0t : sz.2.2.2.1.1 = 0) : ∀ (f : HT) (n nc ns : Nat), W2 f n x sx z sz → nc ≤ 85000 → ns ≤ 850000 → AW l G (ML hh nm) 2048 94400 642731 7159190 LPo 67 nc ns 339 [(7, .ref z), (6, .int (nI (20 + t))), (4, .int (stN V)), (3, .int (nI (V 0))), (1, .ref x)] [] f n := by
  intro f n nc ns hW hnc hns
  refine aw_aload dL_law_339 rfl ?_
  refine aw_g2 (as := []) (rest := []) mV_X10_friction rfl hW (fun bx hG => GA.v (GX.ga rfl (q_friction (l := l) (G := G) hG hZ.1 (by omega))) (by rw [hZ.2, z_f5])) ml_L_107 dL_law_341 rfl rfl (by decide) (Nat.le_of_ble_eq_true rfl) ⟨by omega, by omega⟩ (fun f n hn hW => ?_)
  refine aw_iconst_n 5 dL_law_344 (by decide) ?_
  refine aw_icmp_ne (tgt := 436) dL_law_345 (by decide) (fun c => absurd rfl c) (fun _ => ?_)
  refine aw_aload dL_law_348 rfl ?_
  refine aw_g2 (as := []) (rest := []) mV_X10_leastRelay rfl hW (fun bx hG => GX.gq (by rw [hZ.2]; exact zq_0_0) (q_leastRelay (l := l) (G := G) hG hZ.1 (by omega) )) ml_L_66 dL_law_350 rfl rfl (by decide) (Nat.le_of_ble_eq_true rfl) ⟨by omega, by omega⟩ (fun f n hn hW => ?_)
  refine aw_if_ne (tgt := 436) dL_law_353 (by decide) (fun c => absurd nI_0 c) (fun _ => ?_)
  refine aw_aload dL_law_356 rfl ?_
  refine aw_g2 (as := []) (rest := []) mV_X10_leastRelayByTrying rfl hW (fun bx hG => GX.gq (by rw [hZ.2]; exact zq_0_0) (q_leastRelayByTrying (l := l) (G := G) hG hZ.1 (by omega) )) ml_L_69 dL_law_358 rfl rfl (by decide) (Nat.le_of_ble_eq_true rfl) ⟨by omega, by omega⟩ (fun f n hn hW => ?_)
  refine aw_if_ne (tgt := 436) dL_law_361 (by decide) (fun c => absurd nI_0 c) (fun _ => ?_)
  refine aw_aload dL_law_364 rfl ?_
  refine aw_g2 (as := []) (rest := []) mV_X10_meetingPairs rfl hW (fun bx hG => GA.v (GX.ga rfl (q_meetingPairs (l := l) (G := G) hG hZ.1 (by omega))) (by rw [hZ.2, zp_0])) ml_L_190 dL_law_366 rfl rfl (by decide) (Nat.le_of_ble_eq_true rfl) ⟨by omega, by omega⟩ (fun f n hn hW => ?_)
  refine aw_if_ne (tgt := 436) dL_law_369 (by decide) (fun c => absurd nI_0 c) (fun _ => ?_)
  refine aw_aload dL_law_372 rfl ?_
  refine aw_iconst_n 0 dL_law_374 (by decide) ?_
  refine aw_g2 (as := [Value.int (nI 0)]) (rest := []) mV_X10_exactSets rfl hW (fun bx hG => GX.gq (by rw [hZ.2]; exact zq_0_1) (q_exactSets (l := l) (G := G) hG hZ.1 (by omega) (nI 0))) ml_L_193 dL_law_375 rfl rfl (by decide) (Nat.le_of_ble_eq_true rfl) ⟨by omega, by omega⟩ (fun f n hn hW => ?_)
  refine aw_iconst_n 1 dL_law_378 (by decide) ?_
  refine aw_icmp_ne (tgt := 436) dL_law_379 (by decide) (fun c => absurd rfl c) (fun _ => ?_)
  refine aw_aload dL_law_382 rfl ?_
  refine aw_bipush_n 12 dL_law_384 (by decide) ?_
  refine aw_iconst_n 1 dL_law_386 (by decide) ?_
  refine aw_iconst_n 0 dL_law_387 (by decide) ?_
  refine aw_x2 (as := [Value.ref z, Value.int (nI 12), Value.int (nI 1), Value.int (nI 0)]) (rest := []) mW_L_act hW (fun bx hG => GA.v (l_act_12 (l := l) (G := G) hG hZ.1 (by omega) (nI 1) (nI 0)) (by rw [hZ.2, zq_0_2] <;> rfl)) ml_L_30 dL_law_388 rfl rfl (by decide) (Nat.le_of_ble_eq_true rfl) ⟨by omega, by omega⟩ (fun f n hn hW => ?_)
  refine aw_bipush (v := -4) dL_law_391 (by decide) ?_
  refine aw_icmp_ne (tgt := 436) dL_law_393 (by decide) (fun c => absurd rfl c) (fun _ => ?_)
  refine aw_aload dL_law_396 rfl ?_
  refine aw_bipush_n 15 dL_law_398 (by decide) ?_
  refine aw_iconst_n 0 dL_law_400 (by decide) ?_
  refine aw_iconst_n 0 dL_law_401 (by decide) ?_
  refine aw_x2 (as := [Value.ref z, Value.int (nI 15), Value.int (nI 0), Value.int (nI 0)]) (rest := []) mW_L_act hW (fun bx hG => GA.v (l_act_15 (l := l) (G := G) hG hZ.1 (by omega) (nI 0) (nI 0)) (by rw [hZ.2, zq_0_3] <;> rfl)) ml_L_30 dL_law_402 rfl rfl (by decide) (Nat.le_of_ble_eq_true rfl) ⟨by omega, by omega⟩ (fun f n hn hW => ?_)
  refine aw_bipush (v := -4) dL_law_405 (by decide) ?_
  refine aw_icmp_ne (tgt := 436) dL_law_407 (by decide) (fun c => absurd rfl c) (fun _ => ?_)
  refine aw_aload dL_law_410 rfl ?_
  refine aw_bipush_n 15 dL_law_412 (by decide) ?_
  refine aw_iconst_n 3 dL_law_414 (by decide) ?_
  refine aw_iconst_n 0 dL_law_415 (by decide) ?_
  refine aw_x2 (as := [Value.ref z, Value.int (nI 15), Value.int (nI 3), Value.int (nI 0)]) (rest := []) mW_L_act hW (fun bx hG => GA.v (l_act_15 (l := l) (G := G) hG hZ.1 (by omega) (nI 3) (nI 0)) (by rw [hZ.2, zq_0_4] <;> rfl)) ml_L_30 dL_law_416 rfl rfl (by decide) (Nat.le_of_ble_eq_true rfl) ⟨by omega, by omega⟩ (fun f n hn hW => ?_)
  refine aw_bipush (v := -2) dL_law_419 (by decide) ?_
  refine aw_icmp_ne (tgt := 436) dL_law_421 (by decide) (fun c => absurd rfl c) (fun _ => ?_)
  refine aw_aload dL_law_424 rfl ?_
  refine aw_iconst_n 1 dL_law_426 (by decide) ?_
  refine aw_iconst_n 0 dL_law_427 (by decide) ?_
  refine aw_iconst_n 1 dL_law_428 (by decide) ?_
  have hn9 : (opPush sz.1 (nI 0) (nI 1)).1 = 1 := by rw [hZ.2]; decide +kernel
  have ho9 : opS sz (opPush sz.1 (nI 0) (nI 1)) = sz := if_neg (by rw [hn9]; decide)
  refine aw_x2 (as := [Value.ref z, Value.int (nI 1), Value.int (nI 0), Value.int (nI 1)]) (rest := []) mW_L_act hW (fun bx hG => GA.v (GA.st9 (l_act_1 (l := l) (G := G) hG hZ.1 (by omega) (nI 0) (nI 1)) ho9) (by rw [hn9] <;> rfl)) ml_L_30 dL_law_429 rfl rfl (by decide) (Nat.le_of_ble_eq_true rfl) ⟨by omega, by omega⟩ (fun f n hn hW => ?_)
  refine aw_iconst (v := -1) dL_law_432 (by decide) ?_
  refine aw_icmp_eq (tgt := 438) dL_law_433 (by decide) (fun _ => ?_) (fun c => absurd rfl c)
  exact sg_5 hG9 ht hX hK hZ hKz h0t _ _ _ _ hW (by omega) (by omega)
set_option maxHeartbeats 8000000 in
theorem sg_4 {l : Launch} {G : GT} {hh : List ExceptionTableEntry} {nm : String} (hG9 : gN G ≤ 260) {x y : Nat} {sx sy : SG} {V : Nat → Nat} {K : Nat} (hX : XO K sx V) (hK : K ≤ 600000) : ∀ (f : HT) (n nc ns : Nat), W2 f n x sx y sy → nc ≤ 80000 → ns ≤ 800000 → AW l G (ML hh nm) 2048 94400 642731 7159190 LPo 67 nc ns 312 [(4, .int (stN V)), (3, .int (nI (V 0))), (1, .ref x), (0, .ref 0)] [] f n := by
  intro f n nc ns hW hnc hns
  refine aw_aload_n dL_law_312 rfl rfl ?_
  refine aw_bipush_n 13 dL_law_313 (by decide) ?_
  refine aw_sI (as := [Value.ref 0, Value.int (nI 13)]) (rest := []) mS_L_at (l_at hG9 (by decide)) ml_L_24 dL_law_315 rfl rfl (by decide) (Nat.le_of_ble_eq_true rfl) ⟨by omega, by omega⟩ ?_
  obtain ⟨t, ht, et⟩ := and_mask (x := atX G 13) (k := 5) (by decide)
  have et : atX G 13 &&& nI 31 = nI t := et
  have ht : t < 32 := ht
  refine aw_istore (L' := [(5, .int (atX G 13)), (4, .int (stN V)), (3, .int (nI (V 0))), (1, .ref x), (0, .ref 0)]) dL_law_318 (Nat.le_of_ble_eq_true rfl) rfl ?_
  refine aw_bipush_n 20 dL_law_320 (by decide) ?_
  refine aw_iload dL_law_322 rfl ?_
  refine aw_bipush_n 31 dL_law_324 (by decide) ?_
  refine aw_iand dL_law_326 ?_
  rw [et]
  refine aw_iadd_n dL_law_327 ?_
  refine aw_istore (L' := [(6, .int (nI (20 + t))), (5, .int (atX G 13)), (4, .int (stN V)), (3, .int (nI (V 0))), (1, .ref x), (0, .ref 0)]) dL_law_328 (Nat.le_of_ble_eq_true rfl) rfl ?_
  obtain ⟨bx9, hGx, hx9⟩ := hW.fst
  obtain ⟨z, ez⟩ : ∃ z, z = n := ⟨_, rfl⟩
  have hoz : o0 ≤ n := by
    have h9 : o0 ≤ x := by
      obtain ⟨-, -, -, -, -, -, -, -, -, h9, -⟩ := hGx
      exact h9
    omega
  refine aw_new11 fn_L_18 (by omega) (by omega) dL_law_330 ?_
  refine aw_dup dL_law_333 rfl ?_
  refine aw_iP (as := []) (rest := [.ref n]) mI_X10_init (g_init (x := n) hoz up_self) ml_L_23 dL_law_334 rfl rfl (by decide) (Nat.le_of_ble_eq_true rfl) ⟨by omega, by omega⟩ (fun _ _ _ h => by cases h.1) (fun r1 f1 n1 _ h => ?_)
  obtain ⟨g1, g2, hGn, hFn⟩ := h
  cases g1; subst g2
  have hW : W2 f1 (n + 113) x sx n sg0 := W2.one hGx hx9 (by omega) (fun a ha => (hFn a ha).trans (up_ne (by omega))) hGn (by omega)
  refine aw_astore (L' := [(7, .ref n), (6, .int (nI (20 + t))), (5, .int (atX G 13)), (4, .int (stN V)), (3, .int (nI (V 0))), (1, .ref x), (0, .ref 0)]) dL_law_337 (Nat.le_of_ble_eq_true rfl) rfl ?_
  refine aw_sub [(7, .ref n), (6, .int (nI (20 + t))), (4, .int (stN V)), (3, .int (nI (V 0))), (1, .ref x)] (by simp) ?_
  exact sg_4b hG9 ht hX hK ⟨SB_0, sg0_lv⟩ (by decide) rfl _ _ _ _ hW (by omega) (by omega)
