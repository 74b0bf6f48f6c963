theorem bF.to {H f g : HT} {c bp bp1 n : Nat} (h : bF H f c bp n) (hb : bp1 = bp ∨ bp1 = n) (hg : ∀ a, a ≠ c → a ≠ bp1 → g a = f a) : bF H g c bp n := fun a h1 h2 h3 => (hg a h2 (by omega)).trans (h a h1 h2 h3)
theorem bK.mk9 {f : HT} {c bp n N : Nat} {L' : List Nat} {ml' : Int32} {B' : Nat → Int32} (hN : N = 16 ∨ N = 34) (hne : bp ≠ c) (hcn : c < n) (hbn : bp < n) (b1 : f bp = bbyt N B') (b0 : f c = bcell bp ml' L'.length) (hL : L'.length ≤ N) (hB : ∀ i, i < L'.length → B' i = nI (L'.getD i 0) ∧ L'.getD i 0 < 128) (hq : ∀ i, i < N → ∃ q, q < 128 ∧ B' i = nI q) : bK f c bp n L' 0 := ⟨N, B', ml', b0, b1, hN, hL, Nat.zero_le _, hne, hcn, hbn, hB, hq⟩
theorem gd_r {L M : List Nat} {i : Nat} (h : L.length ≤ i) : (L ++ M).getD i 0 = M.getD (i - L.length) 0 := by
  rw [List.getD_eq_getElem?_getD, List.getD_eq_getElem?_getD, List.getElem?_append_right h]
abbrev MJ1_canEncode_fc78d : MT := (RJ1, cJ1_canEncode_fc78d, 1, (some .boolean), [], "canEncode")
set_option maxHeartbeats 4000000 in
theorem b_can {l : Launch} {G : GT} {n : Nat} {f : HT} {q : Nat} (hq : q < 128) : AM l G yJ1_canEncode_fc78d (.code yJ1_canEncode_fc78d cJ1_canEncode_fc78d 1 (some .boolean)) 0 0 0 0 [.int (nI q)] (f) n (rI (nI 1) f n) := by
  refine aw_enter (M := MJ1_canEncode_fc78d) rfl rfl (by decide +kernel) rfl (Nat.le_of_ble_eq_true rfl) ?_
  show AW l G MJ1_canEncode_fc78d 0 0 0 0 _ n 0 0 0 [(0, .int (nI q))] [] _ n
  refine aw_iload_n dJ1_canEncode_fc78d_0 rfl rfl ?_
  refine aw_sipush_n 255 dJ1_canEncode_fc78d_1 (by decide) ?_
  refine aw_icmp_gt_n (by omega) (by omega) (tgt := 11) dJ1_canEncode_fc78d_4 (by decide) (fun c_1 => by exfalso; omega) (fun c_1 => ?_)
  refine aw_iconst_n 1 dJ1_canEncode_fc78d_7 (by decide) ?_
  refine aw_goto (tgt := 12) dJ1_canEncode_fc78d_8 (by decide) ?_
  exact aw_zret rfl rfl (by decide) (by decide) dJ1_canEncode_fc78d_12 (rI_of (by rfl))
abbrev MJ5_append_3fe6f : MT := (RJ5, cJ5_append_3fe6f, 2, (some (.object "java/lang/AbstractStringBuilder")), [], "append")
set_option maxHeartbeats 4000000 in
theorem b5_char {l : Launch} {G : GT} {n : Nat} {H : HT} {c bp : Nat} {L : List Nat} (hbk : bK H c bp n L 0) {q9 : Nat} (hq9 : q9 < 128) (h34 : L.length + 1 ≤ 34) : AM l G yJ5_append_3fe6f (.code yJ5_append_3fe6f cJ5_append_3fe6f 2 (some (.object "java/lang/AbstractStringBuilder"))) 4 240 1 34 [.ref c, .int (nI q9)] (H) n (BX H c bp n (L ++ [q9]) 0 (some (.ref c))) := by
  refine aw_enter (M := MJ5_append_3fe6f) rfl rfl (by decide +kernel) rfl (Nat.le_of_ble_eq_true rfl) ?_
  obtain ⟨N, B, ml, b0, b1, hN, hL, -, hne, hcn, hbn, hB, hq⟩ := id hbk
  show AW l G MJ5_append_3fe6f 4 240 1 34 _ n 0 0 0 [(0, .ref c), (1, .int (nI q9))] [] _ n
  refine aw_aload_n dJ5_append_3fe6f_0 rfl rfl ?_
  refine aw_aload_n dJ5_append_3fe6f_1 rfl rfl ?_
  refine aw_get (v := .int (nI L.length)) fl_J5_79 (b0) rfl dJ5_append_3fe6f_2 ?_
  refine aw_iconst_n 1 dJ5_append_3fe6f_5 (by decide) ?_
  refine aw_iadd_n dJ5_append_3fe6f_6 ?_
  refine aw_pcP (y0 := yJ5_isLatin1_aae02) (as := [Value.int (nI (L.length + 1))]) (rest := []) mP_J5_ensureCapacityInternal_d00df rfl mC_J5_isLatin1_aae02.2.2.1 (b_ens hbk (by omega)) ml_J5_100 (RC.w b0 rfl) dJ5_append_3fe6f_7 rfl rfl (by decide) (Nat.le_of_ble_eq_true rfl) (by decide) (fun _ _ _ h => by cases h.1) (fun r9 f9 n9 _ h => ?_)
  obtain ⟨h1, bp1, hn1, hn2, hb1, hbk1, hF1⟩ := h
  obtain ⟨N1, B1, ml1, b01, b11, hN1, hL1, hm1, hne1, hcn1, hbn1, hB1, hq1⟩ := id hbk1
  cases h1
  refine aw_aload_n dJ5_append_3fe6f_10 rfl rfl ?_
  refine aw_cI (as := []) (rest := []) mC_J5_isLatin1_aae02 (b_lat (b01) (b11)) ml_J5_83 (RC.w (b01) rfl) dJ5_append_3fe6f_11 rfl rfl (by decide) (Nat.le_of_ble_eq_true rfl) (by decide) ?_
  refine aw_if_eq_n (by omega) (tgt := 45) dJ5_append_3fe6f_14 (by decide) (fun c_1 => by exfalso; omega) (fun c_1 => ?_)
  refine aw_iload_n dJ5_append_3fe6f_17 rfl rfl ?_
  refine aw_sI (as := [Value.int (nI q9)]) (rest := []) mS_J1_canEncode_fc78d (b_can hq9) ml_J5_191 dJ5_append_3fe6f_18 rfl rfl (by decide) (Nat.le_of_ble_eq_true rfl) (by decide) ?_
  refine aw_if_eq_n (by omega) (tgt := 45) dJ5_append_3fe6f_21 (by decide) (fun c_2 => by exfalso; omega) (fun c_2 => ?_)
  refine aw_aload_n dJ5_append_3fe6f_24 rfl rfl ?_
  refine aw_get (v := .ref bp1) fl_J5_15 (b01) rfl dJ5_append_3fe6f_25 ?_
  refine aw_aload_n dJ5_append_3fe6f_28 rfl rfl ?_
  refine aw_dup dJ5_append_3fe6f_29 rfl ?_
  refine aw_get (v := .int (nI L.length)) fl_J5_79 (b01) rfl dJ5_append_3fe6f_30 ?_
  refine aw_dup_x1 dJ5_append_3fe6f_33 rfl rfl ?_
  refine aw_iconst_n 1 dJ5_append_3fe6f_34 (by decide) ?_
  refine aw_iadd_n dJ5_append_3fe6f_35 ?_
  refine aw_put fp_J5_79 (b01) (fun _ => rfl) (fun _ => rfl) (Nat.le_of_ble_eq_true rfl) dJ5_append_3fe6f_36 ?_
  refine aw_iload_n dJ5_append_3fe6f_39 rfl rfl ?_
  refine aw_i2b_n (by omega) dJ5_append_3fe6f_40 ?_
  refine aw_bast_n (k := L.length) ((up_ne (by omega)).trans (b11)) (by omega) (by omega) (b128_nar (by omega)) dJ5_append_3fe6f_41 ?_
  refine aw_goto (tgt := 75) dJ5_append_3fe6f_42 (by decide) ?_
  refine aw_aload_n dJ5_append_3fe6f_75 rfl rfl ?_
  exact aw_aret rfl (Or.inl ⟨_, rfl⟩) (Or.inr ⟨_, rfl⟩) (by decide) (by decide) dJ5_append_3fe6f_76 ⟨rfl, bp1, by omega, by omega, hb1, bK.mk9 (ml' := ml1) hN1 hne1 hcn1 hbn1 up_self ((up_ne (by omega)).trans (up_self.trans (by rw [List.length_append]; rfl))) (by rw [List.length_append]; exact hm1) (fun i hi => by
    rw [List.length_append] at hi
    have hi : i < L.length + 1 := hi
    by_cases z : i = L.length
    · rw [z, pk_us, gd_e]; exact ⟨rfl, hq9⟩
    · rw [pk_un z, gd_l (by omega)]; exact hB1 i (by omega)) (fun i hi => by
    by_cases z : i = L.length
    · rw [z, pk_us]; exact ⟨q9, hq9, rfl⟩
    · rw [pk_un z]; exact hq1 i hi), hF1.to hb1 (fun a h1 h2 => by rw [up_ne h2, up_ne h1])⟩
abbrev MJ0_getBytes_840e7 : MT := (RJ0, cJ0_getBytes_840e7, 4, none, [], "getBytes")
set_option maxHeartbeats 4000000 in
theorem b_gb15 {l : Launch} {G : GT} {n : Nat} {H : HT} {bp N d : Nat} {B : Nat → Int32} (b1 : H bp = bbyt N B) (hN : N ≤ 34) (hd : d + 3 ≤ N) : AM l G yJ0_getBytes_840e7 (.code yJ0_getBytes_840e7 cJ0_getBytes_840e7 4 none) 1 60 0 0 [.ref 15, .ref bp, .int (nI d), .int (nI 0)] (H) n (rV (va_up H bp (bbyt N (va_cpy (fun j => ([99, 109, 32] : List Int32).getD j 0) B 0 d 3))) n) := by
  refine aw_enter (M := MJ0_getBytes_840e7) rfl rfl (by decide +kernel) rfl (Nat.le_of_ble_eq_true rfl) ?_
  show AW l G MJ0_getBytes_840e7 1 60 0 0 _ n 0 0 0 [(0, .ref 15), (1, .ref bp), (2, .int (nI d)), (3, .int (nI 0))] [] _ n
  refine aw_aload_n dJ0_getBytes_840e7_0 rfl rfl ?_
  refine aw_cI (as := []) (rest := []) (MV.c mV_J0_coder_7d493) (o_cod15 ) ml_J0_335 (RC.o (List.mem_of_getElem? (i := 14) rfl) (by decide)) dJ0_getBytes_840e7_1 rfl rfl (by decide) (Nat.le_of_ble_eq_true rfl) (by decide) ?_
  refine aw_iload_n dJ0_getBytes_840e7_4 rfl rfl ?_
  refine aw_icmp_ne_n (by omega) (by omega) (tgt := 28) dJ0_getBytes_840e7_5 (by decide) (fun c_1 => by exfalso; omega) (fun c_1 => ?_)
  refine aw_aload_n dJ0_getBytes_840e7_8 rfl rfl ?_
  refine aw_oget (v := .ref 24) (List.mem_of_getElem? (i := 43) rfl) (by decide) (show 24 < o0 by decide) sl_J0_9 dJ0_getBytes_840e7_9 ?_
  refine aw_iconst_n 0 dJ0_getBytes_840e7_12 (by decide) ?_
  refine aw_aload_n dJ0_getBytes_840e7_13 rfl rfl ?_
  refine aw_iload_n dJ0_getBytes_840e7_14 rfl rfl ?_
  refine aw_iload_n dJ0_getBytes_840e7_15 rfl rfl ?_
  refine aw_ishl dJ0_getBytes_840e7_16 ?_
  rw [shl_0]
  refine aw_aload_n dJ0_getBytes_840e7_17 rfl rfl ?_
  refine aw_oget (v := .ref 24) (List.mem_of_getElem? (i := 43) rfl) (by decide) (show 24 < o0 by decide) sl_J0_9 dJ0_getBytes_840e7_18 ?_
  refine aw_olen (v := nI 3) (List.mem_of_getElem? (i := 7) rfl) (by decide) rfl dJ0_getBytes_840e7_21 ?_
  refine aw_copyOb (k := 3) (d := d) (g := (fun j => ([99, 109, 32] : List Int32).getD j 0)) ml_J0_212 (List.mem_of_getElem? (i := 7) rfl) (by decide) (fun _ _ => rfl) b1 (by decide) (by omega) (by decide) (by omega) (fun i hi => (by decide +kernel : ∀ i, i < 3 → fits .byte (.int (([99, 109, 32] : List Int32).getD i 0)) = true) i hi) (by decide) (by decide +kernel) dJ0_getBytes_840e7_22 ?_
  refine aw_goto (tgt := 43) dJ0_getBytes_840e7_25 (by decide) ?_
  exact aw_vret rfl (by decide) (by decide) dJ0_getBytes_840e7_43 (rV_of (by rfl))
abbrev MJ5_inflateIfNeededFor_a7421 : MT := (RJ5, cJ5_inflateIfNeededFor_a7421, 2, none, [], "inflateIfNeededFor")
set_option maxHeartbeats 4000000 in
theorem b_inf15 {l : Launch} {G : GT} {n : Nat} {H : HT} {c bp k N : Nat} {ml : Int32} {B : Nat → Int32} (b0 : H c = bcell bp ml k) (b1 : H bp = bbyt N B) : AM l G yJ5_inflateIfNeededFor_a7421 (.code yJ5_inflateIfNeededFor_a7421 cJ5_inflateIfNeededFor_a7421 2 none) 1 60 0 0 [.ref c, .ref 15] (H) n (rV H n) := by
  refine aw_enter (M := MJ5_inflateIfNeededFor_a7421) rfl rfl (by decide +kernel) rfl (Nat.le_of_ble_eq_true rfl) ?_
  show AW l G MJ5_inflateIfNeededFor_a7421 1 60 0 0 _ n 0 0 0 [(0, .ref c), (1, .ref 15)] [] _ n
  refine aw_gets (v := .int (nI 1)) (List.mem_of_getElem? (i := 0) rfl) trivial sl_J5_18 dJ5_inflateIfNeededFor_a7421_0 ?_
  refine aw_if_eq_n (by omega) (tgt := 21) dJ5_inflateIfNeededFor_a7421_3 (by decide) (fun c_1 => by exfalso; omega) (fun c_1 => ?_)
  refine aw_aload_n dJ5_inflateIfNeededFor_a7421_6 rfl rfl ?_
  refine aw_get (v := .int (nI 0)) fl_J5_22 (b0) rfl dJ5_inflateIfNeededFor_a7421_7 ?_
  refine aw_aload_n dJ5_inflateIfNeededFor_a7421_10 rfl rfl ?_
  refine aw_cI (as := []) (rest := [Value.int (nI 0)]) (MV.c mV_J0_coder_7d493) o_cod15 ml_J5_40 (RC.o (List.mem_of_getElem? (i := 14) rfl) (by decide)) dJ5_inflateIfNeededFor_a7421_11 rfl rfl (by decide) (Nat.le_of_ble_eq_true rfl) (by decide) ?_
  refine aw_icmp_eq_n (by omega) (by omega) (tgt := 21) dJ5_inflateIfNeededFor_a7421_14 (by decide) (fun c_2 => ?_) (fun c_2 => by exfalso; omega)
  exact aw_vret rfl (by decide) (by decide) dJ5_inflateIfNeededFor_a7421_21 (rV_of (by rfl))
abbrev MJ5_putStringAt_47b60 : MT := (RJ5, cJ5_putStringAt_47b60, 3, none, [], "putStringAt")
set_option maxHeartbeats 4000000 in
theorem b_put15 {l : Launch} {G : GT} {n : Nat} {H : HT} {c bp k N d : Nat} {ml : Int32} {B : Nat → Int32} (b0 : H c = bcell bp ml k) (b1 : H bp = bbyt N B) (hN34 : N ≤ 34) (hd : d + 3 ≤ N) : AM l G yJ5_putStringAt_47b60 (.code yJ5_putStringAt_47b60 cJ5_putStringAt_47b60 3 none) 2 120 0 0 [.ref c, .int (nI d), .ref 15] (H) n (rV (va_up H bp (bbyt N (va_cpy (fun j => ([99, 109, 32] : List Int32).getD j 0) B 0 d 3))) n) := by
  refine aw_enter (M := MJ5_putStringAt_47b60) rfl rfl (by decide +kernel) rfl (Nat.le_of_ble_eq_true rfl) ?_
  show AW l G MJ5_putStringAt_47b60 2 120 0 0 _ n 0 0 0 [(0, .ref c), (1, .int (nI d)), (2, .ref 15)] [] _ n
  refine aw_aload_n dJ5_putStringAt_47b60_0 rfl rfl ?_
  refine aw_aload_n dJ5_putStringAt_47b60_1 rfl rfl ?_
  refine aw_pcV (y0 := yJ5_isLatin1_aae02) (as := [Value.ref 15]) (rest := []) mP_J5_inflateIfNeededFor_a7421 rfl mC_J5_isLatin1_aae02.2.2.1 (b_inf15 b0 b1) ml_J5_397 (RC.w b0 rfl) dJ5_putStringAt_47b60_2 rfl rfl (by decide) (Nat.le_of_ble_eq_true rfl) (by decide) ?_
  refine aw_aload_n dJ5_putStringAt_47b60_5 rfl rfl ?_
  refine aw_aload_n dJ5_putStringAt_47b60_6 rfl rfl ?_
  refine aw_get (v := .ref bp) fl_J5_15 (b0) rfl dJ5_putStringAt_47b60_7 ?_
  refine aw_iload_n dJ5_putStringAt_47b60_10 rfl rfl ?_
  refine aw_aload_n dJ5_putStringAt_47b60_11 rfl rfl ?_
  refine aw_get (v := .int (nI 0)) fl_J5_22 (b0) rfl dJ5_putStringAt_47b60_12 ?_
  refine aw_cV (as := [Value.ref bp, Value.int (nI d), Value.int (nI 0)]) (rest := []) (MV.c mV_J0_getBytes_840e7) (b_gb15 b1 hN34 hd) ml_J5_399 (RC.o (List.mem_of_getElem? (i := 14) rfl) (by decide)) dJ5_putStringAt_47b60_15 rfl rfl (by decide) (Nat.le_of_ble_eq_true rfl) (by decide) ?_
  exact aw_vret rfl (by decide) (by decide) dJ5_putStringAt_47b60_18 (rV_of (by rfl))
abbrev MJ5_append_cf1ce : MT := (RJ5, cJ5_append_cf1ce, 3, (some (.object "java/lang/AbstractStringBuilder")), [], "append")
set_option maxHeartbeats 4000000 in
theorem b5_str15 {l : Launch} {G : GT} {n : Nat} {H : HT} {c bp : Nat} {L : List Nat} (hbk : bK H c bp n L 0) (h34 : L.length + 3 ≤ 34) : AM l G yJ5_append_cf1ce (.code yJ5_append_cf1ce cJ5_append_cf1ce 3 (some (.object "java/lang/AbstractStringBuilder"))) 4 240 1 34 [.ref c, .ref 15] (H) n (BX H c bp n (L ++ [99, 109, 32]) 0 (some (.ref c))) := by
  refine aw_enter (M := MJ5_append_cf1ce) rfl rfl (by decide +kernel) rfl (Nat.le_of_ble_eq_true rfl) ?_
  obtain ⟨N, B, ml, b0, b1, hN, hL, -, hne, hcn, hbn, hB, hq⟩ := id hbk
  show AW l G MJ5_append_cf1ce 4 240 1 34 _ n 0 0 0 [(0, .ref c), (1, .ref 15)] [] _ n
  refine aw_aload_n dJ5_append_cf1ce_0 rfl rfl ?_
  refine aw_ifnonnull (tgt := 9) dJ5_append_cf1ce_1 (by decide) ?_
  refine aw_aload_n dJ5_append_cf1ce_9 rfl rfl ?_
  refine aw_cI (as := []) (rest := []) (MV.c mV_J0_length_8abf5) o_len15 ml_J5_32 (RC.o (List.mem_of_getElem? (i := 14) rfl) (by decide)) dJ5_append_cf1ce_10 rfl rfl (by decide) (Nat.le_of_ble_eq_true rfl) (by decide) ?_
  refine aw_istore_n (L' := [(2, .int (nI 3)), (0, .ref c), (1, .ref 15)]) dJ5_append_cf1ce_13 rfl (by decide) rfl ?_
  refine aw_aload_n dJ5_append_cf1ce_14 rfl rfl ?_
  refine aw_aload_n dJ5_append_cf1ce_15 rfl rfl ?_
  refine aw_get (v := .int (nI L.length)) fl_J5_79 (b0) rfl dJ5_append_cf1ce_16 ?_
  refine aw_iload_n dJ5_append_cf1ce_19 rfl rfl ?_
  refine aw_iadd_n dJ5_append_cf1ce_20 ?_
  refine aw_pcP (y0 := yJ5_isLatin1_aae02) (as := [Value.int (nI (L.length + 3))]) (rest := []) mP_J5_ensureCapacityInternal_d00df rfl mC_J5_isLatin1_aae02.2.2.1 (b_ens hbk (by omega)) ml_J5_100 (RC.w b0 rfl) dJ5_append_cf1ce_21 rfl rfl (by decide) (Nat.le_of_ble_eq_true rfl) (by decide) (fun _ _ _ h => by cases h.1) (fun r9 f9 n9 _ h => ?_)
  obtain ⟨h1, bp1, hn1, hn2, hb1, hbk1, hF1⟩ := h
  obtain ⟨N1, B1, ml1, b01, b11, hN1, hL1, hm1, hne1, hcn1, hbn1, hB1, hq1⟩ := id hbk1
  cases h1
  refine aw_aload_n dJ5_append_cf1ce_24 rfl rfl ?_
  refine aw_aload_n dJ5_append_cf1ce_25 rfl rfl ?_
  refine aw_get (v := .int (nI L.length)) fl_J5_79 (b01) rfl dJ5_append_cf1ce_26 ?_
  refine aw_aload_n dJ5_append_cf1ce_29 rfl rfl ?_
  refine aw_pcV (y0 := yJ5_isLatin1_aae02) (as := [Value.int (nI L.length), Value.ref 15]) (rest := []) mP_J5_putStringAt_47b60 rfl mC_J5_isLatin1_aae02.2.2.1 (b_put15 (d := L.length) b01 b11 (by omega) (by omega)) ml_J5_208 (RC.w b01 rfl) dJ5_append_cf1ce_30 rfl rfl (by decide) (Nat.le_of_ble_eq_true rfl) (by decide) ?_
  refine aw_aload_n dJ5_append_cf1ce_33 rfl rfl ?_
  refine aw_dup dJ5_append_cf1ce_34 rfl ?_
  refine aw_get (v := .int (nI L.length)) fl_J5_79 ((up_ne (by omega)).trans (b01)) rfl dJ5_append_cf1ce_35 ?_
  refine aw_iload_n dJ5_append_cf1ce_38 rfl rfl ?_
  refine aw_iadd_n dJ5_append_cf1ce_39 ?_
  refine aw_put fp_J5_79 ((up_ne (by omega)).trans (b01)) (fun _ => rfl) (fun _ => rfl) (Nat.le_of_ble_eq_true rfl) dJ5_append_cf1ce_40 ?_
  refine aw_aload_n dJ5_append_cf1ce_43 rfl rfl ?_
  have key : ∀ i, i < 3 → ([99, 109, 32] : List Int32).getD i 0 = nI (([99, 109, 32] : List Nat).getD i 0) ∧ ([99, 109, 32] : List Nat).getD i 0 < 128 := by decide +kernel
  exact aw_aret rfl (Or.inl ⟨_, rfl⟩) (Or.inr ⟨_, rfl⟩) (by decide) (by decide) dJ5_append_cf1ce_44 ⟨rfl, bp1, by omega, by omega, hb1, bK.mk9 (ml' := ml1) hN1 hne1 hcn1 hbn1 ((up_ne (by omega)).trans up_self) (up_self.trans (by rw [List.length_append]; rfl)) (by rw [List.length_append]; exact hm1) (fun i hi => by
    rw [List.length_append] at hi
    have hi : i < L.length + 3 := hi
    rw [cpy_at]
    by_cases z : L.length ≤ i
    · rw [if_pos (by omega), gd_r z]; exact key _ (by omega)
    · rw [if_neg (by omega), gd_l (by omega)]; exact hB1 i (by omega)) (fun i hi => by
    rw [cpy_at]
    by_cases z : L.length ≤ i ∧ i < L.length + 3
    · rw [if_pos z]; exact ⟨_, (key (i - L.length) (by omega)).2, (key (i - L.length) (by omega)).1⟩
    · rw [if_neg z]; exact hq1 i hi), hF1.to hb1 (fun a h1 h2 => by rw [up_ne h1, up_ne h2])⟩
set_option maxHeartbeats 4000000 in
theorem b_gb16 {l : Launch} {G : GT} {n : Nat} {H : HT} {bp N d : Nat} {B : Nat → Int32} (b1 : H bp = bbyt N B) (hN : N ≤ 34) (hd : d + 4 ≤ N) : AM l G yJ0_getBytes_840e7 (.code yJ0_getBytes_840e7 cJ0_getBytes_840e7 4 none) 1 60 0 0 [.ref 16, .ref bp, .int (nI d), .int (nI 0)] (H) n (rV (va_up H bp (bbyt N (va_cpy (fun j => ([114, 101, 115, 116] : List Int32).getD j 0) B 0 d 4))) n) := by
  refine aw_enter (M := MJ0_getBytes_840e7) rfl rfl (by decide +kernel) rfl (Nat.le_of_ble_eq_true rfl) ?_
  show AW l G MJ0_getBytes_840e7 1 60 0 0 _ n 0 0 0 [(0, .ref 16), (1, .ref bp), (2, .int (nI d)), (3, .int (nI 0))] [] _ n
  refine aw_aload_n dJ0_getBytes_840e7_0 rfl rfl ?_
  refine aw_cI (as := []) (rest := []) (MV.c mV_J0_coder_7d493) (o_cod16 ) ml_J0_335 (RC.o (List.mem_of_getElem? (i := 15) rfl) (by decide)) dJ0_getBytes_840e7_1 rfl rfl (by decide) (Nat.le_of_ble_eq_true rfl) (by decide) ?_
  refine aw_iload_n dJ0_getBytes_840e7_4 rfl rfl ?_
  refine aw_icmp_ne_n (by omega) (by omega) (tgt := 28) dJ0_getBytes_840e7_5 (by decide) (fun c_1 => by exfalso; omega) (fun c_1 => ?_)
  refine aw_aload_n dJ0_getBytes_840e7_8 rfl rfl ?_
  refine aw_oget (v := .ref 25) (List.mem_of_getElem? (i := 45) rfl) (by decide) (show 25 < o0 by decide) sl_J0_9 dJ0_getBytes_840e7_9 ?_
  refine aw_iconst_n 0 dJ0_getBytes_840e7_12 (by decide) ?_
  refine aw_aload_n dJ0_getBytes_840e7_13 rfl rfl ?_
  refine aw_iload_n dJ0_getBytes_840e7_14 rfl rfl ?_
  refine aw_iload_n dJ0_getBytes_840e7_15 rfl rfl ?_
  refine aw_ishl dJ0_getBytes_840e7_16 ?_
  rw [shl_0]
  refine aw_aload_n dJ0_getBytes_840e7_17 rfl rfl ?_
  refine aw_oget (v := .ref 25) (List.mem_of_getElem? (i := 45) rfl) (by decide) (show 25 < o0 by decide) sl_J0_9 dJ0_getBytes_840e7_18 ?_
  refine aw_olen (v := nI 4) (List.mem_of_getElem? (i := 8) rfl) (by decide) rfl dJ0_getBytes_840e7_21 ?_
  refine aw_copyOb (k := 4) (d := d) (g := (fun j => ([114, 101, 115, 116] : List Int32).getD j 0)) ml_J0_212 (List.mem_of_getElem? (i := 8) rfl) (by decide) (fun _ _ => rfl) b1 (by decide) (by omega) (by decide) (by omega) (fun i hi => (by decide +kernel : ∀ i, i < 4 → fits .byte (.int (([114, 101, 115, 116] : List Int32).getD i 0)) = true) i hi) (by decide) (by decide +kernel) dJ0_getBytes_840e7_22 ?_
  refine aw_goto (tgt := 43) dJ0_getBytes_840e7_25 (by decide) ?_
  exact aw_vret rfl (by decide) (by decide) dJ0_getBytes_840e7_43 (rV_of (by rfl))
set_option maxHeartbeats 4000000 in
theorem b_inf16 {l : Launch} {G : GT} {n : Nat} {H : HT} {c bp k N : Nat} {ml : Int32} {B : Nat → Int32} (b0 : H c = bcell bp ml k) (b1 : H bp = bbyt N B) : AM l G yJ5_inflateIfNeededFor_a7421 (.code yJ5_inflateIfNeededFor_a7421 cJ5_inflateIfNeededFor_a7421 2 none) 1 60 0 0 [.ref c, .ref 16] (H) n (rV H n) := by
  refine aw_enter (M := MJ5_inflateIfNeededFor_a7421) rfl rfl (by decide +kernel) rfl (Nat.le_of_ble_eq_true rfl) ?_
  show AW l G MJ5_inflateIfNeededFor_a7421 1 60 0 0 _ n 0 0 0 [(0, .ref c), (1, .ref 16)] [] _ n
  refine aw_gets (v := .int (nI 1)) (List.mem_of_getElem? (i := 0) rfl) trivial sl_J5_18 dJ5_inflateIfNeededFor_a7421_0 ?_
  refine aw_if_eq_n (by omega) (tgt := 21) dJ5_inflateIfNeededFor_a7421_3 (by decide) (fun c_1 => by exfalso; omega) (fun c_1 => ?_)
  refine aw_aload_n dJ5_inflateIfNeededFor_a7421_6 rfl rfl ?_
  refine aw_get (v := .int (nI 0)) fl_J5_22 (b0) rfl dJ5_inflateIfNeededFor_a7421_7 ?_
  refine aw_aload_n dJ5_inflateIfNeededFor_a7421_10 rfl rfl ?_
  refine aw_cI (as := []) (rest := [Value.int (nI 0)]) (MV.c mV_J0_coder_7d493) o_cod16 ml_J5_40 (RC.o (List.mem_of_getElem? (i := 15) rfl) (by decide)) dJ5_inflateIfNeededFor_a7421_11 rfl rfl (by decide) (Nat.le_of_ble_eq_true rfl) (by decide) ?_
  refine aw_icmp_eq_n (by omega) (by omega) (tgt := 21) dJ5_inflateIfNeededFor_a7421_14 (by decide) (fun c_2 => ?_) (fun c_2 => by exfalso; omega)
  exact aw_vret rfl (by decide) (by decide) dJ5_inflateIfNeededFor_a7421_21 (rV_of (by rfl))
set_option maxHeartbeats 4000000 in
theorem b_put16 {l : Launch} {G : GT} {n : Nat} {H : HT} {c bp k N d : Nat} {ml : Int32} {B : Nat → Int32} (b0 : H c = bcell bp ml k) (b1 : H bp = bbyt N B) (hN34 : N ≤ 34) (hd : d + 4 ≤ N) : AM l G yJ5_putStringAt_47b60 (.code yJ5_putStringAt_47b60 cJ5_putStringAt_47b60 3 none) 2 120 0 0 [.ref c, .int (nI d), .ref 16] (H) n (rV (va_up H bp (bbyt N (va_cpy (fun j => ([114, 101, 115, 116] : List Int32).getD j 0) B 0 d 4))) n) := by
  refine aw_enter (M := MJ5_putStringAt_47b60) rfl rfl (by decide +kernel) rfl (Nat.le_of_ble_eq_true rfl) ?_
  show AW l G MJ5_putStringAt_47b60 2 120 0 0 _ n 0 0 0 [(0, .ref c), (1, .int (nI d)), (2, .ref 16)] [] _ n
  refine aw_aload_n dJ5_putStringAt_47b60_0 rfl rfl ?_
  refine aw_aload_n dJ5_putStringAt_47b60_1 rfl rfl ?_
  refine aw_pcV (y0 := yJ5_isLatin1_aae02) (as := [Value.ref 16]) (rest := []) mP_J5_inflateIfNeededFor_a7421 rfl mC_J5_isLatin1_aae02.2.2.1 (b_inf16 b0 b1) ml_J5_397 (RC.w b0 rfl) dJ5_putStringAt_47b60_2 rfl rfl (by decide) (Nat.le_of_ble_eq_true rfl) (by decide) ?_
  refine aw_aload_n dJ5_putStringAt_47b60_5 rfl rfl ?_
  refine aw_aload_n dJ5_putStringAt_47b60_6 rfl rfl ?_
  refine aw_get (v := .ref bp) fl_J5_15 (b0) rfl dJ5_putStringAt_47b60_7 ?_
  refine aw_iload_n dJ5_putStringAt_47b60_10 rfl rfl ?_
  refine aw_aload_n dJ5_putStringAt_47b60_11 rfl rfl ?_
  refine aw_get (v := .int (nI 0)) fl_J5_22 (b0) rfl dJ5_putStringAt_47b60_12 ?_
  refine aw_cV (as := [Value.ref bp, Value.int (nI d), Value.int (nI 0)]) (rest := []) (MV.c mV_J0_getBytes_840e7) (b_gb16 b1 hN34 hd) ml_J5_399 (RC.o (List.mem_of_getElem? (i := 15) rfl) (by decide)) dJ5_putStringAt_47b60_15 rfl rfl (by decide) (Nat.le_of_ble_eq_true rfl) (by decide) ?_
  exact aw_vret rfl (by decide) (by decide) dJ5_putStringAt_47b60_18 (rV_of (by rfl))
set_option maxHeartbeats 4000000 in
theorem b5_str16 {l : Launch} {G : GT} {n : Nat} {H : HT} {c bp : Nat} {L : List Nat} (hbk : bK H c bp n L 0) (h34 : L.length + 4 ≤ 34) : AM l G yJ5_append_cf1ce (.code yJ5_append_cf1ce cJ5_append_cf1ce 3 (some (.object "java/lang/AbstractStringBuilder"))) 4 240 1 34 [.ref c, .ref 16] (H) n (BX H c bp n (L ++ [114, 101, 115, 116]) 0 (some (.ref c))) := by
  refine aw_enter (M := MJ5_append_cf1ce) rfl rfl (by decide +kernel) rfl (Nat.le_of_ble_eq_true rfl) ?_
  obtain ⟨N, B, ml, b0, b1, hN, hL, -, hne, hcn, hbn, hB, hq⟩ := id hbk
  show AW l G MJ5_append_cf1ce 4 240 1 34 _ n 0 0 0 [(0, .ref c), (1, .ref 16)] [] _ n
  refine aw_aload_n dJ5_append_cf1ce_0 rfl rfl ?_
  refine aw_ifnonnull (tgt := 9) dJ5_append_cf1ce_1 (by decide) ?_
  refine aw_aload_n dJ5_append_cf1ce_9 rfl rfl ?_
  refine aw_cI (as := []) (rest := []) (MV.c mV_J0_length_8abf5) o_len16 ml_J5_32 (RC.o (List.mem_of_getElem? (i := 15) rfl) (by decide)) dJ5_append_cf1ce_10 rfl rfl (by decide) (Nat.le_of_ble_eq_true rfl) (by decide) ?_
  refine aw_istore_n (L' := [(2, .int (nI 4)), (0, .ref c), (1, .ref 16)]) dJ5_append_cf1ce_13 rfl (by decide) rfl ?_
  refine aw_aload_n dJ5_append_cf1ce_14 rfl rfl ?_
  refine aw_aload_n dJ5_append_cf1ce_15 rfl rfl ?_
  refine aw_get (v := .int (nI L.length)) fl_J5_79 (b0) rfl dJ5_append_cf1ce_16 ?_
  refine aw_iload_n dJ5_append_cf1ce_19 rfl rfl ?_
  refine aw_iadd_n dJ5_append_cf1ce_20 ?_
  refine aw_pcP (y0 := yJ5_isLatin1_aae02) (as := [Value.int (nI (L.length + 4))]) (rest := []) mP_J5_ensureCapacityInternal_d00df rfl mC_J5_isLatin1_aae02.2.2.1 (b_ens hbk (by omega)) ml_J5_100 (RC.w b0 rfl) dJ5_append_cf1ce_21 rfl rfl (by decide) (Nat.le_of_ble_eq_true rfl) (by decide) (fun _ _ _ h => by cases h.1) (fun r9 f9 n9 _ h => ?_)
  obtain ⟨h1, bp1, hn1, hn2, hb1, hbk1, hF1⟩ := h
  obtain ⟨N1, B1, ml1, b01, b11, hN1, hL1, hm1, hne1, hcn1, hbn1, hB1, hq1⟩ := id hbk1
  cases h1
  refine aw_aload_n dJ5_append_cf1ce_24 rfl rfl ?_
  refine aw_aload_n dJ5_append_cf1ce_25 rfl rfl ?_
  refine aw_get (v := .int (nI L.length)) fl_J5_79 (b01) rfl dJ5_append_cf1ce_26 ?_
  refine aw_aload_n dJ5_append_cf1ce_29 rfl rfl ?_
  refine aw_pcV (y0 := yJ5_isLatin1_aae02) (as := [Value.int (nI L.length), Value.ref 16]) (rest := []) mP_J5_putStringAt_47b60 rfl mC_J5_isLatin1_aae02.2.2.1 (b_put16 (d := L.length) b01 b11 (by omega) (by omega)) ml_J5_208 (RC.w b01 rfl) dJ5_append_cf1ce_30 rfl rfl (by decide) (Nat.le_of_ble_eq_true rfl) (by decide) ?_
  refine aw_aload_n dJ5_append_cf1ce_33 rfl rfl ?_
  refine aw_dup dJ5_append_cf1ce_34 rfl ?_
  refine aw_get (v := .int (nI L.length)) fl_J5_79 ((up_ne (by omega)).trans (b01)) rfl dJ5_append_cf1ce_35 ?_
  refine aw_iload_n dJ5_append_cf1ce_38 rfl rfl ?_
  refine aw_iadd_n dJ5_append_cf1ce_39 ?_
  refine aw_put fp_J5_79 ((up_ne (by omega)).trans (b01)) (fun _ => rfl) (fun _ => rfl) (Nat.le_of_ble_eq_true rfl) dJ5_append_cf1ce_40 ?_
  refine aw_aload_n dJ5_append_cf1ce_43 rfl rfl ?_
  have key : ∀ i, i < 4 → ([114, 101, 115, 116] : List Int32).getD i 0 = nI (([114, 101, 115, 116] : List Nat).getD i 0) ∧ ([114, 101, 115, 116] : List Nat).getD i 0 < 128 := by decide +kernel
  exact aw_aret rfl (Or.inl ⟨_, rfl⟩) (Or.inr ⟨_, rfl⟩) (by decide) (by decide) dJ5_append_cf1ce_44 ⟨rfl, bp1, by omega, by omega, hb1, bK.mk9 (ml' := ml1) hN1 hne1 hcn1 hbn1 ((up_ne (by omega)).trans up_self) (up_self.trans (by rw [List.length_append]; rfl)) (by rw [List.length_append]; exact hm1) (fun i hi => by
    rw [List.length_append] at hi
    have hi : i < L.length + 4 := hi
    rw [cpy_at]
    by_cases z : L.length ≤ i
    · rw [if_pos (by omega), gd_r z]; exact key _ (by omega)
    · rw [if_neg (by omega), gd_l (by omega)]; exact hB1 i (by omega)) (fun i hi => by
    rw [cpy_at]
    by_cases z : L.length ≤ i ∧ i < L.length + 4
    · rw [if_pos z]; exact ⟨_, (key (i - L.length) (by omega)).2, (key (i - L.length) (by omega)).1⟩
    · rw [if_neg z]; exact hq1 i hi), hF1.to hb1 (fun a h1 h2 => by rw [up_ne h1, up_ne h2])⟩
abbrev MJ5_append_c97b9 : MT := (RJ5, cJ5_append_c97b9, 4, (some (.object "java/lang/AbstractStringBuilder")), [], "append")
set_option maxHeartbeats 4000000 in
theorem b5_int {l : Launch} {G : GT} {n : Nat} {H : HT} {c bp : Nat} {L : List Nat} (hbk : bK H c bp n L 0) {v : Nat} (hv : v < 10 ^ 8) (h34 : L.length + 8 ≤ 34) : AM l G yJ5_append_c97b9 (.code yJ5_append_c97b9 cJ5_append_c97b9 4 (some (.object "java/lang/AbstractStringBuilder"))) 4 240 1 34 [.ref c, .int (nI v)] (H) n (BX H c bp n (L ++ decN v) 0 (some (.ref c))) := by
  refine aw_enter (M := MJ5_append_c97b9) rfl rfl (by decide +kernel) rfl (Nat.le_of_ble_eq_true rfl) ?_
  obtain ⟨N, B, ml, b0, b1, hN, hL, -, hne, hcn, hbn, hB, hq⟩ := id hbk
  obtain ⟨hl1, hl8, -, -⟩ := len_ex hv
  show AW l G MJ5_append_c97b9 4 240 1 34 _ n 0 0 0 [(0, .ref c), (1, .int (nI v))] [] _ n
  refine aw_aload_n dJ5_append_c97b9_0 rfl rfl ?_
  refine aw_get (v := .int (nI L.length)) fl_J5_79 (b0) rfl dJ5_append_c97b9_1 ?_
  refine aw_istore_n (L' := [(2, .int (nI L.length)), (0, .ref c), (1, .int (nI v))]) dJ5_append_c97b9_4 rfl (by decide) rfl ?_
  refine aw_iload_n dJ5_append_c97b9_5 rfl rfl ?_
  refine aw_iload_n dJ5_append_c97b9_6 rfl rfl ?_
  refine aw_sI (as := [Value.int (nI v)]) (rest := [Value.int (nI L.length)]) mS_J6_stringSize_0f7a4 (i_size hv) ml_J5_245 dJ5_append_c97b9_7 rfl rfl (by decide) (Nat.le_of_ble_eq_true rfl) (by decide) ?_
  refine aw_iadd_n dJ5_append_c97b9_10 ?_
  refine aw_istore_n (L' := [(3, .int (nI (L.length + (lenD v 9)))), (2, .int (nI L.length)), (0, .ref c), (1, .int (nI v))]) dJ5_append_c97b9_11 rfl (by decide) rfl ?_
  refine aw_aload_n dJ5_append_c97b9_12 rfl rfl ?_
  refine aw_iload_n dJ5_append_c97b9_13 rfl rfl ?_
  refine aw_pcP (y0 := yJ5_isLatin1_aae02) (as := [Value.int (nI (L.length + (lenD v 9)))]) (rest := []) mP_J5_ensureCapacityInternal_d00df rfl mC_J5_isLatin1_aae02.2.2.1 (b_ens hbk (by omega)) ml_J5_100 (RC.w b0 rfl) dJ5_append_c97b9_14 rfl rfl (by decide) (Nat.le_of_ble_eq_true rfl) (by decide) (fun _ _ _ h => by cases h.1) (fun r9 f9 n9 _ h => ?_)
  obtain ⟨h1, bp1, hn1, hn2, hb1, hbk1, hF1⟩ := h
  obtain ⟨N1, B1, ml1, b01, b11, hN1, hL1, hm1, hne1, hcn1, hbn1, hB1, hq1⟩ := id hbk1
  cases h1
  refine aw_aload_n dJ5_append_c97b9_17 rfl rfl ?_
  refine aw_cI (as := []) (rest := []) mC_J5_isLatin1_aae02 (b_lat (b01) (b11)) ml_J5_83 (RC.w (b01) rfl) dJ5_append_c97b9_18 rfl rfl (by decide) (Nat.le_of_ble_eq_true rfl) (by decide) ?_
  refine aw_if_eq_n (by omega) (tgt := 37) dJ5_append_c97b9_21 (by decide) (fun c_1 => by exfalso; omega) (fun c_1 => ?_)
  refine aw_iload_n dJ5_append_c97b9_24 rfl rfl ?_
  refine aw_iload_n dJ5_append_c97b9_25 rfl rfl ?_
  refine aw_aload_n dJ5_append_c97b9_26 rfl rfl ?_
  refine aw_get (v := .ref bp1) fl_J5_15 (b01) rfl dJ5_append_c97b9_27 ?_
  refine aw_sP (as := [Value.int (nI v), Value.int (nI (L.length + lenD v 9)), Value.ref bp1]) (rest := []) mS_J6_getChars_ba4f3 (i_gc hv (by omega) (by omega) (by omega) b11) ml_J5_248 dJ5_append_c97b9_30 rfl rfl (by decide) (Nat.le_of_ble_eq_true rfl) (by decide) (fun _ _ _ h => by cases h.1) (fun r8 f8 n8 _ h => ?_)
  obtain ⟨g1, g2, B2, g3, hDW⟩ := h
  cases g1; subst g2; subst g3
  refine aw_pop dJ5_append_c97b9_33 rfl ?_
  refine aw_goto (tgt := 48) dJ5_append_c97b9_34 (by decide) ?_
  refine aw_aload_n dJ5_append_c97b9_48 rfl rfl ?_
  refine aw_iload_n dJ5_append_c97b9_49 rfl rfl ?_
  refine aw_put fp_J5_79 ((up_ne (by omega)).trans (b01)) (fun _ => rfl) (fun _ => rfl) (Nat.le_of_ble_eq_true rfl) dJ5_append_c97b9_50 ?_
  refine aw_aload_n dJ5_append_c97b9_53 rfl rfl ?_
  have hdl : (decN v).length = lenD v 9 := dgs_len v _
  have hdg : ∀ i, L.length ≤ i → i < L.length + lenD v 9 → B2 i = nI ((decN v).getD (i - L.length) 0) ∧ (decN v).getD (i - L.length) 0 < 128 := fun i z1 z2 => by
    have h9 := hDW.1 (L.length + lenD v 9 - 1 - i) (by omega)
    rw [show L.length + lenD v 9 - 1 - (L.length + lenD v 9 - 1 - i) = i by omega] at h9
    have h8 := dgs_at (v := v) (lenD v 9) (i - L.length) (by omega)
    refine ⟨?_, dgs_lt _ _ (by omega)⟩
    rw [h9]
    show _ = nI ((dgs v (lenD v 9)).getD (i - L.length) 0)
    rw [h8, show lenD v 9 - 1 - (i - L.length) = L.length + lenD v 9 - 1 - i by omega]
  exact aw_aret rfl (Or.inl ⟨_, rfl⟩) (Or.inr ⟨_, rfl⟩) (by decide) (by decide) dJ5_append_c97b9_54 ⟨rfl, bp1, by omega, by omega, hb1, bK.mk9 (ml' := ml1) hN1 hne1 hcn1 hbn1 ((up_ne (by omega)).trans up_self) (up_self.trans (by rw [List.length_append, hdl]; rfl)) (by rw [List.length_append, hdl]; exact hm1) (fun i hi => by
    rw [List.length_append, hdl] at hi
    by_cases z : L.length ≤ i
    · rw [gd_r z]; exact hdg i z hi
    · rw [hDW.2 i (by omega), gd_l (by omega)]; exact hB1 i (by omega)) (fun i hi => by
    by_cases z : L.length ≤ i ∧ i < L.length + lenD v 9
    · exact ⟨_, (hdg i z.1 z.2).2, (hdg i z.1 z.2).1⟩
    · rw [hDW.2 i (by omega)]; exact hq1 i hi), hF1.to hb1 (fun a h1 h2 => by rw [up_ne h1, up_ne h2])⟩
abbrev MJ5_setLength_d00df : MT := (RJ5, cJ5_setLength_d00df, 2, none, [], "setLength")
set_option maxHeartbeats 4000000 in
theorem b5_set {l : Launch} {G : GT} {n : Nat} {H : HT} {c bp : Nat} {L : List Nat} (hbk : bK H c bp n L 0) : AM l G yJ5_setLength_d00df (.code yJ5_setLength_d00df cJ5_setLength_d00df 2 none) 4 240 1 34 [.ref c, .int (nI 0)] (H) n (BX H c bp n [] 0 none) := by
  refine aw_enter (M := MJ5_setLength_d00df) rfl rfl (by decide +kernel) rfl (Nat.le_of_ble_eq_true rfl) ?_
  obtain ⟨N, B, ml, b0, b1, hN, hL, -, hne, hcn, hbn, hB, hq⟩ := id hbk
  show AW l G MJ5_setLength_d00df 4 240 1 34 _ n 0 0 0 [(0, .ref c), (1, .int (nI 0))] [] _ n
  refine aw_iload_n dJ5_setLength_d00df_0 rfl rfl ?_
  refine aw_if_ge_n (by omega) (tgt := 13) dJ5_setLength_d00df_1 (by decide) ?_
  refine aw_aload_n dJ5_setLength_d00df_13 rfl rfl ?_
  refine aw_iload_n dJ5_setLength_d00df_14 rfl rfl ?_
  refine aw_pcP (y0 := yJ5_isLatin1_aae02) (as := [Value.int (nI 0)]) (rest := []) mP_J5_ensureCapacityInternal_d00df rfl mC_J5_isLatin1_aae02.2.2.1 (b_ens hbk (by omega)) ml_J5_100 (RC.w b0 rfl) dJ5_setLength_d00df_15 rfl rfl (by decide) (Nat.le_of_ble_eq_true rfl) (by decide) (fun _ _ _ h => by cases h.1) (fun r9 f9 n9 _ h => ?_)
  obtain ⟨h1, bp1, hn1, hn2, hb1, hbk1, hF1⟩ := h
  obtain ⟨N1, B1, ml1, b01, b11, hN1, hL1, hm1, hne1, hcn1, hbn1, hB1, hq1⟩ := id hbk1
  cases h1
  refine aw_aload_n dJ5_setLength_d00df_18 rfl rfl ?_
  refine aw_get (v := .int (nI L.length)) fl_J5_79 (b01) rfl dJ5_setLength_d00df_19 ?_
  refine aw_iload_n dJ5_setLength_d00df_22 rfl rfl ?_
  refine aw_icmp_ge_n (by omega) (by omega) (tgt := 63) dJ5_setLength_d00df_23 (by decide) (fun c_2 => ?_) (fun c_2 => by exfalso; omega)
  refine aw_aload_n dJ5_setLength_d00df_63 rfl rfl ?_
  refine aw_get (v := .int (nI L.length)) fl_J5_79 (b01) rfl dJ5_setLength_d00df_64 ?_
  refine aw_iload_n dJ5_setLength_d00df_67 rfl rfl ?_
  refine aw_icmp_le_n (by omega) (by omega) (tgt := 76) dJ5_setLength_d00df_68 (by decide) (fun c_3 => ?_) (fun c_3 => ?_)
  · refine aw_aload_n dJ5_setLength_d00df_76 rfl rfl ?_
    refine aw_iload_n dJ5_setLength_d00df_77 rfl rfl ?_
    refine aw_put fp_J5_79 (b01) (fun _ => rfl) (fun _ => rfl) (Nat.le_of_ble_eq_true rfl) dJ5_setLength_d00df_78 ?_
    exact aw_vret rfl (by decide) (by decide) dJ5_setLength_d00df_81 ⟨rfl, bp1, by omega, by omega, hb1, bK.mk9 (L' := []) hN1 hne1 hcn1 hbn1 ((up_ne (by omega)).trans b11) up_self (Nat.zero_le _) (fun i hi => absurd hi (Nat.not_lt_zero _)) hq1, hF1.to hb1 (fun a h1 h2 => by rw [up_ne h1])⟩
  · refine aw_aload_n dJ5_setLength_d00df_71 rfl rfl ?_
    refine aw_iconst_n 1 dJ5_setLength_d00df_72 (by decide) ?_
    refine aw_put fp_J5_73 (b01) (fun _ => rfl) (fun _ => rfl) (Nat.le_of_ble_eq_true rfl) dJ5_setLength_d00df_73 ?_
    refine aw_aload_n dJ5_setLength_d00df_76 rfl rfl ?_
    refine aw_iload_n dJ5_setLength_d00df_77 rfl rfl ?_
    refine aw_put fp_J5_79 (up_self) (fun _ => rfl) (fun _ => rfl) (Nat.le_of_ble_eq_true rfl) dJ5_setLength_d00df_78 ?_
    exact aw_vret rfl (by decide) (by decide) dJ5_setLength_d00df_81 ⟨rfl, bp1, by omega, by omega, hb1, bK.mk9 (L' := []) hN1 hne1 hcn1 hbn1 ((up_ne (by omega)).trans ((up_ne (by omega)).trans b11)) up_self (Nat.zero_le _) (fun i hi => absurd hi (Nat.not_lt_zero _)) hq1, hF1.to hb1 (fun a h1 h2 => by rw [up_ne h1, up_ne h1])⟩
abbrev MJ5_length_8abf5 : MT := (RJ5, cJ5_length_8abf5, 1, (some .int), [], "length")
set_option maxHeartbeats 4000000 in
theorem b5_len {l : Launch} {G : GT} {n : Nat} {H : HT} {c bp : Nat} {L : List Nat} (hbk : bK H c bp n L 0) : AM l G yJ5_length_8abf5 (.code yJ5_length_8abf5 cJ5_length_8abf5 1 (some .int)) 0 0 0 0 [.ref c] (H) n (rI (nI L.length) H n) := by
  refine aw_enter (M := MJ5_length_8abf5) rfl rfl (by decide +kernel) rfl (Nat.le_of_ble_eq_true rfl) ?_
  obtain ⟨N, B, ml, b0, b1, hN, hL, -, hne, hcn, hbn, hB, hq⟩ := id hbk
  show AW l G MJ5_length_8abf5 0 0 0 0 _ n 0 0 0 [(0, .ref c)] [] _ n
  refine aw_aload_n dJ5_length_8abf5_0 rfl rfl ?_
  refine aw_get (v := .int (nI L.length)) fl_J5_79 (b0) rfl dJ5_length_8abf5_1 ?_
  exact aw_iret rfl (by decide) (by decide) dJ5_length_8abf5_4 (rI_of (by rfl))
abbrev MJ5_charAt_5068e : MT := (RJ5, cJ5_charAt_5068e, 5, (some .char), [], "charAt")
set_option maxHeartbeats 4000000 in
theorem b5_at {l : Launch} {G : GT} {n : Nat} {H : HT} {c bp : Nat} {L : List Nat} (hbk : bK H c bp n L 0) {i : Nat} (hi : i < L.length) : AM l G yJ5_charAt_5068e (.code yJ5_charAt_5068e cJ5_charAt_5068e 5 (some .char)) 2 120 0 0 [.ref c, .int (nI i)] (H) n (rI (nI (L.getD i 0)) H n) := by
  refine aw_enter (M := MJ5_charAt_5068e) rfl rfl (by decide +kernel) rfl (Nat.le_of_ble_eq_true rfl) ?_
  obtain ⟨N, B, ml, b0, b1, hN, hL, -, hne, hcn, hbn, hB, hq⟩ := id hbk
  show AW l G MJ5_charAt_5068e 2 120 0 0 _ n 0 0 0 [(0, .ref c), (1, .int (nI i))] [] _ n
  refine aw_aload_n dJ5_charAt_5068e_0 rfl rfl ?_
  refine aw_get (v := .int (nI 0)) fl_J5_22 (b0) rfl dJ5_charAt_5068e_1 ?_
  refine aw_istore_n (L' := [(2, .int (nI 0)), (0, .ref c), (1, .int (nI i))]) dJ5_charAt_5068e_4 rfl (by decide) rfl ?_
  refine aw_aload_n dJ5_charAt_5068e_5 rfl rfl ?_
  refine aw_get (v := .ref bp) fl_J5_15 (b0) rfl dJ5_charAt_5068e_6 ?_
  refine aw_astore_n (L' := [(3, .ref bp), (2, .int (nI 0)), (0, .ref c), (1, .int (nI i))]) dJ5_charAt_5068e_9 rfl (by decide) rfl ?_
  refine aw_aload_n dJ5_charAt_5068e_10 rfl rfl ?_
  refine aw_get (v := .int (nI L.length)) fl_J5_79 (b0) rfl dJ5_charAt_5068e_11 ?_
  refine aw_aload_n dJ5_charAt_5068e_14 rfl rfl ?_
  refine aw_alen (N := 0) (x := nilc) (ty := .byte) (v := nI N) (b1) rfl rfl dJ5_charAt_5068e_15 ?_
  refine aw_iload_n dJ5_charAt_5068e_16 rfl rfl ?_
  refine aw_ishr dJ5_charAt_5068e_17 ?_
  rw [shr_0]
  refine aw_mmin_n (by omega) (by omega) ml_J5_138 (by decide) (Nat.le_of_ble_eq_true rfl) (by decide) (by decide) dJ5_charAt_5068e_18 ?_
  rw [Nat.min_eq_left hL]
  refine aw_istore (L' := [(4, .int (nI L.length)), (3, .ref bp), (2, .int (nI 0)), (0, .ref c), (1, .int (nI i))]) dJ5_charAt_5068e_21 (by decide) rfl ?_
  refine aw_iload_n dJ5_charAt_5068e_23 rfl rfl ?_
  refine aw_iload dJ5_charAt_5068e_24 rfl ?_
  refine aw_sV (as := [Value.int (nI i), Value.int (nI L.length)]) (rest := []) mS_J0_checkIndex_df160 (o_ck0 hi (by omega)) ml_J5_144 dJ5_charAt_5068e_26 rfl rfl (by decide) (Nat.le_of_ble_eq_true rfl) (by decide) ?_
  refine aw_iload_n dJ5_charAt_5068e_29 rfl rfl ?_
  refine aw_if_ne_n (by omega) (tgt := 42) dJ5_charAt_5068e_30 (by decide) (fun c_1 => by exfalso; omega) (fun c_1 => ?_)
  refine aw_aload_n dJ5_charAt_5068e_33 rfl rfl ?_
  refine aw_iload_n dJ5_charAt_5068e_34 rfl rfl ?_
  refine aw_bald_n (k := i) (v := nI (L.getD i 0)) b1 (by omega) (by omega) (hB i hi).1 dJ5_charAt_5068e_35 ?_
  refine aw_sipush_n 255 dJ5_charAt_5068e_36 (by decide) ?_
  refine aw_iand dJ5_charAt_5068e_39 ?_
  refine aw_i2c dJ5_charAt_5068e_40 ?_
  have key : ∀ q, q < 128 → ((nI q &&& nI 255).toUInt32 % 65536).toInt32 = nI q := by decide +kernel
  rw [key _ (hB i hi).2]
  exact aw_zret rfl (c128_narrow (hB i hi).2) (by decide) (by decide) dJ5_charAt_5068e_41 (rI_of rfl)
