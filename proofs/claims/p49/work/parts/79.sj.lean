/-! a builder of any size up to 100 -/
def cpN (N m : Nat) : Nat := if m ≤ N then N else N + max (m - N) (N + 2)
def bJ (f : HT) (c bp n : Nat) (L : List Nat) (N : Nat) : Prop := ∃ (B : Nat → Int32) (ml : Int32), f c = bcell bp ml L.length ∧ f bp = bbyt N B ∧ N ≤ 100 ∧ L.length ≤ N ∧ bp ≠ c ∧ c < n ∧ bp < n ∧ (∀ i, i < L.length → B i = nI (L.getD i 0) ∧ L.getD i 0 < 128) ∧ ∀ i, i < N → ∃ q, q < 128 ∧ B i = nI q
def BY (H : HT) (c bp n : Nat) (L : List Nat) (N : Nat) (x : Option Value) : PT := fun r f' n' => r = .inl x ∧ ∃ bp', n ≤ n' ∧ n' ≤ n + 1 ∧ (bp' = bp ∨ bp' = n) ∧ bJ f' c bp' n' L N ∧ bF H f' c bp n
theorem bJ.mk9 {f : HT} {c bp n N : Nat} {L' : List Nat} {ml' : Int32} {B' : Nat → Int32} (hN : N ≤ 100) (hne : bp ≠ c) (hcn : c < n) (hbn : bp < n) (b1 : f bp = bbyt N B') (b0 : f c = bcell bp ml' L'.length) (hL : L'.length ≤ N) (hB : ∀ i, i < L'.length → B' i = nI (L'.getD i 0) ∧ L'.getD i 0 < 128) (hq : ∀ i, i < N → ∃ q, q < 128 ∧ B' i = nI q) : bJ f c bp n L' N := ⟨B', ml', b0, b1, hN, hL, hne, hcn, hbn, hB, hq⟩
theorem BN.bJ {H : HT} {c n : Nat} (h : c < n) : bJ (BN H c n) c n (n + 1) [] 16 := ⟨fun _ => 0, 0, up_self, (up_ne (by omega)).trans up_self, by decide, Nat.zero_le _, by omega, by omega, Nat.lt_succ_self n, fun i hi => absurd hi (Nat.not_lt_zero _), fun i hi => ⟨0, by decide, nI_0.symm⟩⟩
set_option maxHeartbeats 4000000 in
theorem j_newLen {l : Launch} {G : GT} {n : Nat} {f : HT} {N m : Nat} (hN : N ≤ 200) (hm : m ≤ 200) : AM l G yJ8_newLength_cabcc (.code yJ8_newLength_cabcc cJ8_newLength_cabcc 4 (some .int)) 1 60 0 0 [.int (nI N), .int (nI m), .int (nI (N + 2))] (f) n (rI (nI (N + max m (N + 2))) f n) := by
  refine aw_enter (M := MJ8_newLength_cabcc) rfl rfl (by decide +kernel) rfl (Nat.le_of_ble_eq_true rfl) ?_
  show AW l G MJ8_newLength_cabcc 1 60 0 0 _ n 0 0 0 [(0, .int (nI N)), (1, .int (nI m)), (2, .int (nI (N + 2)))] [] _ n
  refine aw_iload_n dJ8_newLength_cabcc_0 rfl rfl ?_
  refine aw_iload_n dJ8_newLength_cabcc_1 rfl rfl ?_
  refine aw_iload_n dJ8_newLength_cabcc_2 rfl rfl ?_
  refine aw_mmax_n (by omega) (by omega) ml_J8_194 (by decide) (Nat.le_of_ble_eq_true rfl) (by decide) (by decide) dJ8_newLength_cabcc_3 ?_
  refine aw_iadd_n dJ8_newLength_cabcc_6 ?_
  refine aw_istore_n (L' := [(3, .int (nI (N + max m (N + 2)))), (0, .int (nI N)), (1, .int (nI m)), (2, .int (nI (N + 2)))]) dJ8_newLength_cabcc_7 rfl (by decide) rfl ?_
  refine aw_iconst_n 0 dJ8_newLength_cabcc_8 (by decide) ?_
  refine aw_iload_n dJ8_newLength_cabcc_9 rfl rfl ?_
  refine aw_icmp_ge_n (by omega) (by omega) (tgt := 21) dJ8_newLength_cabcc_10 (by decide) (fun c_1 => by exfalso; omega) (fun c_1 => ?_)
  refine aw_iload_n dJ8_newLength_cabcc_13 rfl rfl ?_
  refine aw_ldc (v := nI 2147483639) kc_J8_200 dJ8_newLength_cabcc_14 ?_
  refine aw_icmp_gt_n (by omega) (by omega) (tgt := 21) dJ8_newLength_cabcc_16 (by decide) (fun c_2 => by exfalso; omega) (fun c_2 => ?_)
  refine aw_iload_n dJ8_newLength_cabcc_19 rfl rfl ?_
  exact aw_iret rfl (by decide) (by decide) dJ8_newLength_cabcc_20 (rI_of (by rfl))
set_option maxHeartbeats 4000000 in
theorem j_newCap {l : Launch} {G : GT} {n : Nat} {H : HT} {c bp k N m : Nat} {ml : Int32} {B : Nat → Int32} (b0 : H c = bcell bp ml k) (b1 : H bp = bbyt N B) (hN : N ≤ 200) (hm1 : N < m) (hm : m ≤ 200) : AM l G yJ5_newCapacity_0f7a4 (.code yJ5_newCapacity_0f7a4 cJ5_newCapacity_0f7a4 6 (some .int)) 2 120 0 0 [.ref c, .int (nI m)] (H) n (rI (nI (N + max (m - N) (N + 2))) H n) := by
  refine aw_enter (M := MJ5_newCapacity_0f7a4) rfl rfl (by decide +kernel) rfl (Nat.le_of_ble_eq_true rfl) ?_
  show AW l G MJ5_newCapacity_0f7a4 2 120 0 0 _ n 0 0 0 [(0, .ref c), (1, .int (nI m))] [] _ n
  refine aw_aload_n dJ5_newCapacity_0f7a4_0 rfl rfl ?_
  refine aw_get (v := .ref bp) fl_J5_15 (b0) rfl dJ5_newCapacity_0f7a4_1 ?_
  refine aw_alen (N := 0) (x := nilc) (ty := .byte) (v := nI N) (b1) rfl rfl dJ5_newCapacity_0f7a4_4 ?_
  refine aw_istore_n (L' := [(2, .int (nI N)), (0, .ref c), (1, .int (nI m))]) dJ5_newCapacity_0f7a4_5 rfl (by decide) rfl ?_
  refine aw_iload_n dJ5_newCapacity_0f7a4_6 rfl rfl ?_
  refine aw_aload_n dJ5_newCapacity_0f7a4_7 rfl rfl ?_
  refine aw_get (v := .int (nI 0)) fl_J5_22 (b0) rfl dJ5_newCapacity_0f7a4_8 ?_
  refine aw_ishl dJ5_newCapacity_0f7a4_11 ?_
  rw [shl_0]
  refine aw_istore_n (L' := [(3, .int (nI m)), (2, .int (nI N)), (0, .ref c), (1, .int (nI m))]) dJ5_newCapacity_0f7a4_12 rfl (by decide) rfl ?_
  refine aw_iload_n dJ5_newCapacity_0f7a4_13 rfl rfl ?_
  refine aw_iload_n dJ5_newCapacity_0f7a4_14 rfl rfl ?_
  refine aw_isub_n (by omega) dJ5_newCapacity_0f7a4_15 ?_
  refine aw_istore (L' := [(4, .int (nI (m - N))), (3, .int (nI m)), (2, .int (nI N)), (0, .ref c), (1, .int (nI m))]) dJ5_newCapacity_0f7a4_16 (by decide) rfl ?_
  refine aw_iload_n dJ5_newCapacity_0f7a4_18 rfl rfl ?_
  refine aw_iload dJ5_newCapacity_0f7a4_19 rfl ?_
  refine aw_iload_n dJ5_newCapacity_0f7a4_21 rfl rfl ?_
  refine aw_iconst_n 2 dJ5_newCapacity_0f7a4_22 (by decide) ?_
  refine aw_aload_n dJ5_newCapacity_0f7a4_23 rfl rfl ?_
  refine aw_get (v := .int (nI 0)) fl_J5_22 (b0) rfl dJ5_newCapacity_0f7a4_24 ?_
  refine aw_ishl dJ5_newCapacity_0f7a4_27 ?_
  rw [shl_0]
  refine aw_iadd_n dJ5_newCapacity_0f7a4_28 ?_
  refine aw_sI (as := [Value.int (nI N), Value.int (nI (m - N)), Value.int (nI (N + 2))]) (rest := []) mS_J8_newLength_cabcc (j_newLen (N := N) (m := m - N) (by omega) (by omega)) ml_J5_114 dJ5_newCapacity_0f7a4_29 rfl rfl (by decide) (Nat.le_of_ble_eq_true rfl) (by decide) ?_
  refine aw_istore (L' := [(5, .int (nI (N + max (m - N) (N + 2)))), (4, .int (nI (m - N))), (3, .int (nI m)), (2, .int (nI N)), (0, .ref c), (1, .int (nI m))]) dJ5_newCapacity_0f7a4_32 (by decide) rfl ?_
  refine aw_iload dJ5_newCapacity_0f7a4_34 rfl ?_
  refine aw_ldc (v := nI 2147483647) kc_J5_39 dJ5_newCapacity_0f7a4_36 ?_
  refine aw_icmp_ne_n (by omega) (by omega) (tgt := 51) dJ5_newCapacity_0f7a4_38 (by decide) (fun c_1 => ?_) (fun c_1 => by exfalso; omega)
  refine aw_iload dJ5_newCapacity_0f7a4_51 rfl ?_
  refine aw_aload_n dJ5_newCapacity_0f7a4_53 rfl rfl ?_
  refine aw_get (v := .int (nI 0)) fl_J5_22 (b0) rfl dJ5_newCapacity_0f7a4_54 ?_
  refine aw_ishr dJ5_newCapacity_0f7a4_57 ?_
  rw [shr_0]
  exact aw_iret rfl (by decide) (by decide) dJ5_newCapacity_0f7a4_58 (rI_of (by rfl))
set_option maxHeartbeats 4000000 in
theorem j_copyOf {l : Launch} {G : GT} {n : Nat} {H : HT} {c bp k N N2 : Nat} {ml : Int32} {B : Nat → Int32} (b0 : H c = bcell bp ml k) (b1 : H bp = bbyt N B) (hN : N < N2) (hN2 : N2 ≤ 100) (hbn : bp < n) (hcn : c < n) (hq : ∀ i, i < N → ∃ q, q < 128 ∧ B i = nI q) : AM l G yJ7_copyOf_9075b (.code yJ7_copyOf_9075b cJ7_copyOf_9075b 3 (some (.array .byte))) 1 60 1 100 [.ref bp, .int (nI N2)] (H) n ((fun r f' n' => rR (.ref n) (va_up H n (bbyt N2 (va_cpy B (fun _ => 0) 0 0 N))) (n + 1) r f' n')) := by
  refine aw_enter (M := MJ7_copyOf_9075b) rfl rfl (by decide +kernel) rfl (Nat.le_of_ble_eq_true rfl) ?_
  show AW l G MJ7_copyOf_9075b 1 60 1 100 _ n 0 0 0 [(0, .ref bp), (1, .int (nI N2))] [] _ n
  refine aw_iload_n dJ7_copyOf_9075b_0 rfl rfl ?_
  refine aw_aload_n dJ7_copyOf_9075b_1 rfl rfl ?_
  refine aw_alen (N := 0) (x := nilc) (ty := .byte) (v := nI N) (b1) rfl rfl dJ7_copyOf_9075b_2 ?_
  refine aw_icmp_ne_n (by omega) (by omega) (tgt := 14) dJ7_copyOf_9075b_3 (by decide) (fun c_1 => ?_) (fun c_1 => by exfalso; omega)
  refine aw_iload_n dJ7_copyOf_9075b_14 rfl rfl ?_
  refine aw_newa_byte (N := N2) (nI_pos (by omega)) (nIc (by omega)) (by show N2 * 1 ≤ 536870912; omega) (by omega) (by omega) dJ7_copyOf_9075b_15 ?_
  refine aw_astore_n (L' := [(2, .ref n), (0, .ref bp), (1, .int (nI N2))]) dJ7_copyOf_9075b_17 rfl (by decide) rfl ?_
  refine aw_aload_n dJ7_copyOf_9075b_18 rfl rfl ?_
  refine aw_iconst_n 0 dJ7_copyOf_9075b_19 (by decide) ?_
  refine aw_aload_n dJ7_copyOf_9075b_20 rfl rfl ?_
  refine aw_iconst_n 0 dJ7_copyOf_9075b_21 (by decide) ?_
  refine aw_aload_n dJ7_copyOf_9075b_22 rfl rfl ?_
  refine aw_alen (N := 0) (x := nilc) (ty := .byte) (v := nI N) ((up_ne (by omega)).trans (b1)) rfl rfl dJ7_copyOf_9075b_23 ?_
  refine aw_iload_n dJ7_copyOf_9075b_24 rfl rfl ?_
  refine aw_mmin_n (by omega) (by omega) ml_J7_304 (by decide) (Nat.le_of_ble_eq_true rfl) (by omega) (by omega) dJ7_copyOf_9075b_25 ?_
  rw [show min N N2 = N by omega]
  refine aw_copyb (k := N) ml_J7_150 ((up_ne (by omega)).trans (b1)) up_self (by omega) (by omega) (by omega) (fun i hi => by obtain ⟨q, q1, q2⟩ := hq i (by omega); rw [q2]; exact fits_b q1) (by decide) (by decide +kernel) dJ7_copyOf_9075b_28 ?_
  rw [bx_uu]
  refine aw_aload_n dJ7_copyOf_9075b_31 rfl rfl ?_
  exact aw_aret rfl (Or.inr ⟨_, rfl⟩) (Or.inr ⟨_, rfl⟩) (by omega) (by omega) dJ7_copyOf_9075b_32 ⟨rfl, rfl, rfl⟩
set_option maxHeartbeats 4000000 in
theorem j_ens0 {l : Launch} {G : GT} {n : Nat} {H : HT} {c bp k N m : Nat} {ml : Int32} {B : Nat → Int32} (b0 : H c = bcell bp ml k) (b1 : H bp = bbyt N B) (hN : N ≤ 100) (hm : m ≤ 100) (hg : N < m → N + max (m - N) (N + 2) ≤ 100) (hbn : bp < n) (hcn : c < n) (hne : bp ≠ c) (hq : ∀ i, i < N → ∃ q, q < 128 ∧ B i = nI q) : AM l G yJ5_ensureCapacityInternal_d00df (.code yJ5_ensureCapacityInternal_d00df cJ5_ensureCapacityInternal_d00df 3 none) 3 180 1 100 [.ref c, .int (nI m)] (H) n ((fun r f' n' => r = .inl none ∧ ((m ≤ N ∧ f' = H ∧ n' = n) ∨ (N < m ∧ n' = n + 1 ∧ f' = va_up (va_up H n (bbyt (N + max (m - N) (N + 2)) (va_cpy B (fun _ => 0) 0 0 N))) c (bcell n ml k))))) := by
  refine aw_enter (M := MJ5_ensureCapacityInternal_d00df) rfl rfl (by decide +kernel) rfl (Nat.le_of_ble_eq_true rfl) ?_
  show AW l G MJ5_ensureCapacityInternal_d00df 3 180 1 100 _ n 0 0 0 [(0, .ref c), (1, .int (nI m))] [] _ n
  refine aw_aload_n dJ5_ensureCapacityInternal_d00df_0 rfl rfl ?_
  refine aw_get (v := .ref bp) fl_J5_15 (b0) rfl dJ5_ensureCapacityInternal_d00df_1 ?_
  refine aw_alen (N := 0) (x := nilc) (ty := .byte) (v := nI N) (b1) rfl rfl dJ5_ensureCapacityInternal_d00df_4 ?_
  refine aw_aload_n dJ5_ensureCapacityInternal_d00df_5 rfl rfl ?_
  refine aw_get (v := .int (nI 0)) fl_J5_22 (b0) rfl dJ5_ensureCapacityInternal_d00df_6 ?_
  refine aw_ishr dJ5_ensureCapacityInternal_d00df_9 ?_
  rw [shr_0]
  refine aw_istore_n (L' := [(2, .int (nI N)), (0, .ref c), (1, .int (nI m))]) dJ5_ensureCapacityInternal_d00df_10 rfl (by decide) rfl ?_
  refine aw_iload_n dJ5_ensureCapacityInternal_d00df_11 rfl rfl ?_
  refine aw_iload_n dJ5_ensureCapacityInternal_d00df_12 rfl rfl ?_
  refine aw_isub dJ5_ensureCapacityInternal_d00df_13 ?_
  refine aw_if_le (tgt := 38) dJ5_ensureCapacityInternal_d00df_14 (by decide) (fun c_1 => ?_) (fun c_1 => ?_)
  · have d_0 := (sI_le0 (a := m) (b := N) (by omega) (by omega)).mp c_1
    exact aw_vret rfl (by decide) (by decide) dJ5_ensureCapacityInternal_d00df_38 ⟨rfl, Or.inl ⟨d_0, rfl, rfl⟩⟩
  · have d_0 : ¬ m ≤ N := mt (sI_le0 (a := m) (b := N) (by omega) (by omega)).mpr c_1
    have hg9 := hg (by omega)
    refine aw_aload_n dJ5_ensureCapacityInternal_d00df_17 rfl rfl ?_
    refine aw_aload_n dJ5_ensureCapacityInternal_d00df_18 rfl rfl ?_
    refine aw_get (v := .ref bp) fl_J5_15 (b0) rfl dJ5_ensureCapacityInternal_d00df_19 ?_
    refine aw_aload_n dJ5_ensureCapacityInternal_d00df_22 rfl rfl ?_
    refine aw_iload_n dJ5_ensureCapacityInternal_d00df_23 rfl rfl ?_
    refine aw_pcI (y0 := yJ5_isLatin1_aae02) (as := [Value.int (nI m)]) (rest := [Value.ref bp, Value.ref c]) mP_J5_newCapacity_0f7a4 rfl mC_J5_isLatin1_aae02.2.2.1 (j_newCap b0 b1 (by omega) (by omega) (by omega)) ml_J5_104 (RC.w b0 rfl) dJ5_ensureCapacityInternal_d00df_24 rfl rfl (by decide) (Nat.le_of_ble_eq_true rfl) (by decide) ?_
    refine aw_aload_n dJ5_ensureCapacityInternal_d00df_27 rfl rfl ?_
    refine aw_get (v := .int (nI 0)) fl_J5_22 (b0) rfl dJ5_ensureCapacityInternal_d00df_28 ?_
    refine aw_ishl dJ5_ensureCapacityInternal_d00df_31 ?_
    rw [shl_0]
    refine aw_sR (as := [Value.ref bp, Value.int (nI (N + max (m - N) (N + 2)))]) (rest := [Value.ref c]) mS_J7_copyOf_9075b (j_copyOf b0 b1 (by omega) hg9 hbn hcn hq) ml_J5_108 dJ5_ensureCapacityInternal_d00df_32 rfl rfl (by decide) (Nat.le_of_ble_eq_true rfl) (by decide) ?_
    refine aw_put fp_J5_15 ((up_ne (by omega)).trans (b0)) (fun _ => rfl) (fun _ => rfl) (Nat.le_of_ble_eq_true rfl) dJ5_ensureCapacityInternal_d00df_35 ?_
    exact aw_vret rfl (by decide) (by decide) dJ5_ensureCapacityInternal_d00df_38 ⟨rfl, Or.inr ⟨by omega, rfl, rfl⟩⟩
/-- ensureCapacityInternal -/
theorem j_ens {l : Launch} {G : GT} {n : Nat} {H : HT} {c bp m N : Nat} {L : List Nat} (h : bJ H c bp n L N) (hm : m ≤ 100) (hg : cpN N m ≤ 100) : AM l G yJ5_ensureCapacityInternal_d00df (.code yJ5_ensureCapacityInternal_d00df cJ5_ensureCapacityInternal_d00df 3 none) 3 180 1 100 [.ref c, .int (nI m)] H n (BY H c bp n L (cpN N m) none) := by
  obtain ⟨B, ml, b0, b1, hN, hL, hne, hcn, hbn, hB, hq⟩ := h
  have hgn : N < m → cpN N m = N + max (m - N) (N + 2) := fun z => by unfold cpN; rw [if_neg (by omega)]
  refine AM.post (j_ens0 b0 b1 hN hm (fun z => by have := hgn z; omega) hbn hcn hne hq) ?_
  intro r f' n' hr
  obtain ⟨h1, ⟨h2, h3, h4⟩ | ⟨h2, h3, h4⟩⟩ := hr
  · subst h3; subst h4
    have hg2 : cpN N m = N := by unfold cpN; rw [if_pos h2]
    rw [hg2]
    exact ⟨h1, bp, Nat.le_refl _, Nat.le_succ _, Or.inl rfl, ⟨B, ml, b0, b1, hN, hL, hne, hcn, hbn, hB, hq⟩, fun _ _ _ _ => rfl⟩
  · subst h3; subst h4
    have hg2 := hgn h2
    rw [hg2] at hg
    rw [hg2]
    refine ⟨h1, n, Nat.le_succ _, Nat.le_refl _, Or.inr rfl, ⟨va_cpy B (fun _ => 0) 0 0 N, ml, up_self, (up_ne (by omega)).trans up_self, hg, by omega, by omega, by omega, Nat.lt_succ_self n, fun i hi => ?_, fun i hi => ?_⟩, fun a h5 h6 h7 => ?_⟩
    · rw [cpy_at, if_pos (by omega), Nat.sub_zero]; exact hB i hi
    · rw [cpy_at]
      by_cases z : i < N
      · rw [if_pos (by omega), Nat.sub_zero]; exact hq i z
      · rw [if_neg (by omega)]; exact ⟨0, by decide, nI_0.symm⟩
    · rw [up_ne h6, up_ne (by omega)]
set_option maxHeartbeats 4000000 in
theorem j_gb {l : Launch} {G : GT} {n : Nat} {q b : Nat} {T : List Nat} (hS : OS q b T) {H : HT} {bp N d : Nat} {B : Nat → Int32} (b1 : H bp = bbyt N B) (hN : N ≤ 100) (hd : d + T.length ≤ N) : AM l G yJ0_getBytes_840e7 (.code yJ0_getBytes_840e7 cJ0_getBytes_840e7 4 none) 1 60 0 0 [.ref q, .ref bp, .int (nI d), .int (nI 0)] (H) n (rV (va_up H bp (bbyt N (va_cpy (fun j => nI (T.getD j 0)) B 0 d T.length))) n) := by
  refine aw_enter (M := MJ0_getBytes_840e7) rfl rfl (by decide +kernel) rfl (Nat.le_of_ble_eq_true rfl) ?_
  have hl9 : T.length ≤ 100 := hS.2.2.2.2.2.2.1
  obtain ⟨g, hg, hgk⟩ := hS.2.2.2.1
  show AW l G MJ0_getBytes_840e7 1 60 0 0 _ n 0 0 0 [(0, .ref q), (1, .ref bp), (2, .int (nI d)), (3, .int (nI 0))] [] _ n
  refine aw_aload_n dJ0_getBytes_840e7_0 rfl rfl ?_
  refine aw_cI (as := []) (rest := []) (MV.c mV_J0_coder_7d493) (o_cod hS) ml_J0_335 (RC.o hS.2.2.1 hS.2.2.2.2.1) dJ0_getBytes_840e7_1 rfl rfl (by decide) (Nat.le_of_ble_eq_true rfl) (by decide) ?_
  refine aw_iload_n dJ0_getBytes_840e7_4 rfl rfl ?_
  refine aw_icmp_ne_n (by omega) (by omega) (tgt := 28) dJ0_getBytes_840e7_5 (by decide) (fun c_1 => by exfalso; omega) (fun c_1 => ?_)
  refine aw_aload_n dJ0_getBytes_840e7_8 rfl rfl ?_
  refine aw_oget (v := .ref b) hS.2.1 hS.2.2.2.2.1 (show b < o0 from hS.2.2.2.2.2.1) sl_J0_9 dJ0_getBytes_840e7_9 ?_
  refine aw_iconst_n 0 dJ0_getBytes_840e7_12 (by decide) ?_
  refine aw_aload_n dJ0_getBytes_840e7_13 rfl rfl ?_
  refine aw_iload_n dJ0_getBytes_840e7_14 rfl rfl ?_
  refine aw_iload_n dJ0_getBytes_840e7_15 rfl rfl ?_
  refine aw_ishl dJ0_getBytes_840e7_16 ?_
  rw [shl_0]
  refine aw_aload_n dJ0_getBytes_840e7_17 rfl rfl ?_
  refine aw_oget (v := .ref b) hS.2.1 hS.2.2.2.2.1 (show b < o0 from hS.2.2.2.2.2.1) sl_J0_9 dJ0_getBytes_840e7_18 ?_
  refine aw_olen (v := nI T.length) hg hS.2.2.2.2.2.1 rfl dJ0_getBytes_840e7_21 ?_
  refine aw_copyOb (k := T.length) (d := d) (g := (fun j => nI (T.getD j 0))) ml_J0_212 hg hS.2.2.2.2.2.1 (fun j hj => hgk j hj) b1 (by omega) (by omega) (Nat.le_refl _) (by omega) (fun i hi => fits_b (hS.2.2.2.2.2.2.2 i hi)) (by decide) (by decide +kernel) dJ0_getBytes_840e7_22 ?_
  refine aw_goto (tgt := 43) dJ0_getBytes_840e7_25 (by decide) ?_
  exact aw_vret rfl (by decide) (by decide) dJ0_getBytes_840e7_43 (rV_of (by rfl))
set_option maxHeartbeats 4000000 in
theorem j_inf {l : Launch} {G : GT} {n : Nat} {q b : Nat} {T : List Nat} (hS : OS q b T) {H : HT} {c bp k N : Nat} {ml : Int32} {B : Nat → Int32} (b0 : H c = bcell bp ml k) (b1 : H bp = bbyt N B) : AM l G yJ5_inflateIfNeededFor_a7421 (.code yJ5_inflateIfNeededFor_a7421 cJ5_inflateIfNeededFor_a7421 2 none) 1 60 0 0 [.ref c, .ref q] (H) n (rV H n) := by
  refine aw_enter (M := MJ5_inflateIfNeededFor_a7421) rfl rfl (by decide +kernel) rfl (Nat.le_of_ble_eq_true rfl) ?_
  show AW l G MJ5_inflateIfNeededFor_a7421 1 60 0 0 _ n 0 0 0 [(0, .ref c), (1, .ref q)] [] _ n
  refine aw_gets (v := .int (nI 1)) (List.mem_of_getElem? (i := 0) rfl) trivial sl_J5_18 dJ5_inflateIfNeededFor_a7421_0 ?_
  refine aw_if_eq_n (by omega) (tgt := 21) dJ5_inflateIfNeededFor_a7421_3 (by decide) (fun c_1 => by exfalso; omega) (fun c_1 => ?_)
  refine aw_aload_n dJ5_inflateIfNeededFor_a7421_6 rfl rfl ?_
  refine aw_get (v := .int (nI 0)) fl_J5_22 (b0) rfl dJ5_inflateIfNeededFor_a7421_7 ?_
  refine aw_aload_n dJ5_inflateIfNeededFor_a7421_10 rfl rfl ?_
  refine aw_cI (as := []) (rest := [Value.int (nI 0)]) (MV.c mV_J0_coder_7d493) (o_cod hS) ml_J5_40 (RC.o hS.2.2.1 hS.2.2.2.2.1) dJ5_inflateIfNeededFor_a7421_11 rfl rfl (by decide) (Nat.le_of_ble_eq_true rfl) (by decide) ?_
  refine aw_icmp_eq_n (by omega) (by omega) (tgt := 21) dJ5_inflateIfNeededFor_a7421_14 (by decide) (fun c_2 => ?_) (fun c_2 => by exfalso; omega)
  exact aw_vret rfl (by decide) (by decide) dJ5_inflateIfNeededFor_a7421_21 (rV_of (by rfl))
set_option maxHeartbeats 4000000 in
theorem j_put {l : Launch} {G : GT} {n : Nat} {q b : Nat} {T : List Nat} (hS : OS q b T) {H : HT} {c bp k N d : Nat} {ml : Int32} {B : Nat → Int32} (b0 : H c = bcell bp ml k) (b1 : H bp = bbyt N B) (hN34 : N ≤ 100) (hd : d + T.length ≤ N) : AM l G yJ5_putStringAt_47b60 (.code yJ5_putStringAt_47b60 cJ5_putStringAt_47b60 3 none) 2 120 0 0 [.ref c, .int (nI d), .ref q] (H) n (rV (va_up H bp (bbyt N (va_cpy (fun j => nI (T.getD j 0)) B 0 d T.length))) n) := by
  refine aw_enter (M := MJ5_putStringAt_47b60) rfl rfl (by decide +kernel) rfl (Nat.le_of_ble_eq_true rfl) ?_
  show AW l G MJ5_putStringAt_47b60 2 120 0 0 _ n 0 0 0 [(0, .ref c), (1, .int (nI d)), (2, .ref q)] [] _ n
  refine aw_aload_n dJ5_putStringAt_47b60_0 rfl rfl ?_
  refine aw_aload_n dJ5_putStringAt_47b60_1 rfl rfl ?_
  refine aw_pcV (y0 := yJ5_isLatin1_aae02) (as := [Value.ref q]) (rest := []) mP_J5_inflateIfNeededFor_a7421 rfl mC_J5_isLatin1_aae02.2.2.1 (j_inf hS b0 b1) ml_J5_397 (RC.w b0 rfl) dJ5_putStringAt_47b60_2 rfl rfl (by decide) (Nat.le_of_ble_eq_true rfl) (by decide) ?_
  refine aw_aload_n dJ5_putStringAt_47b60_5 rfl rfl ?_
  refine aw_aload_n dJ5_putStringAt_47b60_6 rfl rfl ?_
  refine aw_get (v := .ref bp) fl_J5_15 (b0) rfl dJ5_putStringAt_47b60_7 ?_
  refine aw_iload_n dJ5_putStringAt_47b60_10 rfl rfl ?_
  refine aw_aload_n dJ5_putStringAt_47b60_11 rfl rfl ?_
  refine aw_get (v := .int (nI 0)) fl_J5_22 (b0) rfl dJ5_putStringAt_47b60_12 ?_
  refine aw_cV (as := [Value.ref bp, Value.int (nI d), Value.int (nI 0)]) (rest := []) (MV.c mV_J0_getBytes_840e7) (j_gb hS b1 hN34 hd) ml_J5_399 (RC.o hS.2.2.1 hS.2.2.2.2.1) dJ5_putStringAt_47b60_15 rfl rfl (by decide) (Nat.le_of_ble_eq_true rfl) (by decide) ?_
  exact aw_vret rfl (by decide) (by decide) dJ5_putStringAt_47b60_18 (rV_of (by rfl))
set_option maxHeartbeats 4000000 in
theorem j5_str {l : Launch} {G : GT} {n : Nat} {q b : Nat} {T : List Nat} (hS : OS q b T) {H : HT} {c bp N : Nat} {L : List Nat} (hbk : bJ H c bp n L N) (hg : cpN N (L.length + T.length) ≤ 100) : AM l G yJ5_append_cf1ce (.code yJ5_append_cf1ce cJ5_append_cf1ce 3 (some (.object "java/lang/AbstractStringBuilder"))) 4 240 1 100 [.ref c, .ref q] (H) n (BY H c bp n (L ++ T) (cpN N (L.length + T.length)) (some (.ref c))) := by
  refine aw_enter (M := MJ5_append_cf1ce) rfl rfl (by decide +kernel) rfl (Nat.le_of_ble_eq_true rfl) ?_
  obtain ⟨B, ml, b0, b1, hN, hL, hne, hcn, hbn, hB, hq⟩ := id hbk
  have hl9 : T.length ≤ 100 := hS.2.2.2.2.2.2.1
  have hgl : L.length + T.length ≤ cpN N (L.length + T.length) := by unfold cpN; split <;> omega
  show AW l G MJ5_append_cf1ce 4 240 1 100 _ n 0 0 0 [(0, .ref c), (1, .ref q)] [] _ n
  refine aw_aload_n dJ5_append_cf1ce_0 rfl rfl ?_
  refine aw_ifnonnull (tgt := 9) dJ5_append_cf1ce_1 (by decide) ?_
  refine aw_aload_n dJ5_append_cf1ce_9 rfl rfl ?_
  refine aw_cI (as := []) (rest := []) (MV.c mV_J0_length_8abf5) (o_len hS) ml_J5_32 (RC.o hS.2.2.1 hS.2.2.2.2.1) dJ5_append_cf1ce_10 rfl rfl (by decide) (Nat.le_of_ble_eq_true rfl) (by decide) ?_
  refine aw_istore_n (L' := [(2, .int (nI T.length)), (0, .ref c), (1, .ref q)]) dJ5_append_cf1ce_13 rfl (by decide) rfl ?_
  refine aw_aload_n dJ5_append_cf1ce_14 rfl rfl ?_
  refine aw_aload_n dJ5_append_cf1ce_15 rfl rfl ?_
  refine aw_get (v := .int (nI L.length)) fl_J5_79 (b0) rfl dJ5_append_cf1ce_16 ?_
  refine aw_iload_n dJ5_append_cf1ce_19 rfl rfl ?_
  refine aw_iadd_n dJ5_append_cf1ce_20 ?_
  refine aw_pcP (y0 := yJ5_isLatin1_aae02) (as := [Value.int (nI (L.length + T.length))]) (rest := []) mP_J5_ensureCapacityInternal_d00df rfl mC_J5_isLatin1_aae02.2.2.1 (j_ens hbk (by omega) hg) ml_J5_100 (RC.w b0 rfl) dJ5_append_cf1ce_21 rfl rfl (by decide) (Nat.le_of_ble_eq_true rfl) (by decide) (fun _ _ _ h => by cases h.1) (fun r9 f9 n9 _ h => ?_)
  obtain ⟨h1, bp1, hn1, hn2, hb1, hbk1, hF1⟩ := h
  obtain ⟨B1, ml1, b01, b11, hN1, hL1, hne1, hcn1, hbn1, hB1, hq1⟩ := id hbk1
  cases h1
  refine aw_aload_n dJ5_append_cf1ce_24 rfl rfl ?_
  refine aw_aload_n dJ5_append_cf1ce_25 rfl rfl ?_
  refine aw_get (v := .int (nI L.length)) fl_J5_79 (b01) rfl dJ5_append_cf1ce_26 ?_
  refine aw_aload_n dJ5_append_cf1ce_29 rfl rfl ?_
  refine aw_pcV (y0 := yJ5_isLatin1_aae02) (as := [Value.int (nI L.length), Value.ref q]) (rest := []) mP_J5_putStringAt_47b60 rfl mC_J5_isLatin1_aae02.2.2.1 (j_put (d := L.length) hS b01 b11 hN1 hgl) ml_J5_208 (RC.w b01 rfl) dJ5_append_cf1ce_30 rfl rfl (by decide) (Nat.le_of_ble_eq_true rfl) (by decide) ?_
  refine aw_aload_n dJ5_append_cf1ce_33 rfl rfl ?_
  refine aw_dup dJ5_append_cf1ce_34 rfl ?_
  refine aw_get (v := .int (nI L.length)) fl_J5_79 ((up_ne (by omega)).trans (b01)) rfl dJ5_append_cf1ce_35 ?_
  refine aw_iload_n dJ5_append_cf1ce_38 rfl rfl ?_
  refine aw_iadd_n dJ5_append_cf1ce_39 ?_
  refine aw_put fp_J5_79 ((up_ne (by omega)).trans (b01)) (fun _ => rfl) (fun _ => rfl) (Nat.le_of_ble_eq_true rfl) dJ5_append_cf1ce_40 ?_
  refine aw_aload_n dJ5_append_cf1ce_43 rfl rfl ?_
  have key : ∀ i, i < T.length → (fun j => nI (T.getD j 0)) i = nI (T.getD i 0) ∧ T.getD i 0 < 128 := fun i hi => ⟨rfl, hS.2.2.2.2.2.2.2 i hi⟩
  exact aw_aret rfl (Or.inl ⟨_, rfl⟩) (Or.inr ⟨_, rfl⟩) (by decide) (by decide) dJ5_append_cf1ce_44 ⟨rfl, bp1, by omega, by omega, hb1, bJ.mk9 (ml' := ml1) hN1 hne1 hcn1 hbn1 ((up_ne (by omega)).trans up_self) (up_self.trans (by rw [List.length_append]; rfl)) (by rw [List.length_append]; exact hgl) (fun i hi => by
    rw [List.length_append] at hi
    have hi : i < L.length + T.length := hi
    rw [cpy_at]
    by_cases z : L.length ≤ i
    · rw [if_pos (by omega), gd_r z]; exact key _ (by omega)
    · rw [if_neg (by omega), gd_l (by omega)]; exact hB1 i (by omega)) (fun i hi => by
    rw [cpy_at]
    by_cases z : L.length ≤ i ∧ i < L.length + T.length
    · rw [if_pos z]; exact ⟨_, (key (i - L.length) (by omega)).2, (key (i - L.length) (by omega)).1⟩
    · rw [if_neg z]; exact hq1 i hi), hF1.to hb1 (fun a h1 h2 => by rw [up_ne h1, up_ne h2])⟩
set_option maxHeartbeats 4000000 in
theorem i_gc_loop9 {l : Launch} {G : GT} {n : Nat} {H : HT} {v e N bp : Nat} {B0 : Nat → Int32} (hv : v < 10 ^ 8) (he : e ≤ N) (hN : N ≤ 100) (hl : lenD v 9 ≤ e) : ∀ (N9 : Nat) (k w p : Nat) (B : Nat → Int32), (w = N9) → (w = v / 10 ^ k) → (k + lenD w 9 = lenD v 9) → (p + k = e) → (w < 10 ^ 8) → (1 ≤ lenD w 9) → (DW B B0 v e k) → AW l G MJ6_getChars_ba4f3 0 0 0 0 (GCo H bp N v e B0 n) n 0 0 22 [(5, .int (nI p)), (6, .int (nI 0)), (0, .int (-nI w)), (2, .ref bp)] [] (va_up H bp (bbyt N B)) n := by
  intro N9
  induction N9 using Nat.strongRecOn with
  | ind N9 ih =>
    intro k w p B hNN hw hk hp hw8 hw0 hDW
    refine aw_iload_n dJ6_getChars_ba4f3_22 rfl rfl ?_
    refine aw_bipush (v := -100) dJ6_getChars_ba4f3_23 (by decide) ?_
    refine aw_icmp_gt (tgt := 72) dJ6_getChars_ba4f3_25 (by decide) (fun c_1 => ?_) (fun c_1 => ?_)
    · have d_0 : w < 100 := (neg_lt (a := 100) (b := w) (by decide) (by omega)).mp c_1
      refine aw_aload_n dJ6_getChars_ba4f3_72 rfl rfl ?_
      refine aw_idec_n (L' := [(5, .int (nI (p - 1))), (6, .int (nI 0)), (0, .int (-nI w)), (2, .ref bp)]) (by omega) dJ6_getChars_ba4f3_73 rfl (by decide) (by decide) rfl ?_
      refine aw_iload dJ6_getChars_ba4f3_76 rfl ?_
      refine aw_gets (v := .ref 28) (List.mem_of_getElem? (i := 3) rfl) (show 28 < o0 by decide) sl_J6_83 dJ6_getChars_ba4f3_78 ?_
      refine aw_iload_n dJ6_getChars_ba4f3_81 rfl rfl ?_
      refine aw_ineg dJ6_getChars_ba4f3_82 ?_
      rw [Int32.neg_neg]
      refine aw_obald (v := .int (nI (48 + w % 10))) (List.mem_of_getElem? (i := 11) rfl) (by decide) (vp_in_nI (by omega) (by decide)) (by show Value.int (Int32.ofNat (48 + (nI w).toNatClampNeg % 10)) = _; rw [nIc (by omega)]; rfl) trivial dJ6_getChars_ba4f3_83 ?_
      refine aw_bast_n (k := p - 1) up_self (by omega) (by omega) (b128_nar (by omega)) dJ6_getChars_ba4f3_84 ?_
      rw [bx_uu]
      refine aw_iload_n dJ6_getChars_ba4f3_85 rfl rfl ?_
      refine aw_bipush (v := -9) dJ6_getChars_ba4f3_86 (by decide) ?_
      refine aw_icmp_ge (tgt := 104) dJ6_getChars_ba4f3_88 (by decide) (fun c_2 => ?_) (fun c_2 => ?_)
      · have d_1 : w ≤ 9 := (neg_le (a := 9) (b := w) (by decide) (by omega)).mp c_2
        refine aw_iload dJ6_getChars_ba4f3_104 rfl ?_
        refine aw_if_eq_n (by omega) (tgt := 118) dJ6_getChars_ba4f3_106 (by decide) (fun c_3 => ?_) (fun c_3 => by exfalso; omega)
        refine aw_iload dJ6_getChars_ba4f3_118 rfl ?_
        have s1 : DW (upd B (p - 1) (nI (48 + w % 10))) B0 v e (k + 1) := by
          have h9 := hDW.one (by omega)
          rw [← hw, show e - 1 - k = p - 1 by omega] at h9
          exact h9
        have hl9 := len_1 (w := w) (by omega)
        have ek : k + 1 = lenD v 9 := by omega
        rw [ek] at s1
        exact aw_iret rfl (by decide) (by decide) dJ6_getChars_ba4f3_120 ⟨by rw [show p - 1 = e - lenD v 9 by omega], rfl, _, rfl, s1⟩
      · have d_1 : ¬ w ≤ 9 := mt (neg_le (a := 9) (b := w) (by decide) (by omega)).mpr c_2
        have hl7 := len_2 (w := w) (by omega) d_0
        refine aw_aload_n dJ6_getChars_ba4f3_91 rfl rfl ?_
        refine aw_idec_n (L' := [(5, .int (nI ((p - 1) - 1))), (6, .int (nI 0)), (0, .int (-nI w)), (2, .ref bp)]) (by omega) dJ6_getChars_ba4f3_92 rfl (by decide) (by decide) rfl ?_
        refine aw_iload dJ6_getChars_ba4f3_95 rfl ?_
        refine aw_gets (v := .ref 29) (List.mem_of_getElem? (i := 4) rfl) (show 29 < o0 by decide) sl_J6_87 dJ6_getChars_ba4f3_97 ?_
        refine aw_iload_n dJ6_getChars_ba4f3_100 rfl rfl ?_
        refine aw_ineg dJ6_getChars_ba4f3_101 ?_
        rw [Int32.neg_neg]
        refine aw_obald (v := .int (nI (48 + w / 10))) (List.mem_of_getElem? (i := 12) rfl) (by decide) (vp_in_nI (by omega) (by decide)) (by show Value.int (Int32.ofNat (48 + (nI w).toNatClampNeg / 10)) = _; rw [nIc (by omega)]; rfl) trivial dJ6_getChars_ba4f3_102 ?_
        refine aw_bast_n (k := (p - 1) - 1) up_self (by omega) (by omega) (b128_nar (by omega)) dJ6_getChars_ba4f3_103 ?_
        rw [bx_uu]
        refine aw_iload dJ6_getChars_ba4f3_104 rfl ?_
        refine aw_if_eq_n (by omega) (tgt := 118) dJ6_getChars_ba4f3_106 (by decide) (fun c_4 => ?_) (fun c_4 => by exfalso; omega)
        refine aw_iload dJ6_getChars_ba4f3_118 rfl ?_
        have s1 : DW (upd B (p - 1) (nI (48 + w % 10))) B0 v e (k + 1) := by
          have h9 := hDW.one (by omega)
          rw [← hw, show e - 1 - k = p - 1 by omega] at h9
          exact h9
        have s2 : DW (upd (upd B (p - 1) (nI (48 + w % 10))) (p - 1 - 1) (nI (48 + w / 10 % 10))) B0 v e (k + 2) := by
          have h9 := s1.one (by omega)
          rw [← dig2, ← hw, show e - 1 - (k + 1) = p - 1 - 1 by omega] at h9
          exact h9
        have hl9 := len_2 (w := w) (by omega) (by omega)
        have ek : k + 2 = lenD v 9 := by omega
        rw [ek] at s2
        rw [show w / 10 = w / 10 % 10 by omega]
        exact aw_iret rfl (by decide) (by decide) dJ6_getChars_ba4f3_120 ⟨by rw [show p - 1 - 1 = e - lenD v 9 by omega], rfl, _, rfl, s2⟩
    · have d_0 : 100 ≤ w := Nat.not_lt.mp (mt (neg_lt (a := 100) (b := w) (by decide) (by omega)).mpr c_1)
      have hl8 := len_100 (w := w) (by omega) d_0
      refine aw_iload_n dJ6_getChars_ba4f3_28 rfl rfl ?_
      refine aw_bipush_n 100 dJ6_getChars_ba4f3_29 (by decide) ?_
      refine aw_idiv (by decide) dJ6_getChars_ba4f3_31 ?_
      rw [neg_div (by omega)]
      refine aw_istore_n (L' := [(3, .int (-nI (w / 100))), (5, .int (nI p)), (6, .int (nI 0)), (0, .int (-nI w)), (2, .ref bp)]) dJ6_getChars_ba4f3_32 rfl (by decide) rfl ?_
      refine aw_iload_n dJ6_getChars_ba4f3_33 rfl rfl ?_
      refine aw_bipush_n 100 dJ6_getChars_ba4f3_34 (by decide) ?_
      refine aw_imul dJ6_getChars_ba4f3_36 ?_
      refine aw_iload_n dJ6_getChars_ba4f3_37 rfl rfl ?_
      refine aw_isub dJ6_getChars_ba4f3_38 ?_
      rw [neg_rem (by omega)]
      refine aw_istore (L' := [(4, .int (nI (w % 100))), (3, .int (-nI (w / 100))), (5, .int (nI p)), (6, .int (nI 0)), (0, .int (-nI w)), (2, .ref bp)]) dJ6_getChars_ba4f3_39 (by decide) rfl ?_
      refine aw_iload_n dJ6_getChars_ba4f3_41 rfl rfl ?_
      refine aw_istore_n (L' := [(0, .int (-nI (w / 100))), (4, .int (nI (w % 100))), (3, .int (-nI (w / 100))), (5, .int (nI p)), (6, .int (nI 0)), (2, .ref bp)]) dJ6_getChars_ba4f3_42 rfl (by decide) rfl ?_
      refine aw_aload_n dJ6_getChars_ba4f3_43 rfl rfl ?_
      refine aw_idec_n (L' := [(5, .int (nI (p - 1))), (0, .int (-nI (w / 100))), (4, .int (nI (w % 100))), (3, .int (-nI (w / 100))), (6, .int (nI 0)), (2, .ref bp)]) (by omega) dJ6_getChars_ba4f3_44 rfl (by decide) (by decide) rfl ?_
      refine aw_iload dJ6_getChars_ba4f3_47 rfl ?_
      refine aw_gets (v := .ref 28) (List.mem_of_getElem? (i := 3) rfl) (show 28 < o0 by decide) sl_J6_83 dJ6_getChars_ba4f3_49 ?_
      refine aw_iload dJ6_getChars_ba4f3_52 rfl ?_
      refine aw_obald (v := .int (nI (48 + (w % 100) % 10))) (List.mem_of_getElem? (i := 11) rfl) (by decide) (vp_in_nI (by omega) (by decide)) (by show Value.int (Int32.ofNat (48 + (nI (w % 100)).toNatClampNeg % 10)) = _; rw [nIc (by omega)]; rfl) trivial dJ6_getChars_ba4f3_54 ?_
      refine aw_bast_n (k := p - 1) up_self (by omega) (by omega) (b128_nar (by omega)) dJ6_getChars_ba4f3_55 ?_
      rw [bx_uu]
      refine aw_aload_n dJ6_getChars_ba4f3_56 rfl rfl ?_
      refine aw_idec_n (L' := [(5, .int (nI ((p - 1) - 1))), (0, .int (-nI (w / 100))), (4, .int (nI (w % 100))), (3, .int (-nI (w / 100))), (6, .int (nI 0)), (2, .ref bp)]) (by omega) dJ6_getChars_ba4f3_57 rfl (by decide) (by decide) rfl ?_
      refine aw_iload dJ6_getChars_ba4f3_60 rfl ?_
      refine aw_gets (v := .ref 29) (List.mem_of_getElem? (i := 4) rfl) (show 29 < o0 by decide) sl_J6_87 dJ6_getChars_ba4f3_62 ?_
      refine aw_iload dJ6_getChars_ba4f3_65 rfl ?_
      refine aw_obald (v := .int (nI (48 + (w % 100) / 10))) (List.mem_of_getElem? (i := 12) rfl) (by decide) (vp_in_nI (by omega) (by decide)) (by show Value.int (Int32.ofNat (48 + (nI (w % 100)).toNatClampNeg / 10)) = _; rw [nIc (by omega)]; rfl) trivial dJ6_getChars_ba4f3_67 ?_
      refine aw_bast_n (k := (p - 1) - 1) up_self (by omega) (by omega) (b128_nar (by omega)) dJ6_getChars_ba4f3_68 ?_
      rw [bx_uu]
      refine aw_goto (tgt := 22) dJ6_getChars_ba4f3_69 (by decide) ?_
      have s1 : DW (upd B (p - 1) (nI (48 + w % 10))) B0 v e (k + 1) := by
        have h9 := hDW.one (by omega)
        rw [← hw, show e - 1 - k = p - 1 by omega] at h9
        exact h9
      have s2 : DW (upd (upd B (p - 1) (nI (48 + w % 10))) (p - 1 - 1) (nI (48 + w / 10 % 10))) B0 v e (k + 2) := by
        have h9 := s1.one (by omega)
        rw [← dig2, ← hw, show e - 1 - (k + 1) = p - 1 - 1 by omega] at h9
        exact h9
      have hl9 := len_100 (w := w) (by omega) (by omega)
      obtain ⟨hl91, -⟩ := len_ex (v := w / 100) (by omega)
      rw [show (48 + w % 100 % 10 : Nat) = 48 + w % 10 by omega, show (48 + w % 100 / 10 : Nat) = 48 + w / 10 % 10 by omega]
      refine aw_sub [(5, .int (nI (p - 1 - 1))), (6, .int (nI 0)), (0, .int (-nI (w / 100))), (2, .ref bp)] (by simp) ?_
      exact ih _ (by omega) (k + 2) (w / 100) (p - 1 - 1) _ rfl (by rw [hw, div100]) (by omega) (by omega) (by omega) (by omega) s2
set_option maxHeartbeats 4000000 in
theorem i_gc9 {l : Launch} {G : GT} {n : Nat} {H : HT} {v e N bp : Nat} {B0 : Nat → Int32} (hv : v < 10 ^ 8) (he : e ≤ N) (hN : N ≤ 100) (hl : lenD v 9 ≤ e) (b1 : H bp = bbyt N B0) : AM l G yJ6_getChars_ba4f3 (.code yJ6_getChars_ba4f3 cJ6_getChars_ba4f3 7 (some .int)) 0 0 0 0 [.int (nI v), .int (nI e), .ref bp] (H) n (GCo H bp N v e B0 n) := by
  refine aw_enter (M := MJ6_getChars_ba4f3) rfl rfl (by decide +kernel) rfl (Nat.le_of_ble_eq_true rfl) ?_
  show AW l G MJ6_getChars_ba4f3 0 0 0 0 _ n 0 0 0 [(0, .int (nI v)), (1, .int (nI e)), (2, .ref bp)] [] _ n
  refine aw_iload_n dJ6_getChars_ba4f3_0 rfl rfl ?_
  refine aw_istore (L' := [(5, .int (nI e)), (0, .int (nI v)), (1, .int (nI e)), (2, .ref bp)]) dJ6_getChars_ba4f3_1 (by decide) rfl ?_
  refine aw_iload_n dJ6_getChars_ba4f3_3 rfl rfl ?_
  refine aw_if_ge_n (by omega) (tgt := 11) dJ6_getChars_ba4f3_4 (by decide) ?_
  refine aw_iconst_n 0 dJ6_getChars_ba4f3_11 (by decide) ?_
  refine aw_istore (L' := [(6, .int (nI 0)), (5, .int (nI e)), (0, .int (nI v)), (1, .int (nI e)), (2, .ref bp)]) dJ6_getChars_ba4f3_12 (by decide) rfl ?_
  refine aw_iload dJ6_getChars_ba4f3_14 rfl ?_
  refine aw_if_ne_n (by omega) (tgt := 22) dJ6_getChars_ba4f3_16 (by decide) (fun c_2 => by exfalso; omega) (fun c_2 => ?_)
  refine aw_iload_n dJ6_getChars_ba4f3_19 rfl rfl ?_
  refine aw_ineg dJ6_getChars_ba4f3_20 ?_
  refine aw_istore_n (L' := [(0, .int (-(nI v))), (6, .int (nI 0)), (5, .int (nI e)), (1, .int (nI e)), (2, .ref bp)]) dJ6_getChars_ba4f3_21 rfl (by decide) rfl ?_
  have h9 := i_gc_loop9 (l := l) (G := G) (n := n) (H := H) (B0 := B0) (bp := bp) hv he hN hl _ 0 v e B0 rfl (by rw [Nat.pow_zero, Nat.div_one]) (Nat.zero_add _) rfl hv (len_ex hv).1 ⟨fun j hj => absurd hj (Nat.not_lt_zero _), fun _ _ => rfl⟩
  rw [show va_up H bp (bbyt N B0) = H from by rw [← b1, up_A]] at h9
  exact aw_sub [(5, .int (nI e)), (6, .int (nI 0)), (0, .int (-nI v)), (2, .ref bp)] (by simp) h9
set_option maxHeartbeats 4000000 in
theorem j5_int {l : Launch} {G : GT} {n : Nat} {H : HT} {c bp N : Nat} {L : List Nat} (hbk : bJ H c bp n L N) {v : Nat} (hv : v < 10 ^ 8) (hg : cpN N (L.length + lenD v 9) ≤ 100) : AM l G yJ5_append_c97b9 (.code yJ5_append_c97b9 cJ5_append_c97b9 4 (some (.object "java/lang/AbstractStringBuilder"))) 4 240 1 100 [.ref c, .int (nI v)] (H) n (BY H c bp n (L ++ decN v) (cpN N (L.length + lenD v 9)) (some (.ref c))) := by
  refine aw_enter (M := MJ5_append_c97b9) rfl rfl (by decide +kernel) rfl (Nat.le_of_ble_eq_true rfl) ?_
  obtain ⟨B, ml, b0, b1, hN, hL, hne, hcn, hbn, hB, hq⟩ := id hbk
  have hgl : L.length + lenD v 9 ≤ cpN N (L.length + lenD v 9) := by unfold cpN; split <;> omega
  obtain ⟨hl1, hl8, -, -⟩ := len_ex hv
  show AW l G MJ5_append_c97b9 4 240 1 100 _ n 0 0 0 [(0, .ref c), (1, .int (nI v))] [] _ n
  refine aw_aload_n dJ5_append_c97b9_0 rfl rfl ?_
  refine aw_get (v := .int (nI L.length)) fl_J5_79 (b0) rfl dJ5_append_c97b9_1 ?_
  refine aw_istore_n (L' := [(2, .int (nI L.length)), (0, .ref c), (1, .int (nI v))]) dJ5_append_c97b9_4 rfl (by decide) rfl ?_
  refine aw_iload_n dJ5_append_c97b9_5 rfl rfl ?_
  refine aw_iload_n dJ5_append_c97b9_6 rfl rfl ?_
  refine aw_sI (as := [Value.int (nI v)]) (rest := [Value.int (nI L.length)]) mS_J6_stringSize_0f7a4 (i_size hv) ml_J5_245 dJ5_append_c97b9_7 rfl rfl (by decide) (Nat.le_of_ble_eq_true rfl) (by decide) ?_
  refine aw_iadd_n dJ5_append_c97b9_10 ?_
  refine aw_istore_n (L' := [(3, .int (nI (L.length + (lenD v 9)))), (2, .int (nI L.length)), (0, .ref c), (1, .int (nI v))]) dJ5_append_c97b9_11 rfl (by decide) rfl ?_
  refine aw_aload_n dJ5_append_c97b9_12 rfl rfl ?_
  refine aw_iload_n dJ5_append_c97b9_13 rfl rfl ?_
  refine aw_pcP (y0 := yJ5_isLatin1_aae02) (as := [Value.int (nI (L.length + (lenD v 9)))]) (rest := []) mP_J5_ensureCapacityInternal_d00df rfl mC_J5_isLatin1_aae02.2.2.1 (j_ens hbk (by omega) hg) ml_J5_100 (RC.w b0 rfl) dJ5_append_c97b9_14 rfl rfl (by decide) (Nat.le_of_ble_eq_true rfl) (by decide) (fun _ _ _ h => by cases h.1) (fun r9 f9 n9 _ h => ?_)
  obtain ⟨h1, bp1, hn1, hn2, hb1, hbk1, hF1⟩ := h
  obtain ⟨B1, ml1, b01, b11, hN1, hL1, hne1, hcn1, hbn1, hB1, hq1⟩ := id hbk1
  cases h1
  refine aw_aload_n dJ5_append_c97b9_17 rfl rfl ?_
  refine aw_cI (as := []) (rest := []) mC_J5_isLatin1_aae02 (b_lat (b01) (b11)) ml_J5_83 (RC.w (b01) rfl) dJ5_append_c97b9_18 rfl rfl (by decide) (Nat.le_of_ble_eq_true rfl) (by decide) ?_
  refine aw_if_eq_n (by omega) (tgt := 37) dJ5_append_c97b9_21 (by decide) (fun c_1 => by exfalso; omega) (fun c_1 => ?_)
  refine aw_iload_n dJ5_append_c97b9_24 rfl rfl ?_
  refine aw_iload_n dJ5_append_c97b9_25 rfl rfl ?_
  refine aw_aload_n dJ5_append_c97b9_26 rfl rfl ?_
  refine aw_get (v := .ref bp1) fl_J5_15 (b01) rfl dJ5_append_c97b9_27 ?_
  refine aw_sP (as := [Value.int (nI v), Value.int (nI (L.length + lenD v 9)), Value.ref bp1]) (rest := []) mS_J6_getChars_ba4f3 (i_gc9 hv (by omega) hN1 (by omega) b11) ml_J5_248 dJ5_append_c97b9_30 rfl rfl (by decide) (Nat.le_of_ble_eq_true rfl) (by decide) (fun _ _ _ h => by cases h.1) (fun r8 f8 n8 _ h => ?_)
  obtain ⟨g1, g2, B2, g3, hDW⟩ := h
  cases g1; subst g2; subst g3
  refine aw_pop dJ5_append_c97b9_33 rfl ?_
  refine aw_goto (tgt := 48) dJ5_append_c97b9_34 (by decide) ?_
  refine aw_aload_n dJ5_append_c97b9_48 rfl rfl ?_
  refine aw_iload_n dJ5_append_c97b9_49 rfl rfl ?_
  refine aw_put fp_J5_79 ((up_ne (by omega)).trans (b01)) (fun _ => rfl) (fun _ => rfl) (Nat.le_of_ble_eq_true rfl) dJ5_append_c97b9_50 ?_
  refine aw_aload_n dJ5_append_c97b9_53 rfl rfl ?_
  have hdl : (decN v).length = lenD v 9 := dgs_len v _
  have hdg : ∀ i, L.length ≤ i → i < L.length + lenD v 9 → B2 i = nI ((decN v).getD (i - L.length) 0) ∧ (decN v).getD (i - L.length) 0 < 128 := fun i z1 z2 => by
    have h9 := hDW.1 (L.length + lenD v 9 - 1 - i) (by omega)
    rw [show L.length + lenD v 9 - 1 - (L.length + lenD v 9 - 1 - i) = i by omega] at h9
    have h8 := dgs_at (v := v) (lenD v 9) (i - L.length) (by omega)
    refine ⟨?_, dgs_lt _ _ (by omega)⟩
    rw [h9]
    show _ = nI ((dgs v (lenD v 9)).getD (i - L.length) 0)
    rw [h8, show lenD v 9 - 1 - (i - L.length) = L.length + lenD v 9 - 1 - i by omega]
  exact aw_aret rfl (Or.inl ⟨_, rfl⟩) (Or.inr ⟨_, rfl⟩) (by decide) (by decide) dJ5_append_c97b9_54 ⟨rfl, bp1, by omega, by omega, hb1, bJ.mk9 (ml' := ml1) hN1 hne1 hcn1 hbn1 ((up_ne (by omega)).trans up_self) (up_self.trans (by rw [List.length_append, hdl]; rfl)) (by rw [List.length_append, hdl]; exact hgl) (fun i hi => by
    rw [List.length_append, hdl] at hi
    by_cases z : L.length ≤ i
    · rw [gd_r z]; exact hdg i z hi
    · rw [hDW.2 i (by omega), gd_l (by omega)]; exact hB1 i (by omega)) (fun i hi => by
    by_cases z : L.length ≤ i ∧ i < L.length + lenD v 9
    · exact ⟨_, (hdg i z.1 z.2).2, (hdg i z.1 z.2).1⟩
    · rw [hDW.2 i (by omega)]; exact hq1 i hi), hF1.to hb1 (fun a h1 h2 => by rw [up_ne h1, up_ne h2])⟩
set_option maxHeartbeats 4000000 in
theorem j4_str {l : Launch} {G : GT} {n : Nat} {q b : Nat} {T : List Nat} (hS : OS q b T) {H : HT} {c bp N : Nat} {L : List Nat} (hbk : bJ H c bp n L N) (hg : cpN N (L.length + T.length) ≤ 100) : AM l G yJ4_append_15ec4 (.code yJ4_append_15ec4 cJ4_append_15ec4 2 (some (.object "java/lang/StringBuilder"))) 5 300 1 100 [.ref c, .ref q] (H) n (BY H c bp n (L ++ T) (cpN N (L.length + T.length)) (some (.ref c))) := by
  refine aw_enter (M := MJ4_append_15ec4) rfl rfl (by decide +kernel) rfl (Nat.le_of_ble_eq_true rfl) ?_
  obtain ⟨B, ml, b0, b1, hN, hL, hne, hcn, hbn, hB, hq⟩ := id hbk
  show AW l G MJ4_append_15ec4 5 300 1 100 _ n 0 0 0 [(0, .ref c), (1, .ref q)] [] _ n
  refine aw_aload_n dJ4_append_15ec4_0 rfl rfl ?_
  refine aw_aload_n dJ4_append_15ec4_1 rfl rfl ?_
  refine aw_suP (as := [Value.ref q]) (rest := []) mU_J5_append_cf1ce (j5_str hS hbk hg) ml_J4_29 b0 rfl dJ4_append_15ec4_2 rfl rfl (by decide) (Nat.le_of_ble_eq_true rfl) (by decide) (fun _ _ _ h => by cases h.1) (fun r9 f9 n9 _ h => ?_)
  obtain ⟨h1, h2⟩ := h
  cases h1
  refine aw_pop dJ4_append_15ec4_5 rfl ?_
  refine aw_aload_n dJ4_append_15ec4_6 rfl rfl ?_
  exact aw_aret rfl (Or.inl ⟨_, rfl⟩) (Or.inr ⟨_, rfl⟩) (by decide) (by decide) dJ4_append_15ec4_7 ⟨rfl, h2⟩
set_option maxHeartbeats 4000000 in
theorem j4_int {l : Launch} {G : GT} {n : Nat} {H : HT} {c bp N : Nat} {L : List Nat} (hbk : bJ H c bp n L N) {v : Nat} (hv : v < 10 ^ 8) (hg : cpN N (L.length + lenD v 9) ≤ 100) : AM l G yJ4_append_bf812 (.code yJ4_append_bf812 cJ4_append_bf812 2 (some (.object "java/lang/StringBuilder"))) 5 300 1 100 [.ref c, .int (nI v)] (H) n (BY H c bp n (L ++ decN v) (cpN N (L.length + lenD v 9)) (some (.ref c))) := by
  refine aw_enter (M := MJ4_append_bf812) rfl rfl (by decide +kernel) rfl (Nat.le_of_ble_eq_true rfl) ?_
  obtain ⟨B, ml, b0, b1, hN, hL, hne, hcn, hbn, hB, hq⟩ := id hbk
  show AW l G MJ4_append_bf812 5 300 1 100 _ n 0 0 0 [(0, .ref c), (1, .int (nI v))] [] _ n
  refine aw_aload_n dJ4_append_bf812_0 rfl rfl ?_
  refine aw_iload_n dJ4_append_bf812_1 rfl rfl ?_
  refine aw_suP (as := [Value.int (nI v)]) (rest := []) mU_J5_append_c97b9 (j5_int hbk hv hg) ml_J4_53 b0 rfl dJ4_append_bf812_2 rfl rfl (by decide) (Nat.le_of_ble_eq_true rfl) (by decide) (fun _ _ _ h => by cases h.1) (fun r9 f9 n9 _ h => ?_)
  obtain ⟨h1, h2⟩ := h
  cases h1
  refine aw_pop dJ4_append_bf812_5 rfl ?_
  refine aw_aload_n dJ4_append_bf812_6 rfl rfl ?_
  exact aw_aret rfl (Or.inl ⟨_, rfl⟩) (Or.inr ⟨_, rfl⟩) (by decide) (by decide) dJ4_append_bf812_7 ⟨rfl, h2⟩
