/-- the builder at c, its bytes at bp, holds L; capacity at least m -/
def bK (f : HT) (c bp n : Nat) (L : List Nat) (m : Nat) : Prop := ∃ (N : Nat) (B : Nat → Int32) (ml : Int32), f c = bcell bp ml L.length ∧ f bp = bbyt N B ∧ (N = 16 ∨ N = 34) ∧ L.length ≤ N ∧ m ≤ N ∧ bp ≠ c ∧ c < n ∧ bp < n ∧ (∀ i, i < L.length → B i = nI (L.getD i 0) ∧ L.getD i 0 < 128) ∧ ∀ i, i < N → ∃ q, q < 128 ∧ B i = nI q
/-- the rest of the heap stays -/
def bF (H f' : HT) (c bp n : Nat) : Prop := ∀ a, a < n → a ≠ c → a ≠ bp → f' a = H a
/-- after a change of the builder -/
def BX (H : HT) (c bp n : Nat) (L : List Nat) (m : Nat) (x : Option Value) : PT := fun r f' n' => r = .inl x ∧ ∃ bp', n ≤ n' ∧ n' ≤ n + 1 ∧ (bp' = bp ∨ bp' = n) ∧ bK f' c bp' n' L m ∧ bF H f' c bp n
theorem cpy_at {g h : Nat → Int32} {d k i : Nat} : va_cpy g h 0 d k i = if d ≤ i ∧ i < d + k then g (i - d) else h i := by
  unfold va_cpy
  split
  · rw [Nat.zero_add]
  · rfl
theorem AM.post {l : Launch} {G : GT} {y : MethodName} {w : Cond} {fr lo mc ms : Nat} {as : List Value} {f : HT} {n : Nat} {P P' : PT} (hA : AM l G y w fr lo mc ms as f n P) (h : ∀ r f' n', P r f' n' → P' r f' n') : AM l G y w fr lo mc ms as f n P' := by
  intro htr ρ
  have hQ : ∀ {a : Array Value} {s : State} {o : Outcome} {t : State}, QcA G n ρ P a s o t → QcA G n ρ P' a s o t := fun hq => by
    obtain ⟨⟨r, ρ', f', n', h1, h2, h3, h4, h5, h6⟩, h7⟩ := hq
    exact ⟨⟨r, ρ', f', n', h1, h2, h3, h4, h5, h _ _ _ h6⟩, h7⟩
  have hX : ∀ {E : String} {s t : State}, XCA G n ρ P E s t → XCA G n ρ P' E s t := fun hq => by
    obtain ⟨⟨ρ', f', n', h2, h3, h4, h6⟩, h7⟩ := hq
    exact ⟨⟨ρ', f', n', h2, h3, h4, h _ _ _ h6⟩, h7⟩
  intro p e h1 h2 h3 s m args below hf happ hP hK
  obtain ⟨k, o, a1, a2, a3, a4⟩ := hA htr ρ p e h1 h2 h3 s m args below hf happ hP hK
  refine ⟨k, o, a1, a2, a3, ?_⟩
  rcases a4 with ⟨q1, q2⟩ | ⟨q, ho, E, ce, L, hx, hr⟩
  · exact Or.inl ⟨hQ q1, q2⟩
  · exact Or.inr ⟨q, ho, E, ce, L, hX hx, hr⟩
abbrev MJ5_isLatin1_aae02 : MT := (RJ5, cJ5_isLatin1_aae02, 1, (some .boolean), [], "isLatin1")
set_option maxHeartbeats 4000000 in
theorem b_lat {l : Launch} {G : GT} {n : Nat} {H : HT} {c bp k N : Nat} {ml : Int32} {B : Nat → Int32} (b0 : H c = bcell bp ml k) (b1 : H bp = bbyt N B) : AM l G yJ5_isLatin1_aae02 (.code yJ5_isLatin1_aae02 cJ5_isLatin1_aae02 1 (some .boolean)) 0 0 0 0 [.ref c] (H) n (rI (nI 1) H n) := by
  refine aw_enter (M := MJ5_isLatin1_aae02) rfl rfl (by decide +kernel) rfl (Nat.le_of_ble_eq_true rfl) ?_
  show AW l G MJ5_isLatin1_aae02 0 0 0 0 _ n 0 0 0 [(0, .ref c)] [] _ n
  refine aw_gets (v := .int (nI 1)) (List.mem_of_getElem? (i := 0) rfl) trivial sl_J5_18 dJ5_isLatin1_aae02_0 ?_
  refine aw_if_eq_n (by omega) (tgt := 17) dJ5_isLatin1_aae02_3 (by decide) (fun c_1 => by exfalso; omega) (fun c_1 => ?_)
  refine aw_aload_n dJ5_isLatin1_aae02_6 rfl rfl ?_
  refine aw_get (v := .int (nI 0)) fl_J5_22 (b0) rfl dJ5_isLatin1_aae02_7 ?_
  refine aw_if_ne_n (by omega) (tgt := 17) dJ5_isLatin1_aae02_10 (by decide) (fun c_2 => by exfalso; omega) (fun c_2 => ?_)
  refine aw_iconst_n 1 dJ5_isLatin1_aae02_13 (by decide) ?_
  refine aw_goto (tgt := 18) dJ5_isLatin1_aae02_14 (by decide) ?_
  exact aw_zret rfl rfl (by decide) (by decide) dJ5_isLatin1_aae02_18 (rI_of (by rfl))
abbrev MJ8_newLength_cabcc : MT := (RJ8, cJ8_newLength_cabcc, 4, (some .int), [], "newLength")
set_option maxHeartbeats 4000000 in
theorem b_newLen {l : Launch} {G : GT} {n : Nat} {f : HT} {m : Nat} (hm : m ≤ 18) : AM l G yJ8_newLength_cabcc (.code yJ8_newLength_cabcc cJ8_newLength_cabcc 4 (some .int)) 1 60 0 0 [.int (nI 16), .int (nI m), .int (nI 18)] (f) n (rI (nI 34) f n) := by
  refine aw_enter (M := MJ8_newLength_cabcc) rfl rfl (by decide +kernel) rfl (Nat.le_of_ble_eq_true rfl) ?_
  show AW l G MJ8_newLength_cabcc 1 60 0 0 _ n 0 0 0 [(0, .int (nI 16)), (1, .int (nI m)), (2, .int (nI 18))] [] _ n
  refine aw_iload_n dJ8_newLength_cabcc_0 rfl rfl ?_
  refine aw_iload_n dJ8_newLength_cabcc_1 rfl rfl ?_
  refine aw_iload_n dJ8_newLength_cabcc_2 rfl rfl ?_
  refine aw_mmax_n (by omega) (by omega) ml_J8_194 (by decide) (Nat.le_of_ble_eq_true rfl) (by decide) (by decide) dJ8_newLength_cabcc_3 ?_
  rw [show max m 18 = 18 by omega]
  refine aw_iadd_n dJ8_newLength_cabcc_6 ?_
  refine aw_istore_n (L' := [(3, .int (nI (16 + 18))), (0, .int (nI 16)), (1, .int (nI m)), (2, .int (nI 18))]) dJ8_newLength_cabcc_7 rfl (by decide) rfl ?_
  refine aw_iconst_n 0 dJ8_newLength_cabcc_8 (by decide) ?_
  refine aw_iload_n dJ8_newLength_cabcc_9 rfl rfl ?_
  refine aw_icmp_ge_n (by omega) (by omega) (tgt := 21) dJ8_newLength_cabcc_10 (by decide) (fun c_1 => by exfalso; omega) (fun c_1 => ?_)
  refine aw_iload_n dJ8_newLength_cabcc_13 rfl rfl ?_
  refine aw_ldc (v := nI 2147483639) kc_J8_200 dJ8_newLength_cabcc_14 ?_
  refine aw_icmp_gt_n (by omega) (by omega) (tgt := 21) dJ8_newLength_cabcc_16 (by decide) (fun c_2 => by exfalso; omega) (fun c_2 => ?_)
  refine aw_iload_n dJ8_newLength_cabcc_19 rfl rfl ?_
  exact aw_iret rfl (by decide) (by decide) dJ8_newLength_cabcc_20 (rI_of (by rfl))
abbrev MJ5_newCapacity_0f7a4 : MT := (RJ5, cJ5_newCapacity_0f7a4, 6, (some .int), [], "newCapacity")
set_option maxHeartbeats 4000000 in
theorem b_newCap {l : Launch} {G : GT} {n : Nat} {H : HT} {c bp k m : Nat} {ml : Int32} {B : Nat → Int32} (b0 : H c = bcell bp ml k) (b1 : H bp = bbyt 16 B) (hm1 : 16 < m) (hm : m ≤ 34) : AM l G yJ5_newCapacity_0f7a4 (.code yJ5_newCapacity_0f7a4 cJ5_newCapacity_0f7a4 6 (some .int)) 2 120 0 0 [.ref c, .int (nI m)] (H) n (rI (nI 34) H n) := by
  refine aw_enter (M := MJ5_newCapacity_0f7a4) rfl rfl (by decide +kernel) rfl (Nat.le_of_ble_eq_true rfl) ?_
  show AW l G MJ5_newCapacity_0f7a4 2 120 0 0 _ n 0 0 0 [(0, .ref c), (1, .int (nI m))] [] _ n
  refine aw_aload_n dJ5_newCapacity_0f7a4_0 rfl rfl ?_
  refine aw_get (v := .ref bp) fl_J5_15 (b0) rfl dJ5_newCapacity_0f7a4_1 ?_
  refine aw_alen (N := 0) (x := nilc) (ty := .byte) (v := nI 16) (b1) rfl rfl dJ5_newCapacity_0f7a4_4 ?_
  refine aw_istore_n (L' := [(2, .int (nI 16)), (0, .ref c), (1, .int (nI m))]) dJ5_newCapacity_0f7a4_5 rfl (by decide) rfl ?_
  refine aw_iload_n dJ5_newCapacity_0f7a4_6 rfl rfl ?_
  refine aw_aload_n dJ5_newCapacity_0f7a4_7 rfl rfl ?_
  refine aw_get (v := .int (nI 0)) fl_J5_22 (b0) rfl dJ5_newCapacity_0f7a4_8 ?_
  refine aw_ishl dJ5_newCapacity_0f7a4_11 ?_
  rw [shl_0]
  refine aw_istore_n (L' := [(3, .int (nI m)), (2, .int (nI 16)), (0, .ref c), (1, .int (nI m))]) dJ5_newCapacity_0f7a4_12 rfl (by decide) rfl ?_
  refine aw_iload_n dJ5_newCapacity_0f7a4_13 rfl rfl ?_
  refine aw_iload_n dJ5_newCapacity_0f7a4_14 rfl rfl ?_
  refine aw_isub_n (by omega) dJ5_newCapacity_0f7a4_15 ?_
  refine aw_istore (L' := [(4, .int (nI (m - 16))), (3, .int (nI m)), (2, .int (nI 16)), (0, .ref c), (1, .int (nI m))]) dJ5_newCapacity_0f7a4_16 (by decide) rfl ?_
  refine aw_iload_n dJ5_newCapacity_0f7a4_18 rfl rfl ?_
  refine aw_iload dJ5_newCapacity_0f7a4_19 rfl ?_
  refine aw_iload_n dJ5_newCapacity_0f7a4_21 rfl rfl ?_
  refine aw_iconst_n 2 dJ5_newCapacity_0f7a4_22 (by decide) ?_
  refine aw_aload_n dJ5_newCapacity_0f7a4_23 rfl rfl ?_
  refine aw_get (v := .int (nI 0)) fl_J5_22 (b0) rfl dJ5_newCapacity_0f7a4_24 ?_
  refine aw_ishl dJ5_newCapacity_0f7a4_27 ?_
  rw [shl_0]
  refine aw_iadd_n dJ5_newCapacity_0f7a4_28 ?_
  refine aw_sI (as := [Value.int (nI 16), Value.int (nI (m - 16)), Value.int (nI (16 + 2))]) (rest := []) mS_J8_newLength_cabcc (b_newLen (m := m - 16) (by omega)) ml_J5_114 dJ5_newCapacity_0f7a4_29 rfl rfl (by decide) (Nat.le_of_ble_eq_true rfl) (by decide) ?_
  refine aw_istore (L' := [(5, .int (nI 34)), (4, .int (nI (m - 16))), (3, .int (nI m)), (2, .int (nI 16)), (0, .ref c), (1, .int (nI m))]) dJ5_newCapacity_0f7a4_32 (by decide) rfl ?_
  refine aw_iload dJ5_newCapacity_0f7a4_34 rfl ?_
  refine aw_ldc (v := nI 2147483647) kc_J5_39 dJ5_newCapacity_0f7a4_36 ?_
  refine aw_icmp_ne_n (by omega) (by omega) (tgt := 51) dJ5_newCapacity_0f7a4_38 (by decide) (fun c_1 => ?_) (fun c_1 => by exfalso; omega)
  refine aw_iload dJ5_newCapacity_0f7a4_51 rfl ?_
  refine aw_aload_n dJ5_newCapacity_0f7a4_53 rfl rfl ?_
  refine aw_get (v := .int (nI 0)) fl_J5_22 (b0) rfl dJ5_newCapacity_0f7a4_54 ?_
  refine aw_ishr dJ5_newCapacity_0f7a4_57 ?_
  rw [shr_0]
  exact aw_iret rfl (by decide) (by decide) dJ5_newCapacity_0f7a4_58 (rI_of (by rfl))
abbrev MJ7_copyOf_9075b : MT := (RJ7, cJ7_copyOf_9075b, 3, (some (.array .byte)), [], "copyOf")
set_option maxHeartbeats 4000000 in
theorem b_copyOf {l : Launch} {G : GT} {n : Nat} {H : HT} {c bp k : Nat} {ml : Int32} {B : Nat → Int32} (b0 : H c = bcell bp ml k) (b1 : H bp = bbyt 16 B) (hbn : bp < n) (hcn : c < n) (hq : ∀ i, i < 16 → ∃ q, q < 128 ∧ B i = nI q) : AM l G yJ7_copyOf_9075b (.code yJ7_copyOf_9075b cJ7_copyOf_9075b 3 (some (.array .byte))) 1 60 1 34 [.ref bp, .int (nI 34)] (H) n ((fun r f' n' => rR (.ref n) (va_up H n (bbyt 34 (va_cpy B (fun _ => 0) 0 0 16))) (n + 1) r f' n')) := by
  refine aw_enter (M := MJ7_copyOf_9075b) rfl rfl (by decide +kernel) rfl (Nat.le_of_ble_eq_true rfl) ?_
  show AW l G MJ7_copyOf_9075b 1 60 1 34 _ n 0 0 0 [(0, .ref bp), (1, .int (nI 34))] [] _ n
  refine aw_iload_n dJ7_copyOf_9075b_0 rfl rfl ?_
  refine aw_aload_n dJ7_copyOf_9075b_1 rfl rfl ?_
  refine aw_alen (N := 0) (x := nilc) (ty := .byte) (v := nI 16) (b1) rfl rfl dJ7_copyOf_9075b_2 ?_
  refine aw_icmp_ne_n (by omega) (by omega) (tgt := 14) dJ7_copyOf_9075b_3 (by decide) (fun c_1 => ?_) (fun c_1 => by exfalso; omega)
  refine aw_iload_n dJ7_copyOf_9075b_14 rfl rfl ?_
  refine aw_newa_byte (N := 34) (by decide) (nIc (by decide)) (by decide) (by decide) (by decide) dJ7_copyOf_9075b_15 ?_
  refine aw_astore_n (L' := [(2, .ref n), (0, .ref bp), (1, .int (nI 34))]) dJ7_copyOf_9075b_17 rfl (by decide) rfl ?_
  refine aw_aload_n dJ7_copyOf_9075b_18 rfl rfl ?_
  refine aw_iconst_n 0 dJ7_copyOf_9075b_19 (by decide) ?_
  refine aw_aload_n dJ7_copyOf_9075b_20 rfl rfl ?_
  refine aw_iconst_n 0 dJ7_copyOf_9075b_21 (by decide) ?_
  refine aw_aload_n dJ7_copyOf_9075b_22 rfl rfl ?_
  refine aw_alen (N := 0) (x := nilc) (ty := .byte) (v := nI 16) ((up_ne (by omega)).trans (b1)) rfl rfl dJ7_copyOf_9075b_23 ?_
  refine aw_iload_n dJ7_copyOf_9075b_24 rfl rfl ?_
  refine aw_mmin_n (by omega) (by omega) ml_J7_304 (by decide) (Nat.le_of_ble_eq_true rfl) (by decide) (by decide) dJ7_copyOf_9075b_25 ?_
  rw [show min 16 34 = 16 from rfl]
  refine aw_copyb (k := 16) ml_J7_150 ((up_ne (by omega)).trans (b1)) up_self (by decide) (by omega) (by decide) (fun i hi => by obtain ⟨q, q1, q2⟩ := hq i (by omega); rw [q2]; exact fits_b q1) (by decide) (by decide +kernel) dJ7_copyOf_9075b_28 ?_
  rw [bx_uu]
  refine aw_aload_n dJ7_copyOf_9075b_31 rfl rfl ?_
  exact aw_aret rfl (Or.inr ⟨_, rfl⟩) (Or.inr ⟨_, rfl⟩) (by decide) (by decide) dJ7_copyOf_9075b_32 ⟨rfl, rfl, rfl⟩
abbrev MJ5_ensureCapacityInternal_d00df : MT := (RJ5, cJ5_ensureCapacityInternal_d00df, 3, none, [], "ensureCapacityInternal")
set_option maxHeartbeats 4000000 in
theorem b_ens0 {l : Launch} {G : GT} {n : Nat} {H : HT} {c bp k N m : Nat} {ml : Int32} {B : Nat → Int32} (b0 : H c = bcell bp ml k) (b1 : H bp = bbyt N B) (hN : N = 16 ∨ N = 34) (hm : m ≤ 34) (hbn : bp < n) (hcn : c < n) (hne : bp ≠ c) (hq : ∀ i, i < N → ∃ q, q < 128 ∧ B i = nI q) : AM l G yJ5_ensureCapacityInternal_d00df (.code yJ5_ensureCapacityInternal_d00df cJ5_ensureCapacityInternal_d00df 3 none) 3 180 1 34 [.ref c, .int (nI m)] (H) n ((fun r f' n' => r = .inl none ∧ ((m ≤ N ∧ f' = H ∧ n' = n) ∨ (N = 16 ∧ n' = n + 1 ∧ f' = va_up (va_up H n (bbyt 34 (va_cpy B (fun _ => 0) 0 0 16))) c (bcell n ml k))))) := by
  refine aw_enter (M := MJ5_ensureCapacityInternal_d00df) rfl rfl (by decide +kernel) rfl (Nat.le_of_ble_eq_true rfl) ?_
  show AW l G MJ5_ensureCapacityInternal_d00df 3 180 1 34 _ n 0 0 0 [(0, .ref c), (1, .int (nI m))] [] _ n
  refine aw_aload_n dJ5_ensureCapacityInternal_d00df_0 rfl rfl ?_
  refine aw_get (v := .ref bp) fl_J5_15 (b0) rfl dJ5_ensureCapacityInternal_d00df_1 ?_
  refine aw_alen (N := 0) (x := nilc) (ty := .byte) (v := nI N) (b1) rfl rfl dJ5_ensureCapacityInternal_d00df_4 ?_
  refine aw_aload_n dJ5_ensureCapacityInternal_d00df_5 rfl rfl ?_
  refine aw_get (v := .int (nI 0)) fl_J5_22 (b0) rfl dJ5_ensureCapacityInternal_d00df_6 ?_
  refine aw_ishr dJ5_ensureCapacityInternal_d00df_9 ?_
  rw [shr_0]
  refine aw_istore_n (L' := [(2, .int (nI N)), (0, .ref c), (1, .int (nI m))]) dJ5_ensureCapacityInternal_d00df_10 rfl (by decide) rfl ?_
  refine aw_iload_n dJ5_ensureCapacityInternal_d00df_11 rfl rfl ?_
  refine aw_iload_n dJ5_ensureCapacityInternal_d00df_12 rfl rfl ?_
  refine aw_isub dJ5_ensureCapacityInternal_d00df_13 ?_
  refine aw_if_le (tgt := 38) dJ5_ensureCapacityInternal_d00df_14 (by decide) (fun c_1 => ?_) (fun c_1 => ?_)
  · have d_0 := (sI_le0 (a := m) (b := N) (by omega) (by omega)).mp c_1
    exact aw_vret rfl (by decide) (by decide) dJ5_ensureCapacityInternal_d00df_38 ⟨rfl, Or.inl ⟨d_0, rfl, rfl⟩⟩
  · have d_0 : ¬ m ≤ N := mt (sI_le0 (a := m) (b := N) (by omega) (by omega)).mpr c_1
    have hN16 : N = 16 := by omega
    subst hN16
    refine aw_aload_n dJ5_ensureCapacityInternal_d00df_17 rfl rfl ?_
    refine aw_aload_n dJ5_ensureCapacityInternal_d00df_18 rfl rfl ?_
    refine aw_get (v := .ref bp) fl_J5_15 (b0) rfl dJ5_ensureCapacityInternal_d00df_19 ?_
    refine aw_aload_n dJ5_ensureCapacityInternal_d00df_22 rfl rfl ?_
    refine aw_iload_n dJ5_ensureCapacityInternal_d00df_23 rfl rfl ?_
    refine aw_pcI (y0 := yJ5_isLatin1_aae02) (as := [Value.int (nI m)]) (rest := [Value.ref bp, Value.ref c]) mP_J5_newCapacity_0f7a4 rfl mC_J5_isLatin1_aae02.2.2.1 (b_newCap b0 b1 (by omega) (by omega)) ml_J5_104 (RC.w b0 rfl) dJ5_ensureCapacityInternal_d00df_24 rfl rfl (by decide) (Nat.le_of_ble_eq_true rfl) (by decide) ?_
    refine aw_aload_n dJ5_ensureCapacityInternal_d00df_27 rfl rfl ?_
    refine aw_get (v := .int (nI 0)) fl_J5_22 (b0) rfl dJ5_ensureCapacityInternal_d00df_28 ?_
    refine aw_ishl dJ5_ensureCapacityInternal_d00df_31 ?_
    rw [shl_0]
    refine aw_sR (as := [Value.ref bp, Value.int (nI 34)]) (rest := [Value.ref c]) mS_J7_copyOf_9075b (b_copyOf b0 b1 hbn hcn hq) ml_J5_108 dJ5_ensureCapacityInternal_d00df_32 rfl rfl (by decide) (Nat.le_of_ble_eq_true rfl) (by decide) ?_
    refine aw_put fp_J5_15 ((up_ne (by omega)).trans (b0)) (fun _ => rfl) (fun _ => rfl) (Nat.le_of_ble_eq_true rfl) dJ5_ensureCapacityInternal_d00df_35 ?_
    exact aw_vret rfl (by decide) (by decide) dJ5_ensureCapacityInternal_d00df_38 ⟨rfl, Or.inr ⟨by omega, rfl, rfl⟩⟩
/-- ensureCapacityInternal -/
theorem b_ens {l : Launch} {G : GT} {n : Nat} {H : HT} {c bp m : Nat} {L : List Nat} (h : bK H c bp n L 0) (hm : m ≤ 34) : AM l G yJ5_ensureCapacityInternal_d00df (.code yJ5_ensureCapacityInternal_d00df cJ5_ensureCapacityInternal_d00df 3 none) 3 180 1 34 [.ref c, .int (nI m)] H n (BX H c bp n L m none) := by
  obtain ⟨N, B, ml, b0, b1, hN, hL, -, hne, hcn, hbn, hB, hq⟩ := h
  refine AM.post (b_ens0 b0 b1 hN hm hbn hcn hne hq) ?_
  intro r f' n' hr
  obtain ⟨h1, ⟨h2, h3, h4⟩ | ⟨h2, h3, h4⟩⟩ := hr
  · subst h3; subst h4
    exact ⟨h1, bp, Nat.le_refl _, Nat.le_succ _, Or.inl rfl, ⟨N, B, ml, b0, b1, hN, hL, h2, hne, hcn, hbn, hB, hq⟩, fun _ _ _ _ => rfl⟩
  · subst h2; subst h3; subst h4
    refine ⟨h1, n, Nat.le_succ _, Nat.le_refl _, Or.inr rfl, ⟨34, va_cpy B (fun _ => 0) 0 0 16, ml, up_self, (up_ne (by omega)).trans up_self, Or.inr rfl, by omega, hm, by omega, by omega, Nat.lt_succ_self n, fun i hi => ?_, fun i hi => ?_⟩, fun a h5 h6 h7 => ?_⟩
    · rw [cpy_at, if_pos (by omega), Nat.sub_zero]; exact hB i hi
    · rw [cpy_at]
      by_cases z : i < 16
      · rw [if_pos (by omega), Nat.sub_zero]; exact hq i z
      · rw [if_neg (by omega)]; exact ⟨0, by decide, nI_0.symm⟩
    · rw [up_ne h6, up_ne (by omega)]
