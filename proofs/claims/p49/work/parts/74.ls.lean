/-- an old string: at q, its bytes at b, its signs T -/
def OS (q b : Nat) (T : List Nat) : Prop := ("java/lang/String", "coder", "B", .int (nI 0), q) ∈ wOF ∧ ("java/lang/String", "value", "[B", .ref b, q) ∈ wOF ∧ ("java/lang/String", q) ∈ wO ∧ (∃ g : Nat → Value, (FieldType.byte, b, T.length, g) ∈ wT ∧ ∀ k, k < T.length → g k = .int (nI (T.getD k 0))) ∧ q < o0 ∧ b < o0 ∧ T.length ≤ 100 ∧ ∀ k, k < T.length → T.getD k 0 < 128
/-- a new string -/
def NS (f : HT) (q b : Nat) (T : List Nat) : Prop := ∃ (B : Nat → Int32) (h z : Value), f q = .inr (7, [.ref b, .int (nI 0), h, z]) ∧ f b = .inl (4, (T.length, .inl B)) ∧ (∀ k, k < T.length → B k = nI (T.getD k 0)) ∧ T.length ≤ 100 ∧ ∀ k, k < T.length → T.getD k 0 < 128
/-- .. one of the two -/
def SA (f : HT) (q b : Nat) (T : List Nat) : Prop := OS q b T ∨ NS f q b T
theorem NS.fr {f f' : HT} {q b : Nat} {T : List Nat} (h : NS f q b T) (h1 : f' q = f q) (h2 : f' b = f b) : NS f' q b T := by
  obtain ⟨B, u, z, a1, a2, a3⟩ := h
  exact ⟨B, u, z, h1.trans a1, h2.trans a2, a3⟩
theorem SA.len {f : HT} {q b : Nat} {T : List Nat} (h : SA f q b T) : T.length ≤ 100 := by
  rcases h with h | ⟨B, u, z, -, -, -, h, -⟩
  · exact h.2.2.2.2.2.2.1
  · exact h
theorem SA.small {f : HT} {q b : Nat} {T : List Nat} (h : SA f q b T) : ∀ k, k < T.length → T.getD k 0 < 128 := by
  rcases h with h | ⟨B, u, z, -, -, -, -, h⟩
  · exact h.2.2.2.2.2.2.2
  · exact h
theorem SA.rc {f : HT} {q b : Nat} {T : List Nat} (h : SA f q b T) : RC f "java/lang/String" q := by
  rcases h with h | ⟨B, u, z, h, -⟩
  · exact RC.o h.2.2.1 h.2.2.2.2.1
  · exact RC.w h rfl
theorem ch_key : ∀ q, q < 128 → ((nI q &&& nI 255).toUInt32 % 65536).toInt32 = nI q := by decide +kernel
set_option maxHeartbeats 4000000 in
theorem o_cod {l : Launch} {G : GT} {n : Nat} {f : HT} {q b : Nat} {T : List Nat} (hS : OS q b T) : AM l G yJ0_coder_7d493 (.code yJ0_coder_7d493 cJ0_coder_7d493 1 (some .byte)) 0 0 0 0 [.ref q] (f) n (rI (nI 0) f n) := by
  refine aw_enter (M := MJ0_coder_7d493) rfl rfl (by decide +kernel) rfl (Nat.le_of_ble_eq_true rfl) ?_
  have hl9 : T.length ≤ 100 := hS.2.2.2.2.2.2.1
  obtain ⟨g, hg, hgk⟩ := hS.2.2.2.1
  show AW l G MJ0_coder_7d493 0 0 0 0 _ n 0 0 0 [(0, .ref q)] [] _ n
  refine aw_gets (v := .int (nI 1)) (List.mem_of_getElem? (i := 0) rfl) trivial sl_J0_38 dJ0_coder_7d493_0 ?_
  refine aw_if_eq_n (by omega) (tgt := 13) dJ0_coder_7d493_3 (by decide) (fun c_1 => by exfalso; omega) (fun c_1 => ?_)
  refine aw_aload_n dJ0_coder_7d493_6 rfl rfl ?_
  refine aw_oget (v := .int (nI 0)) hS.1 hS.2.2.2.2.1 trivial sl_J0_15 dJ0_coder_7d493_7 ?_
  refine aw_goto (tgt := 14) dJ0_coder_7d493_10 (by decide) ?_
  exact aw_zret rfl rfl (by decide) (by decide) dJ0_coder_7d493_14 (rI_of (by rfl))
set_option maxHeartbeats 4000000 in
theorem o_len {l : Launch} {G : GT} {n : Nat} {f : HT} {q b : Nat} {T : List Nat} (hS : OS q b T) : AM l G yJ0_length_8abf5 (.code yJ0_length_8abf5 cJ0_length_8abf5 1 (some .int)) 1 60 0 0 [.ref q] (f) n (rI (nI T.length) f n) := by
  refine aw_enter (M := MJ0_length_8abf5) rfl rfl (by decide +kernel) rfl (Nat.le_of_ble_eq_true rfl) ?_
  have hl9 : T.length ≤ 100 := hS.2.2.2.2.2.2.1
  obtain ⟨g, hg, hgk⟩ := hS.2.2.2.1
  show AW l G MJ0_length_8abf5 1 60 0 0 _ n 0 0 0 [(0, .ref q)] [] _ n
  refine aw_aload_n dJ0_length_8abf5_0 rfl rfl ?_
  refine aw_oget (v := .ref b) hS.2.1 hS.2.2.2.2.1 (show b < o0 from hS.2.2.2.2.2.1) sl_J0_9 dJ0_length_8abf5_1 ?_
  refine aw_olen (v := nI T.length) hg hS.2.2.2.2.2.1 rfl dJ0_length_8abf5_4 ?_
  refine aw_aload_n dJ0_length_8abf5_5 rfl rfl ?_
  refine aw_cI (as := []) (rest := [Value.int (nI T.length)]) (MV.c mV_J0_coder_7d493) (o_cod hS) ml_J0_335 (RC.o hS.2.2.1 hS.2.2.2.2.1) dJ0_length_8abf5_6 rfl rfl (by decide) (Nat.le_of_ble_eq_true rfl) (by decide) ?_
  refine aw_ishr dJ0_length_8abf5_9 ?_
  rw [shr_0]
  exact aw_iret rfl (by decide) (by decide) dJ0_length_8abf5_10 (rI_of (by rfl))
set_option maxHeartbeats 4000000 in
theorem o_lat {l : Launch} {G : GT} {n : Nat} {f : HT} {q b : Nat} {T : List Nat} (hS : OS q b T) : AM l G yJ0_isLatin1_aae02 (.code yJ0_isLatin1_aae02 cJ0_isLatin1_aae02 1 (some .boolean)) 0 0 0 0 [.ref q] (f) n (rI (nI 1) f n) := by
  refine aw_enter (M := MJ0_isLatin1_aae02) rfl rfl (by decide +kernel) rfl (Nat.le_of_ble_eq_true rfl) ?_
  have hl9 : T.length ≤ 100 := hS.2.2.2.2.2.2.1
  obtain ⟨g, hg, hgk⟩ := hS.2.2.2.1
  show AW l G MJ0_isLatin1_aae02 0 0 0 0 _ n 0 0 0 [(0, .ref q)] [] _ n
  refine aw_gets (v := .int (nI 1)) (List.mem_of_getElem? (i := 0) rfl) trivial sl_J0_38 dJ0_isLatin1_aae02_0 ?_
  refine aw_if_eq_n (by omega) (tgt := 17) dJ0_isLatin1_aae02_3 (by decide) (fun c_1 => by exfalso; omega) (fun c_1 => ?_)
  refine aw_aload_n dJ0_isLatin1_aae02_6 rfl rfl ?_
  refine aw_oget (v := .int (nI 0)) hS.1 hS.2.2.2.2.1 trivial sl_J0_15 dJ0_isLatin1_aae02_7 ?_
  refine aw_if_ne_n (by omega) (tgt := 17) dJ0_isLatin1_aae02_10 (by decide) (fun c_2 => by exfalso; omega) (fun c_2 => ?_)
  refine aw_iconst_n 1 dJ0_isLatin1_aae02_13 (by decide) ?_
  refine aw_goto (tgt := 18) dJ0_isLatin1_aae02_14 (by decide) ?_
  exact aw_zret rfl rfl (by decide) (by decide) dJ0_isLatin1_aae02_18 (rI_of (by rfl))
set_option maxHeartbeats 4000000 in
theorem o_ch1 {l : Launch} {G : GT} {n : Nat} {f : HT} {q b : Nat} {T : List Nat} (hS : OS q b T) {k : Nat} (hk : k < T.length) : AM l G yJ1_charAt_3b067 (.code yJ1_charAt_3b067 cJ1_charAt_3b067 2 (some .char)) 2 120 0 0 [.ref b, .int (nI k)] (f) n (rI (nI (T.getD k 0)) f n) := by
  refine aw_enter (M := MJ1_charAt_3b067) rfl rfl (by decide +kernel) rfl (Nat.le_of_ble_eq_true rfl) ?_
  have hl9 : T.length ≤ 100 := hS.2.2.2.2.2.2.1
  obtain ⟨g, hg, hgk⟩ := hS.2.2.2.1
  show AW l G MJ1_charAt_3b067 2 120 0 0 _ n 0 0 0 [(0, .ref b), (1, .int (nI k))] [] _ n
  refine aw_iload_n dJ1_charAt_3b067_0 rfl rfl ?_
  refine aw_aload_n dJ1_charAt_3b067_1 rfl rfl ?_
  refine aw_olen (v := nI T.length) hg hS.2.2.2.2.2.1 rfl dJ1_charAt_3b067_2 ?_
  refine aw_sV (as := [Value.int (nI k), Value.int (nI T.length)]) (rest := []) mS_J0_checkIndex_df160 (o_ck0 hk (by omega)) ml_J1_9 dJ1_charAt_3b067_3 rfl rfl (by decide) (Nat.le_of_ble_eq_true rfl) (by decide) ?_
  refine aw_aload_n dJ1_charAt_3b067_6 rfl rfl ?_
  refine aw_iload_n dJ1_charAt_3b067_7 rfl rfl ?_
  refine aw_obald (v := .int (nI (T.getD k 0))) hg hS.2.2.2.2.2.1 (vp_in_nI hk (by omega)) (by rw [nIc (by omega)]; exact hgk k hk) trivial dJ1_charAt_3b067_8 ?_
  refine aw_sipush_n 255 dJ1_charAt_3b067_9 (by decide) ?_
  refine aw_iand dJ1_charAt_3b067_12 ?_
  refine aw_i2c dJ1_charAt_3b067_13 ?_
  rw [ch_key _ (hS.2.2.2.2.2.2.2 k hk)]
  exact aw_zret rfl (c128_narrow (hS.2.2.2.2.2.2.2 k hk)) (by decide) (by decide) dJ1_charAt_3b067_14 (rI_of rfl)
set_option maxHeartbeats 4000000 in
theorem o_ch {l : Launch} {G : GT} {n : Nat} {f : HT} {q b : Nat} {T : List Nat} (hS : OS q b T) {k : Nat} (hk : k < T.length) : AM l G yJ0_charAt_5068e (.code yJ0_charAt_5068e cJ0_charAt_5068e 2 (some .char)) 3 180 0 0 [.ref q, .int (nI k)] (f) n (rI (nI (T.getD k 0)) f n) := by
  refine aw_enter (M := MJ0_charAt_5068e) rfl rfl (by decide +kernel) rfl (Nat.le_of_ble_eq_true rfl) ?_
  have hl9 : T.length ≤ 100 := hS.2.2.2.2.2.2.1
  obtain ⟨g, hg, hgk⟩ := hS.2.2.2.1
  show AW l G MJ0_charAt_5068e 3 180 0 0 _ n 0 0 0 [(0, .ref q), (1, .int (nI k))] [] _ n
  refine aw_aload_n dJ0_charAt_5068e_0 rfl rfl ?_
  refine aw_cI (as := []) (rest := []) (MV.c mV_J0_isLatin1_aae02) (o_lat hS) ml_J0_492 (RC.o hS.2.2.1 hS.2.2.2.2.1) dJ0_charAt_5068e_1 rfl rfl (by decide) (Nat.le_of_ble_eq_true rfl) (by decide) ?_
  refine aw_if_eq_n (by omega) (tgt := 16) dJ0_charAt_5068e_4 (by decide) (fun c_1 => by exfalso; omega) (fun c_1 => ?_)
  refine aw_aload_n dJ0_charAt_5068e_7 rfl rfl ?_
  refine aw_oget (v := .ref b) hS.2.1 hS.2.2.2.2.1 (show b < o0 from hS.2.2.2.2.2.1) sl_J0_9 dJ0_charAt_5068e_8 ?_
  refine aw_iload_n dJ0_charAt_5068e_11 rfl rfl ?_
  refine aw_sI (as := [Value.ref b, Value.int (nI k)]) (rest := []) mS_J1_charAt_3b067 (o_ch1 hS hk) ml_J0_495 dJ0_charAt_5068e_12 rfl rfl (by decide) (Nat.le_of_ble_eq_true rfl) (by decide) ?_
  exact aw_zret rfl (c128_narrow (hS.2.2.2.2.2.2.2 k hk)) (by decide) (by decide) dJ0_charAt_5068e_15 (rI_of rfl)
set_option maxHeartbeats 4000000 in
theorem n_cod {l : Launch} {G : GT} {n : Nat} {f : HT} {q b : Nat} {T : List Nat} (hS : NS f q b T) : AM l G yJ0_coder_7d493 (.code yJ0_coder_7d493 cJ0_coder_7d493 1 (some .byte)) 0 0 0 0 [.ref q] (f) n (rI (nI 0) f n) := by
  refine aw_enter (M := MJ0_coder_7d493) rfl rfl (by decide +kernel) rfl (Nat.le_of_ble_eq_true rfl) ?_
  obtain ⟨B, u, z, h0, h1, hBk, hl9, hsm⟩ := id hS
  show AW l G MJ0_coder_7d493 0 0 0 0 _ n 0 0 0 [(0, .ref q)] [] _ n
  refine aw_gets (v := .int (nI 1)) (List.mem_of_getElem? (i := 0) rfl) trivial sl_J0_38 dJ0_coder_7d493_0 ?_
  refine aw_if_eq_n (by omega) (tgt := 13) dJ0_coder_7d493_3 (by decide) (fun c_1 => by exfalso; omega) (fun c_1 => ?_)
  refine aw_aload_n dJ0_coder_7d493_6 rfl rfl ?_
  refine aw_get (v := .int (nI 0)) fl_J0_15 h0 rfl dJ0_coder_7d493_7 ?_
  refine aw_goto (tgt := 14) dJ0_coder_7d493_10 (by decide) ?_
  exact aw_zret rfl rfl (by decide) (by decide) dJ0_coder_7d493_14 (rI_of (by rfl))
set_option maxHeartbeats 4000000 in
theorem n_len {l : Launch} {G : GT} {n : Nat} {f : HT} {q b : Nat} {T : List Nat} (hS : NS f q b T) : AM l G yJ0_length_8abf5 (.code yJ0_length_8abf5 cJ0_length_8abf5 1 (some .int)) 1 60 0 0 [.ref q] (f) n (rI (nI T.length) f n) := by
  refine aw_enter (M := MJ0_length_8abf5) rfl rfl (by decide +kernel) rfl (Nat.le_of_ble_eq_true rfl) ?_
  obtain ⟨B, u, z, h0, h1, hBk, hl9, hsm⟩ := id hS
  show AW l G MJ0_length_8abf5 1 60 0 0 _ n 0 0 0 [(0, .ref q)] [] _ n
  refine aw_aload_n dJ0_length_8abf5_0 rfl rfl ?_
  refine aw_get (v := .ref b) fl_J0_9 h0 rfl dJ0_length_8abf5_1 ?_
  refine aw_alen (N := 0) (x := nilc) (ty := .byte) (v := nI T.length) h1 rfl rfl dJ0_length_8abf5_4 ?_
  refine aw_aload_n dJ0_length_8abf5_5 rfl rfl ?_
  refine aw_cI (as := []) (rest := [Value.int (nI T.length)]) (MV.c mV_J0_coder_7d493) (n_cod hS) ml_J0_335 (RC.w h0 rfl) dJ0_length_8abf5_6 rfl rfl (by decide) (Nat.le_of_ble_eq_true rfl) (by decide) ?_
  refine aw_ishr dJ0_length_8abf5_9 ?_
  rw [shr_0]
  exact aw_iret rfl (by decide) (by decide) dJ0_length_8abf5_10 (rI_of (by rfl))
set_option maxHeartbeats 4000000 in
theorem n_lat {l : Launch} {G : GT} {n : Nat} {f : HT} {q b : Nat} {T : List Nat} (hS : NS f q b T) : AM l G yJ0_isLatin1_aae02 (.code yJ0_isLatin1_aae02 cJ0_isLatin1_aae02 1 (some .boolean)) 0 0 0 0 [.ref q] (f) n (rI (nI 1) f n) := by
  refine aw_enter (M := MJ0_isLatin1_aae02) rfl rfl (by decide +kernel) rfl (Nat.le_of_ble_eq_true rfl) ?_
  obtain ⟨B, u, z, h0, h1, hBk, hl9, hsm⟩ := id hS
  show AW l G MJ0_isLatin1_aae02 0 0 0 0 _ n 0 0 0 [(0, .ref q)] [] _ n
  refine aw_gets (v := .int (nI 1)) (List.mem_of_getElem? (i := 0) rfl) trivial sl_J0_38 dJ0_isLatin1_aae02_0 ?_
  refine aw_if_eq_n (by omega) (tgt := 17) dJ0_isLatin1_aae02_3 (by decide) (fun c_1 => by exfalso; omega) (fun c_1 => ?_)
  refine aw_aload_n dJ0_isLatin1_aae02_6 rfl rfl ?_
  refine aw_get (v := .int (nI 0)) fl_J0_15 h0 rfl dJ0_isLatin1_aae02_7 ?_
  refine aw_if_ne_n (by omega) (tgt := 17) dJ0_isLatin1_aae02_10 (by decide) (fun c_2 => by exfalso; omega) (fun c_2 => ?_)
  refine aw_iconst_n 1 dJ0_isLatin1_aae02_13 (by decide) ?_
  refine aw_goto (tgt := 18) dJ0_isLatin1_aae02_14 (by decide) ?_
  exact aw_zret rfl rfl (by decide) (by decide) dJ0_isLatin1_aae02_18 (rI_of (by rfl))
set_option maxHeartbeats 4000000 in
theorem n_ch1 {l : Launch} {G : GT} {n : Nat} {f : HT} {q b : Nat} {T : List Nat} (hS : NS f q b T) {k : Nat} (hk : k < T.length) : AM l G yJ1_charAt_3b067 (.code yJ1_charAt_3b067 cJ1_charAt_3b067 2 (some .char)) 2 120 0 0 [.ref b, .int (nI k)] (f) n (rI (nI (T.getD k 0)) f n) := by
  refine aw_enter (M := MJ1_charAt_3b067) rfl rfl (by decide +kernel) rfl (Nat.le_of_ble_eq_true rfl) ?_
  obtain ⟨B, u, z, h0, h1, hBk, hl9, hsm⟩ := id hS
  show AW l G MJ1_charAt_3b067 2 120 0 0 _ n 0 0 0 [(0, .ref b), (1, .int (nI k))] [] _ n
  refine aw_iload_n dJ1_charAt_3b067_0 rfl rfl ?_
  refine aw_aload_n dJ1_charAt_3b067_1 rfl rfl ?_
  refine aw_alen (N := 0) (x := nilc) (ty := .byte) (v := nI T.length) h1 rfl rfl dJ1_charAt_3b067_2 ?_
  refine aw_sV (as := [Value.int (nI k), Value.int (nI T.length)]) (rest := []) mS_J0_checkIndex_df160 (o_ck0 hk (by omega)) ml_J1_9 dJ1_charAt_3b067_3 rfl rfl (by decide) (Nat.le_of_ble_eq_true rfl) (by decide) ?_
  refine aw_aload_n dJ1_charAt_3b067_6 rfl rfl ?_
  refine aw_iload_n dJ1_charAt_3b067_7 rfl rfl ?_
  refine aw_bald_n (k := k) (v := nI (T.getD k 0)) h1 hk (by omega) (hBk k hk) dJ1_charAt_3b067_8 ?_
  refine aw_sipush_n 255 dJ1_charAt_3b067_9 (by decide) ?_
  refine aw_iand dJ1_charAt_3b067_12 ?_
  refine aw_i2c dJ1_charAt_3b067_13 ?_
  rw [ch_key _ (hsm k hk)]
  exact aw_zret rfl (c128_narrow (hsm k hk)) (by decide) (by decide) dJ1_charAt_3b067_14 (rI_of rfl)
set_option maxHeartbeats 4000000 in
theorem n_ch {l : Launch} {G : GT} {n : Nat} {f : HT} {q b : Nat} {T : List Nat} (hS : NS f q b T) {k : Nat} (hk : k < T.length) : AM l G yJ0_charAt_5068e (.code yJ0_charAt_5068e cJ0_charAt_5068e 2 (some .char)) 3 180 0 0 [.ref q, .int (nI k)] (f) n (rI (nI (T.getD k 0)) f n) := by
  refine aw_enter (M := MJ0_charAt_5068e) rfl rfl (by decide +kernel) rfl (Nat.le_of_ble_eq_true rfl) ?_
  obtain ⟨B, u, z, h0, h1, hBk, hl9, hsm⟩ := id hS
  show AW l G MJ0_charAt_5068e 3 180 0 0 _ n 0 0 0 [(0, .ref q), (1, .int (nI k))] [] _ n
  refine aw_aload_n dJ0_charAt_5068e_0 rfl rfl ?_
  refine aw_cI (as := []) (rest := []) (MV.c mV_J0_isLatin1_aae02) (n_lat hS) ml_J0_492 (RC.w h0 rfl) dJ0_charAt_5068e_1 rfl rfl (by decide) (Nat.le_of_ble_eq_true rfl) (by decide) ?_
  refine aw_if_eq_n (by omega) (tgt := 16) dJ0_charAt_5068e_4 (by decide) (fun c_1 => by exfalso; omega) (fun c_1 => ?_)
  refine aw_aload_n dJ0_charAt_5068e_7 rfl rfl ?_
  refine aw_get (v := .ref b) fl_J0_9 h0 rfl dJ0_charAt_5068e_8 ?_
  refine aw_iload_n dJ0_charAt_5068e_11 rfl rfl ?_
  refine aw_sI (as := [Value.ref b, Value.int (nI k)]) (rest := []) mS_J1_charAt_3b067 (n_ch1 hS hk) ml_J0_495 dJ0_charAt_5068e_12 rfl rfl (by decide) (Nat.le_of_ble_eq_true rfl) (by decide) ?_
  exact aw_zret rfl (c128_narrow (hsm k hk)) (by decide) (by decide) dJ0_charAt_5068e_15 (rI_of rfl)
theorem sa_len {l : Launch} {G : GT} {n : Nat} {f : HT} {q b : Nat} {T : List Nat} (h : SA f q b T) : AM l G yJ0_length_8abf5 (.code yJ0_length_8abf5 cJ0_length_8abf5 1 (some .int)) 1 60 0 0 [.ref q] f n (rI (nI T.length) f n) := by
  rcases h with h | h
  · exact o_len h
  · exact n_len h
theorem sa_ch {l : Launch} {G : GT} {n : Nat} {f : HT} {q b : Nat} {T : List Nat} (h : SA f q b T) {k : Nat} (hk : k < T.length) : AM l G yJ0_charAt_5068e (.code yJ0_charAt_5068e cJ0_charAt_5068e 2 (some .char)) 3 180 0 0 [.ref q, .int (nI k)] f n (rI (nI (T.getD k 0)) f n) := by
  rcases h with h | h
  · exact o_ch h hk
  · exact n_ch h hk
abbrev T144 : List Nat := [102, 114, 105, 99, 116, 105, 111, 110, 32, 57, 59, 116, 105, 99, 107, 32, 52, 48, 59, 116, 105, 99, 107, 32, 55]
theorem os_144 : OS 31 49 T144 := ⟨List.mem_of_getElem? (i := 46) rfl, List.mem_of_getElem? (i := 47) rfl, List.mem_of_getElem? (i := 16) rfl, ⟨_, List.mem_of_getElem? (i := 13) rfl, (by decide +kernel : ∀ k, k < 25 → (Value.int (([102, 114, 105, 99, 116, 105, 111, 110, 32, 57, 59, 116, 105, 99, 107, 32, 52, 48, 59, 116, 105, 99, 107, 32, 55] : List Int32).getD k 0)) = .int (nI (([102, 114, 105, 99, 116, 105, 111, 110, 32, 57, 59, 116, 105, 99, 107, 32, 52, 48, 59, 116, 105, 99, 107, 32, 55] : List Nat).getD k 0)))⟩, by decide, by decide, by decide, by decide +kernel⟩
theorem ls_144 : ((RL, 144, "friction 9;tick 40;tick 7", 31) : String × Nat × String × Nat) ∈ wS := List.mem_of_getElem? (i := 2) rfl
abbrev T156 : List Nat := [116, 105, 99, 107, 32, 49, 59, 116, 105, 99, 107, 32, 53, 48, 49]
theorem os_156 : OS 32 50 T156 := ⟨List.mem_of_getElem? (i := 48) rfl, List.mem_of_getElem? (i := 49) rfl, List.mem_of_getElem? (i := 17) rfl, ⟨_, List.mem_of_getElem? (i := 14) rfl, (by decide +kernel : ∀ k, k < 15 → (Value.int (([116, 105, 99, 107, 32, 49, 59, 116, 105, 99, 107, 32, 53, 48, 49] : List Int32).getD k 0)) = .int (nI (([116, 105, 99, 107, 32, 49, 59, 116, 105, 99, 107, 32, 53, 48, 49] : List Nat).getD k 0)))⟩, by decide, by decide, by decide, by decide +kernel⟩
theorem ls_156 : ((RL, 156, "tick 1;tick 501", 32) : String × Nat × String × Nat) ∈ wS := List.mem_of_getElem? (i := 3) rfl
abbrev T164 : List Nat := [99, 97, 116, 99, 104, 32, 57]
theorem os_164 : OS 33 51 T164 := ⟨List.mem_of_getElem? (i := 50) rfl, List.mem_of_getElem? (i := 51) rfl, List.mem_of_getElem? (i := 18) rfl, ⟨_, List.mem_of_getElem? (i := 15) rfl, (by decide +kernel : ∀ k, k < 7 → (Value.int (([99, 97, 116, 99, 104, 32, 57] : List Int32).getD k 0)) = .int (nI (([99, 97, 116, 99, 104, 32, 57] : List Nat).getD k 0)))⟩, by decide, by decide, by decide, by decide +kernel⟩
theorem ls_164 : ((RL, 164, "catch 9", 33) : String × Nat × String × Nat) ∈ wS := List.mem_of_getElem? (i := 4) rfl
abbrev T166 : List Nat := [99]
theorem os_166 : OS 34 52 T166 := ⟨List.mem_of_getElem? (i := 52) rfl, List.mem_of_getElem? (i := 53) rfl, List.mem_of_getElem? (i := 19) rfl, ⟨_, List.mem_of_getElem? (i := 16) rfl, (by decide +kernel : ∀ k, k < 1 → (Value.int (([99] : List Int32).getD k 0)) = .int (nI (([99] : List Nat).getD k 0)))⟩, by decide, by decide, by decide, by decide +kernel⟩
theorem ls_166 : ((RL, 166, "c", 34) : String × Nat × String × Nat) ∈ wS := List.mem_of_getElem? (i := 5) rfl
abbrev T172 : List Nat := [112, 117, 115, 104, 32, 48]
theorem os_172 : OS 35 53 T172 := ⟨List.mem_of_getElem? (i := 54) rfl, List.mem_of_getElem? (i := 55) rfl, List.mem_of_getElem? (i := 20) rfl, ⟨_, List.mem_of_getElem? (i := 17) rfl, (by decide +kernel : ∀ k, k < 6 → (Value.int (([112, 117, 115, 104, 32, 48] : List Int32).getD k 0)) = .int (nI (([112, 117, 115, 104, 32, 48] : List Nat).getD k 0)))⟩, by decide, by decide, by decide, by decide +kernel⟩
theorem ls_172 : ((RL, 172, "push 0", 35) : String × Nat × String × Nat) ∈ wS := List.mem_of_getElem? (i := 6) rfl
abbrev T174 : List Nat := [104, 97, 110, 103, 32, 49, 50, 51, 52]
theorem os_174 : OS 36 54 T174 := ⟨List.mem_of_getElem? (i := 56) rfl, List.mem_of_getElem? (i := 57) rfl, List.mem_of_getElem? (i := 21) rfl, ⟨_, List.mem_of_getElem? (i := 18) rfl, (by decide +kernel : ∀ k, k < 9 → (Value.int (([104, 97, 110, 103, 32, 49, 50, 51, 52] : List Int32).getD k 0)) = .int (nI (([104, 97, 110, 103, 32, 49, 50, 51, 52] : List Nat).getD k 0)))⟩, by decide, by decide, by decide, by decide +kernel⟩
theorem ls_174 : ((RL, 174, "hang 1234", 36) : String × Nat × String × Nat) ∈ wS := List.mem_of_getElem? (i := 7) rfl
abbrev T176 : List Nat := []
theorem os_176 : OS 37 55 T176 := ⟨List.mem_of_getElem? (i := 58) rfl, List.mem_of_getElem? (i := 59) rfl, List.mem_of_getElem? (i := 22) rfl, ⟨_, List.mem_of_getElem? (i := 19) rfl, (by decide +kernel : ∀ k, k < 0 → (Value.int (([] : List Int32).getD k 0)) = .int (nI (([] : List Nat).getD k 0)))⟩, by decide, by decide, by decide, by decide +kernel⟩
theorem ls_176 : ((RL, 176, "", 37) : String × Nat × String × Nat) ∈ wS := List.mem_of_getElem? (i := 8) rfl
abbrev T178 : List Nat := [99, 117, 116, 32, 48, 59]
theorem os_178 : OS 38 56 T178 := ⟨List.mem_of_getElem? (i := 60) rfl, List.mem_of_getElem? (i := 61) rfl, List.mem_of_getElem? (i := 23) rfl, ⟨_, List.mem_of_getElem? (i := 20) rfl, (by decide +kernel : ∀ k, k < 6 → (Value.int (([99, 117, 116, 32, 48, 59] : List Int32).getD k 0)) = .int (nI (([99, 117, 116, 32, 48, 59] : List Nat).getD k 0)))⟩, by decide, by decide, by decide, by decide +kernel⟩
theorem ls_178 : ((RL, 178, "cut 0;", 38) : String × Nat × String × Nat) ∈ wS := List.mem_of_getElem? (i := 9) rfl
abbrev T180 : List Nat := [99, 120]
theorem os_180 : OS 39 57 T180 := ⟨List.mem_of_getElem? (i := 62) rfl, List.mem_of_getElem? (i := 63) rfl, List.mem_of_getElem? (i := 24) rfl, ⟨_, List.mem_of_getElem? (i := 21) rfl, (by decide +kernel : ∀ k, k < 2 → (Value.int (([99, 120] : List Int32).getD k 0)) = .int (nI (([99, 120] : List Nat).getD k 0)))⟩, by decide, by decide, by decide, by decide +kernel⟩
theorem ls_180 : ((RL, 180, "cx", 39) : String × Nat × String × Nat) ∈ wS := List.mem_of_getElem? (i := 10) rfl
abbrev T182 : List Nat := [108, 101, 103]
theorem os_182 : OS 40 58 T182 := ⟨List.mem_of_getElem? (i := 64) rfl, List.mem_of_getElem? (i := 65) rfl, List.mem_of_getElem? (i := 25) rfl, ⟨_, List.mem_of_getElem? (i := 22) rfl, (by decide +kernel : ∀ k, k < 3 → (Value.int (([108, 101, 103] : List Int32).getD k 0)) = .int (nI (([108, 101, 103] : List Nat).getD k 0)))⟩, by decide, by decide, by decide, by decide +kernel⟩
theorem ls_182 : ((RL, 182, "leg", 40) : String × Nat × String × Nat) ∈ wS := List.mem_of_getElem? (i := 11) rfl
abbrev T184 : List Nat := [99, 117, 116, 32, 49, 50]
theorem os_184 : OS 41 59 T184 := ⟨List.mem_of_getElem? (i := 66) rfl, List.mem_of_getElem? (i := 67) rfl, List.mem_of_getElem? (i := 26) rfl, ⟨_, List.mem_of_getElem? (i := 23) rfl, (by decide +kernel : ∀ k, k < 6 → (Value.int (([99, 117, 116, 32, 49, 50] : List Int32).getD k 0)) = .int (nI (([99, 117, 116, 32, 49, 50] : List Nat).getD k 0)))⟩, by decide, by decide, by decide, by decide +kernel⟩
theorem ls_184 : ((RL, 184, "cut 12", 41) : String × Nat × String × Nat) ∈ wS := List.mem_of_getElem? (i := 12) rfl
abbrev T186 : List Nat := [102, 114, 105, 99, 116, 105, 111, 110, 32, 120]
theorem os_186 : OS 42 60 T186 := ⟨List.mem_of_getElem? (i := 68) rfl, List.mem_of_getElem? (i := 69) rfl, List.mem_of_getElem? (i := 27) rfl, ⟨_, List.mem_of_getElem? (i := 24) rfl, (by decide +kernel : ∀ k, k < 10 → (Value.int (([102, 114, 105, 99, 116, 105, 111, 110, 32, 120] : List Int32).getD k 0)) = .int (nI (([102, 114, 105, 99, 116, 105, 111, 110, 32, 120] : List Nat).getD k 0)))⟩, by decide, by decide, by decide, by decide +kernel⟩
theorem ls_186 : ((RL, 186, "friction x", 42) : String × Nat × String × Nat) ∈ wS := List.mem_of_getElem? (i := 13) rfl
abbrev T188 : List Nat := [122]
theorem os_188 : OS 43 61 T188 := ⟨List.mem_of_getElem? (i := 70) rfl, List.mem_of_getElem? (i := 71) rfl, List.mem_of_getElem? (i := 28) rfl, ⟨_, List.mem_of_getElem? (i := 25) rfl, (by decide +kernel : ∀ k, k < 1 → (Value.int (([122] : List Int32).getD k 0)) = .int (nI (([122] : List Nat).getD k 0)))⟩, by decide, by decide, by decide, by decide +kernel⟩
theorem ls_188 : ((RL, 188, "z", 43) : String × Nat × String × Nat) ∈ wS := List.mem_of_getElem? (i := 14) rfl
abbrev T199 : List Nat := [104, 97, 110, 103, 32, 49, 59, 104, 97, 110, 103, 32, 52, 59, 104, 97, 110, 103, 32, 50, 53, 59, 104, 97, 110, 103, 32, 57, 57, 59, 112, 117, 115, 104, 32, 48, 32]
theorem os_199 : OS 44 62 T199 := ⟨List.mem_of_getElem? (i := 72) rfl, List.mem_of_getElem? (i := 73) rfl, List.mem_of_getElem? (i := 29) rfl, ⟨_, List.mem_of_getElem? (i := 26) rfl, (by decide +kernel : ∀ k, k < 37 → (Value.int (([104, 97, 110, 103, 32, 49, 59, 104, 97, 110, 103, 32, 52, 59, 104, 97, 110, 103, 32, 50, 53, 59, 104, 97, 110, 103, 32, 57, 57, 59, 112, 117, 115, 104, 32, 48, 32] : List Int32).getD k 0)) = .int (nI (([104, 97, 110, 103, 32, 49, 59, 104, 97, 110, 103, 32, 52, 59, 104, 97, 110, 103, 32, 50, 53, 59, 104, 97, 110, 103, 32, 57, 57, 59, 112, 117, 115, 104, 32, 48, 32] : List Nat).getD k 0)))⟩, by decide, by decide, by decide, by decide +kernel⟩
theorem ls_199 : ((RL, 199, "hang 1;hang 4;hang 25;hang 99;push 0 ", 44) : String × Nat × String × Nat) ∈ wS := List.mem_of_getElem? (i := 15) rfl
abbrev T208 : List Nat := [59, 116, 105, 99, 107, 32, 51, 59, 112, 117, 115, 104, 32, 49, 32, 56]
theorem os_208 : OS 45 63 T208 := ⟨List.mem_of_getElem? (i := 74) rfl, List.mem_of_getElem? (i := 75) rfl, List.mem_of_getElem? (i := 30) rfl, ⟨_, List.mem_of_getElem? (i := 27) rfl, (by decide +kernel : ∀ k, k < 16 → (Value.int (([59, 116, 105, 99, 107, 32, 51, 59, 112, 117, 115, 104, 32, 49, 32, 56] : List Int32).getD k 0)) = .int (nI (([59, 116, 105, 99, 107, 32, 51, 59, 112, 117, 115, 104, 32, 49, 32, 56] : List Nat).getD k 0)))⟩, by decide, by decide, by decide, by decide +kernel⟩
theorem ls_208 : ((RL, 208, ";tick 3;push 1 8", 45) : String × Nat × String × Nat) ∈ wS := List.mem_of_getElem? (i := 16) rfl
abbrev T238 : List Nat := [50, 58, 50, 53, 99, 109, 32, 114, 101, 115, 116]
theorem os_238 : OS 46 64 T238 := ⟨List.mem_of_getElem? (i := 76) rfl, List.mem_of_getElem? (i := 77) rfl, List.mem_of_getElem? (i := 31) rfl, ⟨_, List.mem_of_getElem? (i := 28) rfl, (by decide +kernel : ∀ k, k < 11 → (Value.int (([50, 58, 50, 53, 99, 109, 32, 114, 101, 115, 116] : List Int32).getD k 0)) = .int (nI (([50, 58, 50, 53, 99, 109, 32, 114, 101, 115, 116] : List Nat).getD k 0)))⟩, by decide, by decide, by decide, by decide +kernel⟩
theorem ls_238 : ((RL, 238, "2:25cm rest", 46) : String × Nat × String × Nat) ∈ wS := List.mem_of_getElem? (i := 17) rfl
abbrev T244 : List Nat := [48, 58, 49, 99, 109, 32]
theorem os_244 : OS 47 65 T244 := ⟨List.mem_of_getElem? (i := 78) rfl, List.mem_of_getElem? (i := 79) rfl, List.mem_of_getElem? (i := 32) rfl, ⟨_, List.mem_of_getElem? (i := 29) rfl, (by decide +kernel : ∀ k, k < 6 → (Value.int (([48, 58, 49, 99, 109, 32] : List Int32).getD k 0)) = .int (nI (([48, 58, 49, 99, 109, 32] : List Nat).getD k 0)))⟩, by decide, by decide, by decide, by decide +kernel⟩
theorem ls_244 : ((RL, 244, "0:1cm ", 47) : String × Nat × String × Nat) ∈ wS := List.mem_of_getElem? (i := 18) rfl
abbrev T246 : List Nat := [64, 48, 42]
theorem os_246 : OS 48 66 T246 := ⟨List.mem_of_getElem? (i := 80) rfl, List.mem_of_getElem? (i := 81) rfl, List.mem_of_getElem? (i := 33) rfl, ⟨_, List.mem_of_getElem? (i := 30) rfl, (by decide +kernel : ∀ k, k < 3 → (Value.int (([64, 48, 42] : List Int32).getD k 0)) = .int (nI (([64, 48, 42] : List Nat).getD k 0)))⟩, by decide, by decide, by decide, by decide +kernel⟩
theorem ls_246 : ((RL, 246, "@0*", 48) : String × Nat × String × Nat) ∈ wS := List.mem_of_getElem? (i := 19) rfl
