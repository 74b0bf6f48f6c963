section RW4
variable {l : Launch} {G : GT} {M : MT} {fr lo mc ms : Nat} {Post : PT} {n0 nc ns pc : Nat} {L : List (Nat × Value)} {f : HT} {n : Nat}
theorem aw_cI {C9 : String} {y : MethodName} {cc' : ByteArray} {nL' kk ix a fr' lo' mc' ms' : Nat} {ret' : Option FieldType} {as rest st : List Value} {x : Int32} {f2 : HT} {n2 : Nat} (hMV : MVC y cc' nL' ret' kk C9) (hA : AM l G y (.code y cc' nL' ret') fr' lo' mc' ms' (.ref a :: as) f n (rI x f2 n2)) (hl : Cond.methodLink M.1 ix y ∈ Big) (hf : RC f C9 a)
    (hdg : decode M.2.1 pc = .ok (.invokevirtual ix, 3)) (hst : as.reverse ++ .ref a :: rest = st) (hk : as.length = kk) (hR : fr' + 1 ≤ fr ∧ 8 + (nL' + 11) + lo' ≤ lo) (hcat : (rest.map fun v => v.category).sum ≤ 8) (hc : nc + mc' ≤ mc ∧ ns + ms' ≤ ms) (k : AW l G M fr lo mc ms Post n0 (nc + mc') (ns + ms') (pc + 3) L (.int x :: rest) f2 n2) : AW l G M fr lo mc ms Post n0 nc ns pc L st f n := by
  subst hst
  exact aw_crI (cr_VC hMV hA hl hf hdg hk hR hcat hc) sub_app k
theorem aw_cV {C9 : String} {y : MethodName} {cc' : ByteArray} {nL' kk ix a fr' lo' mc' ms' : Nat} {ret' : Option FieldType} {as rest st : List Value} {f2 : HT} {n2 : Nat} (hMV : MVC y cc' nL' ret' kk C9) (hA : AM l G y (.code y cc' nL' ret') fr' lo' mc' ms' (.ref a :: as) f n (rV f2 n2)) (hl : Cond.methodLink M.1 ix y ∈ Big) (hf : RC f C9 a)
    (hdg : decode M.2.1 pc = .ok (.invokevirtual ix, 3)) (hst : as.reverse ++ .ref a :: rest = st) (hk : as.length = kk) (hR : fr' + 1 ≤ fr ∧ 8 + (nL' + 11) + lo' ≤ lo) (hcat : (rest.map fun v => v.category).sum ≤ 8) (hc : nc + mc' ≤ mc ∧ ns + ms' ≤ ms) (k : AW l G M fr lo mc ms Post n0 (nc + mc') (ns + ms') (pc + 3) L (rest) f2 n2) : AW l G M fr lo mc ms Post n0 nc ns pc L st f n := by
  subst hst
  exact aw_crV (cr_VC hMV hA hl hf hdg hk hR hcat hc) sub_app k
theorem aw_cR {C9 : String} {y : MethodName} {cc' : ByteArray} {nL' kk ix a fr' lo' mc' ms' : Nat} {ret' : Option FieldType} {as rest st : List Value} {x : Value} {f2 : HT} {n2 : Nat} (hMV : MVC y cc' nL' ret' kk C9) (hA : AM l G y (.code y cc' nL' ret') fr' lo' mc' ms' (.ref a :: as) f n (rR x f2 n2)) (hl : Cond.methodLink M.1 ix y ∈ Big) (hf : RC f C9 a)
    (hdg : decode M.2.1 pc = .ok (.invokevirtual ix, 3)) (hst : as.reverse ++ .ref a :: rest = st) (hk : as.length = kk) (hR : fr' + 1 ≤ fr ∧ 8 + (nL' + 11) + lo' ≤ lo) (hcat : (rest.map fun v => v.category).sum ≤ 8) (hc : nc + mc' ≤ mc ∧ ns + ms' ≤ ms) (k : AW l G M fr lo mc ms Post n0 (nc + mc') (ns + ms') (pc + 3) L (x :: rest) f2 n2) : AW l G M fr lo mc ms Post n0 nc ns pc L st f n := by
  subst hst
  exact aw_crR (cr_VC hMV hA hl hf hdg hk hR hcat hc) sub_app k
theorem aw_cP {C9 : String} {y : MethodName} {cc' : ByteArray} {nL' kk ix a fr' lo' mc' ms' : Nat} {ret' : Option FieldType} {as rest st : List Value} {P' : PT} (hMV : MVC y cc' nL' ret' kk C9) (hA : AM l G y (.code y cc' nL' ret') fr' lo' mc' ms' (.ref a :: as) f n P') (hl : Cond.methodLink M.1 ix y ∈ Big) (hf : RC f C9 a)
    (hdg : decode M.2.1 pc = .ok (.invokevirtual ix, 3)) (hst : as.reverse ++ .ref a :: rest = st) (hk : as.length = kk) (hR : fr' + 1 ≤ fr ∧ 8 + (nL' + 11) + lo' ≤ lo) (hcat : (rest.map fun v => v.category).sum ≤ 8) (hc : nc + mc' ≤ mc ∧ ns + ms' ≤ ms) (hno : ∀ (E : String) (f' : HT) (n' : Nat), ¬ P' (.inr E) f' n')
    (k : ∀ (r : Option Value) (f' : HT) (n' : Nat), n ≤ n' → P' (.inl r) f' n' → AW l G M fr lo mc ms Post n0 (nc + mc') (ns + ms') (pc + 3) L (r.toList ++ rest) f' n') : AW l G M fr lo mc ms Post n0 nc ns pc L st f n := by
  subst hst
  exact aw_crP (cr_VC hMV hA hl hf hdg hk hR hcat hc) sub_app hno k
end RW4
section RW14
variable {l : Launch} {G : GT} {M : MT} {fr lo mc ms : Nat} {Post : PT} {n0 nc ns pc : Nat} {L : List (Nat × Value)} {S : List Value} {f : HT} {n : Nat}
theorem aw_sioobe {ix : Nat} (hl : Cond.fieldLink M.1 ix "jdk/internal/util/Preconditions" "SIOOBE_FORMATTER" "Ljava/util/function/BiFunction;" ∈ Big) (hdg : decode M.2.1 pc = .ok (.getstatic ix, 3)) (k1 : AW l G M fr lo mc ms Post n0 nc ns (pc + 3) L (.ref 30 :: S) f n) (k2 : AW l G M fr lo mc ms Post n0 nc ns (pc + 3) L (.null :: S) f n) : AW l G M fr lo mc ms Post n0 nc ns pc L S f n := by
  intro p e s m args below meth c C ρ0 ρ H locs ls R
  rcases C.old.2.2.2.2.2.2.2.2.2.2.2 with hz | hz
  · refine va_gets C.hx C.hb hz R.hS C.own (C.ts _ hl) (fun _ h => h) hdg ?_
    have hv : vOK o0 (.ref 30) := (by decide : 30 < 67)
    rw [old_cv R hv]
    exact k1 C (R.pos (old_ok R hv) R.okS)
  · refine va_gets C.hx C.hb hz R.hS C.own (C.ts _ hl) (fun _ h => h) hdg ?_
    exact k2 C (R.pos (v := .null) trivial R.okS)
end RW14
abbrev MJ3_checkIndex_8e157 : MT := (RJ3, cJ3_checkIndex_8e157, 3, (some .int), [], "checkIndex")
set_option maxHeartbeats 4000000 in
theorem o_ck3 {l : Launch} {G : GT} {n : Nat} {f : HT} {k N : Nat} (hk : k < N) (hN : N < 2 ^ 31) : AM l G yJ3_checkIndex_8e157 (.code yJ3_checkIndex_8e157 cJ3_checkIndex_8e157 3 (some .int)) 0 0 0 0 [.int (nI k), .int (nI N), .ref 30] (f) n (rI (nI k) f n) := by
  refine aw_enter (M := MJ3_checkIndex_8e157) rfl rfl (by decide +kernel) rfl (Nat.le_of_ble_eq_true rfl) ?_
  show AW l G MJ3_checkIndex_8e157 0 0 0 0 _ n 0 0 0 [(0, .int (nI k)), (1, .int (nI N)), (2, .ref 30)] [] _ n
  refine aw_iload_n dJ3_checkIndex_8e157_0 rfl rfl ?_
  refine aw_if_lt_n (by omega) (tgt := 9) dJ3_checkIndex_8e157_1 (by decide) ?_
  refine aw_iload_n dJ3_checkIndex_8e157_4 rfl rfl ?_
  refine aw_iload_n dJ3_checkIndex_8e157_5 rfl rfl ?_
  refine aw_icmp_lt_n (by omega) (by omega) (tgt := 16) dJ3_checkIndex_8e157_6 (by decide) (fun c_2 => ?_) (fun c_2 => by exfalso; omega)
  refine aw_iload_n dJ3_checkIndex_8e157_16 rfl rfl ?_
  exact aw_iret rfl (by decide) (by decide) dJ3_checkIndex_8e157_17 (rI_of (by rfl))
set_option maxHeartbeats 4000000 in
theorem o_ck3N {l : Launch} {G : GT} {n : Nat} {f : HT} {k N : Nat} (hk : k < N) (hN : N < 2 ^ 31) : AM l G yJ3_checkIndex_8e157 (.code yJ3_checkIndex_8e157 cJ3_checkIndex_8e157 3 (some .int)) 0 0 0 0 [.int (nI k), .int (nI N), .null] (f) n (rI (nI k) f n) := by
  refine aw_enter (M := MJ3_checkIndex_8e157) rfl rfl (by decide +kernel) rfl (Nat.le_of_ble_eq_true rfl) ?_
  show AW l G MJ3_checkIndex_8e157 0 0 0 0 _ n 0 0 0 [(0, .int (nI k)), (1, .int (nI N)), (2, .null)] [] _ n
  refine aw_iload_n dJ3_checkIndex_8e157_0 rfl rfl ?_
  refine aw_if_lt_n (by omega) (tgt := 9) dJ3_checkIndex_8e157_1 (by decide) ?_
  refine aw_iload_n dJ3_checkIndex_8e157_4 rfl rfl ?_
  refine aw_iload_n dJ3_checkIndex_8e157_5 rfl rfl ?_
  refine aw_icmp_lt_n (by omega) (by omega) (tgt := 16) dJ3_checkIndex_8e157_6 (by decide) (fun c_2 => ?_) (fun c_2 => by exfalso; omega)
  refine aw_iload_n dJ3_checkIndex_8e157_16 rfl rfl ?_
  exact aw_iret rfl (by decide) (by decide) dJ3_checkIndex_8e157_17 (rI_of (by rfl))
abbrev MJ0_checkIndex_df160 : MT := (RJ0, cJ0_checkIndex_df160, 2, none, [], "checkIndex")
set_option maxHeartbeats 4000000 in
theorem o_ck0 {l : Launch} {G : GT} {n : Nat} {f : HT} {k N : Nat} (hk : k < N) (hN : N < 2 ^ 31) : AM l G yJ0_checkIndex_df160 (.code yJ0_checkIndex_df160 cJ0_checkIndex_df160 2 none) 1 60 0 0 [.int (nI k), .int (nI N)] (f) n (rV f n) := by
  refine aw_enter (M := MJ0_checkIndex_df160) rfl rfl (by decide +kernel) rfl (Nat.le_of_ble_eq_true rfl) ?_
  show AW l G MJ0_checkIndex_df160 1 60 0 0 _ n 0 0 0 [(0, .int (nI k)), (1, .int (nI N))] [] _ n
  refine aw_iload_n dJ0_checkIndex_df160_0 rfl rfl ?_
  refine aw_iload_n dJ0_checkIndex_df160_1 rfl rfl ?_
  refine aw_sioobe sl_J0_1053 dJ0_checkIndex_df160_2 ?_ ?_
  · refine aw_sI (as := [Value.int (nI k), Value.int (nI N), Value.ref 30]) (rest := []) mS_J3_checkIndex_8e157 (o_ck3 hk hN) ml_J0_1059 dJ0_checkIndex_df160_5 rfl rfl (by decide) (Nat.le_of_ble_eq_true rfl) (by decide) ?_
    refine aw_pop dJ0_checkIndex_df160_8 rfl ?_
    exact aw_vret rfl (by decide) (by decide) dJ0_checkIndex_df160_9 (rV_of (by rfl))
  · refine aw_sI (as := [Value.int (nI k), Value.int (nI N), Value.null]) (rest := []) mS_J3_checkIndex_8e157 (o_ck3N hk hN) ml_J0_1059 dJ0_checkIndex_df160_5 rfl rfl (by decide) (Nat.le_of_ble_eq_true rfl) (by decide) ?_
    refine aw_pop dJ0_checkIndex_df160_8 rfl ?_
    exact aw_vret rfl (by decide) (by decide) dJ0_checkIndex_df160_9 (rV_of (by rfl))
abbrev MJ0_coder_7d493 : MT := (RJ0, cJ0_coder_7d493, 1, (some .byte), [], "coder")
set_option maxHeartbeats 4000000 in
theorem o_cod8 {l : Launch} {G : GT} {n : Nat} {f : HT} : AM l G yJ0_coder_7d493 (.code yJ0_coder_7d493 cJ0_coder_7d493 1 (some .byte)) 0 0 0 0 [.ref 8] (f) n (rI (nI 0) f n) := by
  refine aw_enter (M := MJ0_coder_7d493) rfl rfl (by decide +kernel) rfl (Nat.le_of_ble_eq_true rfl) ?_
  show AW l G MJ0_coder_7d493 0 0 0 0 _ n 0 0 0 [(0, .ref 8)] [] _ n
  refine aw_gets (v := .int (nI 1)) (List.mem_of_getElem? (i := 0) rfl) trivial sl_J0_38 dJ0_coder_7d493_0 ?_
  refine aw_if_eq_n (by omega) (tgt := 13) dJ0_coder_7d493_3 (by decide) (fun c_1 => by exfalso; omega) (fun c_1 => ?_)
  refine aw_aload_n dJ0_coder_7d493_6 rfl rfl ?_
  refine aw_oget (v := .int (nI 0)) (List.mem_of_getElem? (i := 28) rfl) (by decide) trivial sl_J0_15 dJ0_coder_7d493_7 ?_
  refine aw_goto (tgt := 14) dJ0_coder_7d493_10 (by decide) ?_
  exact aw_zret rfl rfl (by decide) (by decide) dJ0_coder_7d493_14 (rI_of (by rfl))
abbrev MJ0_length_8abf5 : MT := (RJ0, cJ0_length_8abf5, 1, (some .int), [], "length")
set_option maxHeartbeats 4000000 in
theorem o_len8 {l : Launch} {G : GT} {n : Nat} {f : HT} : AM l G yJ0_length_8abf5 (.code yJ0_length_8abf5 cJ0_length_8abf5 1 (some .int)) 1 60 0 0 [.ref 8] (f) n (rI (nI 5) f n) := by
  refine aw_enter (M := MJ0_length_8abf5) rfl rfl (by decide +kernel) rfl (Nat.le_of_ble_eq_true rfl) ?_
  show AW l G MJ0_length_8abf5 1 60 0 0 _ n 0 0 0 [(0, .ref 8)] [] _ n
  refine aw_aload_n dJ0_length_8abf5_0 rfl rfl ?_
  refine aw_oget (v := .ref 17) (List.mem_of_getElem? (i := 29) rfl) (by decide) (show 17 < o0 by decide) sl_J0_9 dJ0_length_8abf5_1 ?_
  refine aw_olen (v := nI 5) (List.mem_of_getElem? (i := 0) rfl) (by decide) rfl dJ0_length_8abf5_4 ?_
  refine aw_aload_n dJ0_length_8abf5_5 rfl rfl ?_
  refine aw_cI (as := []) (rest := [Value.int (nI 5)]) (MV.c mV_J0_coder_7d493) (o_cod8 ) ml_J0_335 (RC.o (List.mem_of_getElem? (i := 7) rfl) (by decide)) dJ0_length_8abf5_6 rfl rfl (by decide) (Nat.le_of_ble_eq_true rfl) (by decide) ?_
  refine aw_shr (a := 5) (k := 0) (by omega) (by omega) dJ0_length_8abf5_9 ?_
  exact aw_iret rfl (by decide) (by decide) dJ0_length_8abf5_10 (rI_of (by rfl))
abbrev MJ0_isLatin1_aae02 : MT := (RJ0, cJ0_isLatin1_aae02, 1, (some .boolean), [], "isLatin1")
set_option maxHeartbeats 4000000 in
theorem o_lat8 {l : Launch} {G : GT} {n : Nat} {f : HT} : AM l G yJ0_isLatin1_aae02 (.code yJ0_isLatin1_aae02 cJ0_isLatin1_aae02 1 (some .boolean)) 0 0 0 0 [.ref 8] (f) n (rI (nI 1) f n) := by
  refine aw_enter (M := MJ0_isLatin1_aae02) rfl rfl (by decide +kernel) rfl (Nat.le_of_ble_eq_true rfl) ?_
  show AW l G MJ0_isLatin1_aae02 0 0 0 0 _ n 0 0 0 [(0, .ref 8)] [] _ n
  refine aw_gets (v := .int (nI 1)) (List.mem_of_getElem? (i := 0) rfl) trivial sl_J0_38 dJ0_isLatin1_aae02_0 ?_
  refine aw_if_eq_n (by omega) (tgt := 17) dJ0_isLatin1_aae02_3 (by decide) (fun c_1 => by exfalso; omega) (fun c_1 => ?_)
  refine aw_aload_n dJ0_isLatin1_aae02_6 rfl rfl ?_
  refine aw_oget (v := .int (nI 0)) (List.mem_of_getElem? (i := 28) rfl) (by decide) trivial sl_J0_15 dJ0_isLatin1_aae02_7 ?_
  refine aw_if_ne_n (by omega) (tgt := 17) dJ0_isLatin1_aae02_10 (by decide) (fun c_2 => by exfalso; omega) (fun c_2 => ?_)
  refine aw_iconst_n 1 dJ0_isLatin1_aae02_13 (by decide) ?_
  refine aw_goto (tgt := 18) dJ0_isLatin1_aae02_14 (by decide) ?_
  exact aw_zret rfl rfl (by decide) (by decide) dJ0_isLatin1_aae02_18 (rI_of (by rfl))
abbrev MJ1_charAt_3b067 : MT := (RJ1, cJ1_charAt_3b067, 2, (some .char), [], "charAt")
set_option maxHeartbeats 4000000 in
theorem o_ch18 {l : Launch} {G : GT} {n : Nat} {f : HT} {k : Nat} (hk : k < 5) : AM l G yJ1_charAt_3b067 (.code yJ1_charAt_3b067 cJ1_charAt_3b067 2 (some .char)) 2 120 0 0 [.ref 17, .int (nI k)] (f) n (rI (nI (([104, 97, 110, 103, 32] : List Nat).getD k 0)) f n) := by
  refine aw_enter (M := MJ1_charAt_3b067) rfl rfl (by decide +kernel) rfl (Nat.le_of_ble_eq_true rfl) ?_
  show AW l G MJ1_charAt_3b067 2 120 0 0 _ n 0 0 0 [(0, .ref 17), (1, .int (nI k))] [] _ n
  refine aw_iload_n dJ1_charAt_3b067_0 rfl rfl ?_
  refine aw_aload_n dJ1_charAt_3b067_1 rfl rfl ?_
  refine aw_olen (v := nI 5) (List.mem_of_getElem? (i := 0) rfl) (by decide) rfl dJ1_charAt_3b067_2 ?_
  refine aw_sV (as := [Value.int (nI k), Value.int (nI 5)]) (rest := []) mS_J0_checkIndex_df160 (o_ck0 hk (by decide)) ml_J1_9 dJ1_charAt_3b067_3 rfl rfl (by decide) (Nat.le_of_ble_eq_true rfl) (by decide) ?_
  refine aw_aload_n dJ1_charAt_3b067_6 rfl rfl ?_
  refine aw_iload_n dJ1_charAt_3b067_7 rfl rfl ?_
  refine aw_obald (v := .int (([104, 97, 110, 103, 32] : List Int32).getD k 0)) (List.mem_of_getElem? (i := 0) rfl) (by decide) (vp_in_nI (by omega) (by decide)) (by show Value.int (List.getD _ (nI k).toNatClampNeg 0) = _; rw [nIc (by omega)]) trivial dJ1_charAt_3b067_8 ?_
  refine aw_sipush_n 255 dJ1_charAt_3b067_9 (by decide) ?_
  refine aw_iand dJ1_charAt_3b067_12 ?_
  refine aw_i2c dJ1_charAt_3b067_13 ?_
  have key : ∀ k, k < 5 → ((([104, 97, 110, 103, 32] : List Int32).getD k 0) &&& nI 255).toUInt32 % 65536 = (((([104, 97, 110, 103, 32] : List Int32).getD k 0) &&& nI 255).toUInt32 % 65536) ∧ (((([104, 97, 110, 103, 32] : List Int32).getD k 0) &&& nI 255).toUInt32 % 65536).toInt32 = nI (([104, 97, 110, 103, 32] : List Nat).getD k 0) ∧ ([104, 97, 110, 103, 32] : List Nat).getD k 0 < 128 := by decide +kernel
  obtain ⟨-, k1, k2⟩ := key k hk
  rw [k1]
  exact aw_zret rfl (c128_narrow k2) (by decide) (by decide) dJ1_charAt_3b067_14 (rI_of rfl)
abbrev MJ0_charAt_5068e : MT := (RJ0, cJ0_charAt_5068e, 2, (some .char), [], "charAt")
set_option maxHeartbeats 4000000 in
theorem o_ch8 {l : Launch} {G : GT} {n : Nat} {f : HT} {k : Nat} (hk : k < 5) : AM l G yJ0_charAt_5068e (.code yJ0_charAt_5068e cJ0_charAt_5068e 2 (some .char)) 3 180 0 0 [.ref 8, .int (nI k)] (f) n (rI (nI (([104, 97, 110, 103, 32] : List Nat).getD k 0)) f n) := by
  refine aw_enter (M := MJ0_charAt_5068e) rfl rfl (by decide +kernel) rfl (Nat.le_of_ble_eq_true rfl) ?_
  show AW l G MJ0_charAt_5068e 3 180 0 0 _ n 0 0 0 [(0, .ref 8), (1, .int (nI k))] [] _ n
  refine aw_aload_n dJ0_charAt_5068e_0 rfl rfl ?_
  refine aw_cI (as := []) (rest := []) (MV.c mV_J0_isLatin1_aae02) (o_lat8 ) ml_J0_492 (RC.o (List.mem_of_getElem? (i := 7) rfl) (by decide)) dJ0_charAt_5068e_1 rfl rfl (by decide) (Nat.le_of_ble_eq_true rfl) (by decide) ?_
  refine aw_if_eq_n (by omega) (tgt := 16) dJ0_charAt_5068e_4 (by decide) (fun c_1 => by exfalso; omega) (fun c_1 => ?_)
  refine aw_aload_n dJ0_charAt_5068e_7 rfl rfl ?_
  refine aw_oget (v := .ref 17) (List.mem_of_getElem? (i := 29) rfl) (by decide) (show 17 < o0 by decide) sl_J0_9 dJ0_charAt_5068e_8 ?_
  refine aw_iload_n dJ0_charAt_5068e_11 rfl rfl ?_
  refine aw_sI (as := [Value.ref 17, Value.int (nI k)]) (rest := []) mS_J1_charAt_3b067 (o_ch18 hk) ml_J0_495 dJ0_charAt_5068e_12 rfl rfl (by decide) (Nat.le_of_ble_eq_true rfl) (by decide) ?_
  have key : ∀ k, k < 5 → ([104, 97, 110, 103, 32] : List Nat).getD k 0 < 128 := by decide +kernel
  exact aw_zret rfl (c128_narrow (key k hk)) (by decide) (by decide) dJ0_charAt_5068e_15 (rI_of rfl)
set_option maxHeartbeats 4000000 in
theorem o_cod9 {l : Launch} {G : GT} {n : Nat} {f : HT} : AM l G yJ0_coder_7d493 (.code yJ0_coder_7d493 cJ0_coder_7d493 1 (some .byte)) 0 0 0 0 [.ref 9] (f) n (rI (nI 0) f n) := by
  refine aw_enter (M := MJ0_coder_7d493) rfl rfl (by decide +kernel) rfl (Nat.le_of_ble_eq_true rfl) ?_
  show AW l G MJ0_coder_7d493 0 0 0 0 _ n 0 0 0 [(0, .ref 9)] [] _ n
  refine aw_gets (v := .int (nI 1)) (List.mem_of_getElem? (i := 0) rfl) trivial sl_J0_38 dJ0_coder_7d493_0 ?_
  refine aw_if_eq_n (by omega) (tgt := 13) dJ0_coder_7d493_3 (by decide) (fun c_1 => by exfalso; omega) (fun c_1 => ?_)
  refine aw_aload_n dJ0_coder_7d493_6 rfl rfl ?_
  refine aw_oget (v := .int (nI 0)) (List.mem_of_getElem? (i := 30) rfl) (by decide) trivial sl_J0_15 dJ0_coder_7d493_7 ?_
  refine aw_goto (tgt := 14) dJ0_coder_7d493_10 (by decide) ?_
  exact aw_zret rfl rfl (by decide) (by decide) dJ0_coder_7d493_14 (rI_of (by rfl))
set_option maxHeartbeats 4000000 in
theorem o_len9 {l : Launch} {G : GT} {n : Nat} {f : HT} : AM l G yJ0_length_8abf5 (.code yJ0_length_8abf5 cJ0_length_8abf5 1 (some .int)) 1 60 0 0 [.ref 9] (f) n (rI (nI 5) f n) := by
  refine aw_enter (M := MJ0_length_8abf5) rfl rfl (by decide +kernel) rfl (Nat.le_of_ble_eq_true rfl) ?_
  show AW l G MJ0_length_8abf5 1 60 0 0 _ n 0 0 0 [(0, .ref 9)] [] _ n
  refine aw_aload_n dJ0_length_8abf5_0 rfl rfl ?_
  refine aw_oget (v := .ref 18) (List.mem_of_getElem? (i := 31) rfl) (by decide) (show 18 < o0 by decide) sl_J0_9 dJ0_length_8abf5_1 ?_
  refine aw_olen (v := nI 5) (List.mem_of_getElem? (i := 1) rfl) (by decide) rfl dJ0_length_8abf5_4 ?_
  refine aw_aload_n dJ0_length_8abf5_5 rfl rfl ?_
  refine aw_cI (as := []) (rest := [Value.int (nI 5)]) (MV.c mV_J0_coder_7d493) (o_cod9 ) ml_J0_335 (RC.o (List.mem_of_getElem? (i := 8) rfl) (by decide)) dJ0_length_8abf5_6 rfl rfl (by decide) (Nat.le_of_ble_eq_true rfl) (by decide) ?_
  refine aw_shr (a := 5) (k := 0) (by omega) (by omega) dJ0_length_8abf5_9 ?_
  exact aw_iret rfl (by decide) (by decide) dJ0_length_8abf5_10 (rI_of (by rfl))
set_option maxHeartbeats 4000000 in
theorem o_lat9 {l : Launch} {G : GT} {n : Nat} {f : HT} : AM l G yJ0_isLatin1_aae02 (.code yJ0_isLatin1_aae02 cJ0_isLatin1_aae02 1 (some .boolean)) 0 0 0 0 [.ref 9] (f) n (rI (nI 1) f n) := by
  refine aw_enter (M := MJ0_isLatin1_aae02) rfl rfl (by decide +kernel) rfl (Nat.le_of_ble_eq_true rfl) ?_
  show AW l G MJ0_isLatin1_aae02 0 0 0 0 _ n 0 0 0 [(0, .ref 9)] [] _ n
  refine aw_gets (v := .int (nI 1)) (List.mem_of_getElem? (i := 0) rfl) trivial sl_J0_38 dJ0_isLatin1_aae02_0 ?_
  refine aw_if_eq_n (by omega) (tgt := 17) dJ0_isLatin1_aae02_3 (by decide) (fun c_1 => by exfalso; omega) (fun c_1 => ?_)
  refine aw_aload_n dJ0_isLatin1_aae02_6 rfl rfl ?_
  refine aw_oget (v := .int (nI 0)) (List.mem_of_getElem? (i := 30) rfl) (by decide) trivial sl_J0_15 dJ0_isLatin1_aae02_7 ?_
  refine aw_if_ne_n (by omega) (tgt := 17) dJ0_isLatin1_aae02_10 (by decide) (fun c_2 => by exfalso; omega) (fun c_2 => ?_)
  refine aw_iconst_n 1 dJ0_isLatin1_aae02_13 (by decide) ?_
  refine aw_goto (tgt := 18) dJ0_isLatin1_aae02_14 (by decide) ?_
  exact aw_zret rfl rfl (by decide) (by decide) dJ0_isLatin1_aae02_18 (rI_of (by rfl))
set_option maxHeartbeats 4000000 in
theorem o_ch19 {l : Launch} {G : GT} {n : Nat} {f : HT} {k : Nat} (hk : k < 5) : AM l G yJ1_charAt_3b067 (.code yJ1_charAt_3b067 cJ1_charAt_3b067 2 (some .char)) 2 120 0 0 [.ref 18, .int (nI k)] (f) n (rI (nI (([112, 117, 115, 104, 32] : List Nat).getD k 0)) f n) := by
  refine aw_enter (M := MJ1_charAt_3b067) rfl rfl (by decide +kernel) rfl (Nat.le_of_ble_eq_true rfl) ?_
  show AW l G MJ1_charAt_3b067 2 120 0 0 _ n 0 0 0 [(0, .ref 18), (1, .int (nI k))] [] _ n
  refine aw_iload_n dJ1_charAt_3b067_0 rfl rfl ?_
  refine aw_aload_n dJ1_charAt_3b067_1 rfl rfl ?_
  refine aw_olen (v := nI 5) (List.mem_of_getElem? (i := 1) rfl) (by decide) rfl dJ1_charAt_3b067_2 ?_
  refine aw_sV (as := [Value.int (nI k), Value.int (nI 5)]) (rest := []) mS_J0_checkIndex_df160 (o_ck0 hk (by decide)) ml_J1_9 dJ1_charAt_3b067_3 rfl rfl (by decide) (Nat.le_of_ble_eq_true rfl) (by decide) ?_
  refine aw_aload_n dJ1_charAt_3b067_6 rfl rfl ?_
  refine aw_iload_n dJ1_charAt_3b067_7 rfl rfl ?_
  refine aw_obald (v := .int (([112, 117, 115, 104, 32] : List Int32).getD k 0)) (List.mem_of_getElem? (i := 1) rfl) (by decide) (vp_in_nI (by omega) (by decide)) (by show Value.int (List.getD _ (nI k).toNatClampNeg 0) = _; rw [nIc (by omega)]) trivial dJ1_charAt_3b067_8 ?_
  refine aw_sipush_n 255 dJ1_charAt_3b067_9 (by decide) ?_
  refine aw_iand dJ1_charAt_3b067_12 ?_
  refine aw_i2c dJ1_charAt_3b067_13 ?_
  have key : ∀ k, k < 5 → ((([112, 117, 115, 104, 32] : List Int32).getD k 0) &&& nI 255).toUInt32 % 65536 = (((([112, 117, 115, 104, 32] : List Int32).getD k 0) &&& nI 255).toUInt32 % 65536) ∧ (((([112, 117, 115, 104, 32] : List Int32).getD k 0) &&& nI 255).toUInt32 % 65536).toInt32 = nI (([112, 117, 115, 104, 32] : List Nat).getD k 0) ∧ ([112, 117, 115, 104, 32] : List Nat).getD k 0 < 128 := by decide +kernel
  obtain ⟨-, k1, k2⟩ := key k hk
  rw [k1]
  exact aw_zret rfl (c128_narrow k2) (by decide) (by decide) dJ1_charAt_3b067_14 (rI_of rfl)
set_option maxHeartbeats 4000000 in
theorem o_ch9 {l : Launch} {G : GT} {n : Nat} {f : HT} {k : Nat} (hk : k < 5) : AM l G yJ0_charAt_5068e (.code yJ0_charAt_5068e cJ0_charAt_5068e 2 (some .char)) 3 180 0 0 [.ref 9, .int (nI k)] (f) n (rI (nI (([112, 117, 115, 104, 32] : List Nat).getD k 0)) f n) := by
  refine aw_enter (M := MJ0_charAt_5068e) rfl rfl (by decide +kernel) rfl (Nat.le_of_ble_eq_true rfl) ?_
  show AW l G MJ0_charAt_5068e 3 180 0 0 _ n 0 0 0 [(0, .ref 9), (1, .int (nI k))] [] _ n
  refine aw_aload_n dJ0_charAt_5068e_0 rfl rfl ?_
  refine aw_cI (as := []) (rest := []) (MV.c mV_J0_isLatin1_aae02) (o_lat9 ) ml_J0_492 (RC.o (List.mem_of_getElem? (i := 8) rfl) (by decide)) dJ0_charAt_5068e_1 rfl rfl (by decide) (Nat.le_of_ble_eq_true rfl) (by decide) ?_
  refine aw_if_eq_n (by omega) (tgt := 16) dJ0_charAt_5068e_4 (by decide) (fun c_1 => by exfalso; omega) (fun c_1 => ?_)
  refine aw_aload_n dJ0_charAt_5068e_7 rfl rfl ?_
  refine aw_oget (v := .ref 18) (List.mem_of_getElem? (i := 31) rfl) (by decide) (show 18 < o0 by decide) sl_J0_9 dJ0_charAt_5068e_8 ?_
  refine aw_iload_n dJ0_charAt_5068e_11 rfl rfl ?_
  refine aw_sI (as := [Value.ref 18, Value.int (nI k)]) (rest := []) mS_J1_charAt_3b067 (o_ch19 hk) ml_J0_495 dJ0_charAt_5068e_12 rfl rfl (by decide) (Nat.le_of_ble_eq_true rfl) (by decide) ?_
  have key : ∀ k, k < 5 → ([112, 117, 115, 104, 32] : List Nat).getD k 0 < 128 := by decide +kernel
  exact aw_zret rfl (c128_narrow (key k hk)) (by decide) (by decide) dJ0_charAt_5068e_15 (rI_of rfl)
set_option maxHeartbeats 4000000 in
theorem o_cod10 {l : Launch} {G : GT} {n : Nat} {f : HT} : AM l G yJ0_coder_7d493 (.code yJ0_coder_7d493 cJ0_coder_7d493 1 (some .byte)) 0 0 0 0 [.ref 10] (f) n (rI (nI 0) f n) := by
  refine aw_enter (M := MJ0_coder_7d493) rfl rfl (by decide +kernel) rfl (Nat.le_of_ble_eq_true rfl) ?_
  show AW l G MJ0_coder_7d493 0 0 0 0 _ n 0 0 0 [(0, .ref 10)] [] _ n
  refine aw_gets (v := .int (nI 1)) (List.mem_of_getElem? (i := 0) rfl) trivial sl_J0_38 dJ0_coder_7d493_0 ?_
  refine aw_if_eq_n (by omega) (tgt := 13) dJ0_coder_7d493_3 (by decide) (fun c_1 => by exfalso; omega) (fun c_1 => ?_)
  refine aw_aload_n dJ0_coder_7d493_6 rfl rfl ?_
  refine aw_oget (v := .int (nI 0)) (List.mem_of_getElem? (i := 32) rfl) (by decide) trivial sl_J0_15 dJ0_coder_7d493_7 ?_
  refine aw_goto (tgt := 14) dJ0_coder_7d493_10 (by decide) ?_
  exact aw_zret rfl rfl (by decide) (by decide) dJ0_coder_7d493_14 (rI_of (by rfl))
set_option maxHeartbeats 4000000 in
theorem o_len10 {l : Launch} {G : GT} {n : Nat} {f : HT} : AM l G yJ0_length_8abf5 (.code yJ0_length_8abf5 cJ0_length_8abf5 1 (some .int)) 1 60 0 0 [.ref 10] (f) n (rI (nI 6) f n) := by
  refine aw_enter (M := MJ0_length_8abf5) rfl rfl (by decide +kernel) rfl (Nat.le_of_ble_eq_true rfl) ?_
  show AW l G MJ0_length_8abf5 1 60 0 0 _ n 0 0 0 [(0, .ref 10)] [] _ n
  refine aw_aload_n dJ0_length_8abf5_0 rfl rfl ?_
  refine aw_oget (v := .ref 19) (List.mem_of_getElem? (i := 33) rfl) (by decide) (show 19 < o0 by decide) sl_J0_9 dJ0_length_8abf5_1 ?_
  refine aw_olen (v := nI 6) (List.mem_of_getElem? (i := 2) rfl) (by decide) rfl dJ0_length_8abf5_4 ?_
  refine aw_aload_n dJ0_length_8abf5_5 rfl rfl ?_
  refine aw_cI (as := []) (rest := [Value.int (nI 6)]) (MV.c mV_J0_coder_7d493) (o_cod10 ) ml_J0_335 (RC.o (List.mem_of_getElem? (i := 9) rfl) (by decide)) dJ0_length_8abf5_6 rfl rfl (by decide) (Nat.le_of_ble_eq_true rfl) (by decide) ?_
  refine aw_shr (a := 6) (k := 0) (by omega) (by omega) dJ0_length_8abf5_9 ?_
  exact aw_iret rfl (by decide) (by decide) dJ0_length_8abf5_10 (rI_of (by rfl))
set_option maxHeartbeats 4000000 in
theorem o_lat10 {l : Launch} {G : GT} {n : Nat} {f : HT} : AM l G yJ0_isLatin1_aae02 (.code yJ0_isLatin1_aae02 cJ0_isLatin1_aae02 1 (some .boolean)) 0 0 0 0 [.ref 10] (f) n (rI (nI 1) f n) := by
  refine aw_enter (M := MJ0_isLatin1_aae02) rfl rfl (by decide +kernel) rfl (Nat.le_of_ble_eq_true rfl) ?_
  show AW l G MJ0_isLatin1_aae02 0 0 0 0 _ n 0 0 0 [(0, .ref 10)] [] _ n
  refine aw_gets (v := .int (nI 1)) (List.mem_of_getElem? (i := 0) rfl) trivial sl_J0_38 dJ0_isLatin1_aae02_0 ?_
  refine aw_if_eq_n (by omega) (tgt := 17) dJ0_isLatin1_aae02_3 (by decide) (fun c_1 => by exfalso; omega) (fun c_1 => ?_)
  refine aw_aload_n dJ0_isLatin1_aae02_6 rfl rfl ?_
  refine aw_oget (v := .int (nI 0)) (List.mem_of_getElem? (i := 32) rfl) (by decide) trivial sl_J0_15 dJ0_isLatin1_aae02_7 ?_
  refine aw_if_ne_n (by omega) (tgt := 17) dJ0_isLatin1_aae02_10 (by decide) (fun c_2 => by exfalso; omega) (fun c_2 => ?_)
  refine aw_iconst_n 1 dJ0_isLatin1_aae02_13 (by decide) ?_
  refine aw_goto (tgt := 18) dJ0_isLatin1_aae02_14 (by decide) ?_
  exact aw_zret rfl rfl (by decide) (by decide) dJ0_isLatin1_aae02_18 (rI_of (by rfl))
set_option maxHeartbeats 4000000 in
theorem o_ch110 {l : Launch} {G : GT} {n : Nat} {f : HT} {k : Nat} (hk : k < 6) : AM l G yJ1_charAt_3b067 (.code yJ1_charAt_3b067 cJ1_charAt_3b067 2 (some .char)) 2 120 0 0 [.ref 19, .int (nI k)] (f) n (rI (nI (([99, 97, 116, 99, 104, 32] : List Nat).getD k 0)) f n) := by
  refine aw_enter (M := MJ1_charAt_3b067) rfl rfl (by decide +kernel) rfl (Nat.le_of_ble_eq_true rfl) ?_
  show AW l G MJ1_charAt_3b067 2 120 0 0 _ n 0 0 0 [(0, .ref 19), (1, .int (nI k))] [] _ n
  refine aw_iload_n dJ1_charAt_3b067_0 rfl rfl ?_
  refine aw_aload_n dJ1_charAt_3b067_1 rfl rfl ?_
  refine aw_olen (v := nI 6) (List.mem_of_getElem? (i := 2) rfl) (by decide) rfl dJ1_charAt_3b067_2 ?_
  refine aw_sV (as := [Value.int (nI k), Value.int (nI 6)]) (rest := []) mS_J0_checkIndex_df160 (o_ck0 hk (by decide)) ml_J1_9 dJ1_charAt_3b067_3 rfl rfl (by decide) (Nat.le_of_ble_eq_true rfl) (by decide) ?_
  refine aw_aload_n dJ1_charAt_3b067_6 rfl rfl ?_
  refine aw_iload_n dJ1_charAt_3b067_7 rfl rfl ?_
  refine aw_obald (v := .int (([99, 97, 116, 99, 104, 32] : List Int32).getD k 0)) (List.mem_of_getElem? (i := 2) rfl) (by decide) (vp_in_nI (by omega) (by decide)) (by show Value.int (List.getD _ (nI k).toNatClampNeg 0) = _; rw [nIc (by omega)]) trivial dJ1_charAt_3b067_8 ?_
  refine aw_sipush_n 255 dJ1_charAt_3b067_9 (by decide) ?_
  refine aw_iand dJ1_charAt_3b067_12 ?_
  refine aw_i2c dJ1_charAt_3b067_13 ?_
  have key : ∀ k, k < 6 → ((([99, 97, 116, 99, 104, 32] : List Int32).getD k 0) &&& nI 255).toUInt32 % 65536 = (((([99, 97, 116, 99, 104, 32] : List Int32).getD k 0) &&& nI 255).toUInt32 % 65536) ∧ (((([99, 97, 116, 99, 104, 32] : List Int32).getD k 0) &&& nI 255).toUInt32 % 65536).toInt32 = nI (([99, 97, 116, 99, 104, 32] : List Nat).getD k 0) ∧ ([99, 97, 116, 99, 104, 32] : List Nat).getD k 0 < 128 := by decide +kernel
  obtain ⟨-, k1, k2⟩ := key k hk
  rw [k1]
  exact aw_zret rfl (c128_narrow k2) (by decide) (by decide) dJ1_charAt_3b067_14 (rI_of rfl)
set_option maxHeartbeats 4000000 in
theorem o_ch10 {l : Launch} {G : GT} {n : Nat} {f : HT} {k : Nat} (hk : k < 6) : AM l G yJ0_charAt_5068e (.code yJ0_charAt_5068e cJ0_charAt_5068e 2 (some .char)) 3 180 0 0 [.ref 10, .int (nI k)] (f) n (rI (nI (([99, 97, 116, 99, 104, 32] : List Nat).getD k 0)) f n) := by
  refine aw_enter (M := MJ0_charAt_5068e) rfl rfl (by decide +kernel) rfl (Nat.le_of_ble_eq_true rfl) ?_
  show AW l G MJ0_charAt_5068e 3 180 0 0 _ n 0 0 0 [(0, .ref 10), (1, .int (nI k))] [] _ n
  refine aw_aload_n dJ0_charAt_5068e_0 rfl rfl ?_
  refine aw_cI (as := []) (rest := []) (MV.c mV_J0_isLatin1_aae02) (o_lat10 ) ml_J0_492 (RC.o (List.mem_of_getElem? (i := 9) rfl) (by decide)) dJ0_charAt_5068e_1 rfl rfl (by decide) (Nat.le_of_ble_eq_true rfl) (by decide) ?_
  refine aw_if_eq_n (by omega) (tgt := 16) dJ0_charAt_5068e_4 (by decide) (fun c_1 => by exfalso; omega) (fun c_1 => ?_)
  refine aw_aload_n dJ0_charAt_5068e_7 rfl rfl ?_
  refine aw_oget (v := .ref 19) (List.mem_of_getElem? (i := 33) rfl) (by decide) (show 19 < o0 by decide) sl_J0_9 dJ0_charAt_5068e_8 ?_
  refine aw_iload_n dJ0_charAt_5068e_11 rfl rfl ?_
  refine aw_sI (as := [Value.ref 19, Value.int (nI k)]) (rest := []) mS_J1_charAt_3b067 (o_ch110 hk) ml_J0_495 dJ0_charAt_5068e_12 rfl rfl (by decide) (Nat.le_of_ble_eq_true rfl) (by decide) ?_
  have key : ∀ k, k < 6 → ([99, 97, 116, 99, 104, 32] : List Nat).getD k 0 < 128 := by decide +kernel
  exact aw_zret rfl (c128_narrow (key k hk)) (by decide) (by decide) dJ0_charAt_5068e_15 (rI_of rfl)
set_option maxHeartbeats 4000000 in
theorem o_cod11 {l : Launch} {G : GT} {n : Nat} {f : HT} : AM l G yJ0_coder_7d493 (.code yJ0_coder_7d493 cJ0_coder_7d493 1 (some .byte)) 0 0 0 0 [.ref 11] (f) n (rI (nI 0) f n) := by
  refine aw_enter (M := MJ0_coder_7d493) rfl rfl (by decide +kernel) rfl (Nat.le_of_ble_eq_true rfl) ?_
  show AW l G MJ0_coder_7d493 0 0 0 0 _ n 0 0 0 [(0, .ref 11)] [] _ n
  refine aw_gets (v := .int (nI 1)) (List.mem_of_getElem? (i := 0) rfl) trivial sl_J0_38 dJ0_coder_7d493_0 ?_
  refine aw_if_eq_n (by omega) (tgt := 13) dJ0_coder_7d493_3 (by decide) (fun c_1 => by exfalso; omega) (fun c_1 => ?_)
  refine aw_aload_n dJ0_coder_7d493_6 rfl rfl ?_
  refine aw_oget (v := .int (nI 0)) (List.mem_of_getElem? (i := 34) rfl) (by decide) trivial sl_J0_15 dJ0_coder_7d493_7 ?_
  refine aw_goto (tgt := 14) dJ0_coder_7d493_10 (by decide) ?_
  exact aw_zret rfl rfl (by decide) (by decide) dJ0_coder_7d493_14 (rI_of (by rfl))
set_option maxHeartbeats 4000000 in
theorem o_len11 {l : Launch} {G : GT} {n : Nat} {f : HT} : AM l G yJ0_length_8abf5 (.code yJ0_length_8abf5 cJ0_length_8abf5 1 (some .int)) 1 60 0 0 [.ref 11] (f) n (rI (nI 9) f n) := by
  refine aw_enter (M := MJ0_length_8abf5) rfl rfl (by decide +kernel) rfl (Nat.le_of_ble_eq_true rfl) ?_
  show AW l G MJ0_length_8abf5 1 60 0 0 _ n 0 0 0 [(0, .ref 11)] [] _ n
  refine aw_aload_n dJ0_length_8abf5_0 rfl rfl ?_
  refine aw_oget (v := .ref 20) (List.mem_of_getElem? (i := 35) rfl) (by decide) (show 20 < o0 by decide) sl_J0_9 dJ0_length_8abf5_1 ?_
  refine aw_olen (v := nI 9) (List.mem_of_getElem? (i := 3) rfl) (by decide) rfl dJ0_length_8abf5_4 ?_
  refine aw_aload_n dJ0_length_8abf5_5 rfl rfl ?_
  refine aw_cI (as := []) (rest := [Value.int (nI 9)]) (MV.c mV_J0_coder_7d493) (o_cod11 ) ml_J0_335 (RC.o (List.mem_of_getElem? (i := 10) rfl) (by decide)) dJ0_length_8abf5_6 rfl rfl (by decide) (Nat.le_of_ble_eq_true rfl) (by decide) ?_
  refine aw_shr (a := 9) (k := 0) (by omega) (by omega) dJ0_length_8abf5_9 ?_
  exact aw_iret rfl (by decide) (by decide) dJ0_length_8abf5_10 (rI_of (by rfl))
set_option maxHeartbeats 4000000 in
theorem o_lat11 {l : Launch} {G : GT} {n : Nat} {f : HT} : AM l G yJ0_isLatin1_aae02 (.code yJ0_isLatin1_aae02 cJ0_isLatin1_aae02 1 (some .boolean)) 0 0 0 0 [.ref 11] (f) n (rI (nI 1) f n) := by
  refine aw_enter (M := MJ0_isLatin1_aae02) rfl rfl (by decide +kernel) rfl (Nat.le_of_ble_eq_true rfl) ?_
  show AW l G MJ0_isLatin1_aae02 0 0 0 0 _ n 0 0 0 [(0, .ref 11)] [] _ n
  refine aw_gets (v := .int (nI 1)) (List.mem_of_getElem? (i := 0) rfl) trivial sl_J0_38 dJ0_isLatin1_aae02_0 ?_
  refine aw_if_eq_n (by omega) (tgt := 17) dJ0_isLatin1_aae02_3 (by decide) (fun c_1 => by exfalso; omega) (fun c_1 => ?_)
  refine aw_aload_n dJ0_isLatin1_aae02_6 rfl rfl ?_
  refine aw_oget (v := .int (nI 0)) (List.mem_of_getElem? (i := 34) rfl) (by decide) trivial sl_J0_15 dJ0_isLatin1_aae02_7 ?_
  refine aw_if_ne_n (by omega) (tgt := 17) dJ0_isLatin1_aae02_10 (by decide) (fun c_2 => by exfalso; omega) (fun c_2 => ?_)
  refine aw_iconst_n 1 dJ0_isLatin1_aae02_13 (by decide) ?_
  refine aw_goto (tgt := 18) dJ0_isLatin1_aae02_14 (by decide) ?_
  exact aw_zret rfl rfl (by decide) (by decide) dJ0_isLatin1_aae02_18 (rI_of (by rfl))
set_option maxHeartbeats 4000000 in
theorem o_ch111 {l : Launch} {G : GT} {n : Nat} {f : HT} {k : Nat} (hk : k < 9) : AM l G yJ1_charAt_3b067 (.code yJ1_charAt_3b067 cJ1_charAt_3b067 2 (some .char)) 2 120 0 0 [.ref 20, .int (nI k)] (f) n (rI (nI (([102, 114, 105, 99, 116, 105, 111, 110, 32] : List Nat).getD k 0)) f n) := by
  refine aw_enter (M := MJ1_charAt_3b067) rfl rfl (by decide +kernel) rfl (Nat.le_of_ble_eq_true rfl) ?_
  show AW l G MJ1_charAt_3b067 2 120 0 0 _ n 0 0 0 [(0, .ref 20), (1, .int (nI k))] [] _ n
  refine aw_iload_n dJ1_charAt_3b067_0 rfl rfl ?_
  refine aw_aload_n dJ1_charAt_3b067_1 rfl rfl ?_
  refine aw_olen (v := nI 9) (List.mem_of_getElem? (i := 3) rfl) (by decide) rfl dJ1_charAt_3b067_2 ?_
  refine aw_sV (as := [Value.int (nI k), Value.int (nI 9)]) (rest := []) mS_J0_checkIndex_df160 (o_ck0 hk (by decide)) ml_J1_9 dJ1_charAt_3b067_3 rfl rfl (by decide) (Nat.le_of_ble_eq_true rfl) (by decide) ?_
  refine aw_aload_n dJ1_charAt_3b067_6 rfl rfl ?_
  refine aw_iload_n dJ1_charAt_3b067_7 rfl rfl ?_
  refine aw_obald (v := .int (([102, 114, 105, 99, 116, 105, 111, 110, 32] : List Int32).getD k 0)) (List.mem_of_getElem? (i := 3) rfl) (by decide) (vp_in_nI (by omega) (by decide)) (by show Value.int (List.getD _ (nI k).toNatClampNeg 0) = _; rw [nIc (by omega)]) trivial dJ1_charAt_3b067_8 ?_
  refine aw_sipush_n 255 dJ1_charAt_3b067_9 (by decide) ?_
  refine aw_iand dJ1_charAt_3b067_12 ?_
  refine aw_i2c dJ1_charAt_3b067_13 ?_
  have key : ∀ k, k < 9 → ((([102, 114, 105, 99, 116, 105, 111, 110, 32] : List Int32).getD k 0) &&& nI 255).toUInt32 % 65536 = (((([102, 114, 105, 99, 116, 105, 111, 110, 32] : List Int32).getD k 0) &&& nI 255).toUInt32 % 65536) ∧ (((([102, 114, 105, 99, 116, 105, 111, 110, 32] : List Int32).getD k 0) &&& nI 255).toUInt32 % 65536).toInt32 = nI (([102, 114, 105, 99, 116, 105, 111, 110, 32] : List Nat).getD k 0) ∧ ([102, 114, 105, 99, 116, 105, 111, 110, 32] : List Nat).getD k 0 < 128 := by decide +kernel
  obtain ⟨-, k1, k2⟩ := key k hk
  rw [k1]
  exact aw_zret rfl (c128_narrow k2) (by decide) (by decide) dJ1_charAt_3b067_14 (rI_of rfl)
set_option maxHeartbeats 4000000 in
theorem o_ch11 {l : Launch} {G : GT} {n : Nat} {f : HT} {k : Nat} (hk : k < 9) : AM l G yJ0_charAt_5068e (.code yJ0_charAt_5068e cJ0_charAt_5068e 2 (some .char)) 3 180 0 0 [.ref 11, .int (nI k)] (f) n (rI (nI (([102, 114, 105, 99, 116, 105, 111, 110, 32] : List Nat).getD k 0)) f n) := by
  refine aw_enter (M := MJ0_charAt_5068e) rfl rfl (by decide +kernel) rfl (Nat.le_of_ble_eq_true rfl) ?_
  show AW l G MJ0_charAt_5068e 3 180 0 0 _ n 0 0 0 [(0, .ref 11), (1, .int (nI k))] [] _ n
  refine aw_aload_n dJ0_charAt_5068e_0 rfl rfl ?_
  refine aw_cI (as := []) (rest := []) (MV.c mV_J0_isLatin1_aae02) (o_lat11 ) ml_J0_492 (RC.o (List.mem_of_getElem? (i := 10) rfl) (by decide)) dJ0_charAt_5068e_1 rfl rfl (by decide) (Nat.le_of_ble_eq_true rfl) (by decide) ?_
  refine aw_if_eq_n (by omega) (tgt := 16) dJ0_charAt_5068e_4 (by decide) (fun c_1 => by exfalso; omega) (fun c_1 => ?_)
  refine aw_aload_n dJ0_charAt_5068e_7 rfl rfl ?_
  refine aw_oget (v := .ref 20) (List.mem_of_getElem? (i := 35) rfl) (by decide) (show 20 < o0 by decide) sl_J0_9 dJ0_charAt_5068e_8 ?_
  refine aw_iload_n dJ0_charAt_5068e_11 rfl rfl ?_
  refine aw_sI (as := [Value.ref 20, Value.int (nI k)]) (rest := []) mS_J1_charAt_3b067 (o_ch111 hk) ml_J0_495 dJ0_charAt_5068e_12 rfl rfl (by decide) (Nat.le_of_ble_eq_true rfl) (by decide) ?_
  have key : ∀ k, k < 9 → ([102, 114, 105, 99, 116, 105, 111, 110, 32] : List Nat).getD k 0 < 128 := by decide +kernel
  exact aw_zret rfl (c128_narrow (key k hk)) (by decide) (by decide) dJ0_charAt_5068e_15 (rI_of rfl)
set_option maxHeartbeats 4000000 in
theorem o_cod12 {l : Launch} {G : GT} {n : Nat} {f : HT} : AM l G yJ0_coder_7d493 (.code yJ0_coder_7d493 cJ0_coder_7d493 1 (some .byte)) 0 0 0 0 [.ref 12] (f) n (rI (nI 0) f n) := by
  refine aw_enter (M := MJ0_coder_7d493) rfl rfl (by decide +kernel) rfl (Nat.le_of_ble_eq_true rfl) ?_
  show AW l G MJ0_coder_7d493 0 0 0 0 _ n 0 0 0 [(0, .ref 12)] [] _ n
  refine aw_gets (v := .int (nI 1)) (List.mem_of_getElem? (i := 0) rfl) trivial sl_J0_38 dJ0_coder_7d493_0 ?_
  refine aw_if_eq_n (by omega) (tgt := 13) dJ0_coder_7d493_3 (by decide) (fun c_1 => by exfalso; omega) (fun c_1 => ?_)
  refine aw_aload_n dJ0_coder_7d493_6 rfl rfl ?_
  refine aw_oget (v := .int (nI 0)) (List.mem_of_getElem? (i := 36) rfl) (by decide) trivial sl_J0_15 dJ0_coder_7d493_7 ?_
  refine aw_goto (tgt := 14) dJ0_coder_7d493_10 (by decide) ?_
  exact aw_zret rfl rfl (by decide) (by decide) dJ0_coder_7d493_14 (rI_of (by rfl))
set_option maxHeartbeats 4000000 in
theorem o_len12 {l : Launch} {G : GT} {n : Nat} {f : HT} : AM l G yJ0_length_8abf5 (.code yJ0_length_8abf5 cJ0_length_8abf5 1 (some .int)) 1 60 0 0 [.ref 12] (f) n (rI (nI 4) f n) := by
  refine aw_enter (M := MJ0_length_8abf5) rfl rfl (by decide +kernel) rfl (Nat.le_of_ble_eq_true rfl) ?_
  show AW l G MJ0_length_8abf5 1 60 0 0 _ n 0 0 0 [(0, .ref 12)] [] _ n
  refine aw_aload_n dJ0_length_8abf5_0 rfl rfl ?_
  refine aw_oget (v := .ref 21) (List.mem_of_getElem? (i := 37) rfl) (by decide) (show 21 < o0 by decide) sl_J0_9 dJ0_length_8abf5_1 ?_
  refine aw_olen (v := nI 4) (List.mem_of_getElem? (i := 4) rfl) (by decide) rfl dJ0_length_8abf5_4 ?_
  refine aw_aload_n dJ0_length_8abf5_5 rfl rfl ?_
  refine aw_cI (as := []) (rest := [Value.int (nI 4)]) (MV.c mV_J0_coder_7d493) (o_cod12 ) ml_J0_335 (RC.o (List.mem_of_getElem? (i := 11) rfl) (by decide)) dJ0_length_8abf5_6 rfl rfl (by decide) (Nat.le_of_ble_eq_true rfl) (by decide) ?_
  refine aw_shr (a := 4) (k := 0) (by omega) (by omega) dJ0_length_8abf5_9 ?_
  exact aw_iret rfl (by decide) (by decide) dJ0_length_8abf5_10 (rI_of (by rfl))
set_option maxHeartbeats 4000000 in
theorem o_lat12 {l : Launch} {G : GT} {n : Nat} {f : HT} : AM l G yJ0_isLatin1_aae02 (.code yJ0_isLatin1_aae02 cJ0_isLatin1_aae02 1 (some .boolean)) 0 0 0 0 [.ref 12] (f) n (rI (nI 1) f n) := by
  refine aw_enter (M := MJ0_isLatin1_aae02) rfl rfl (by decide +kernel) rfl (Nat.le_of_ble_eq_true rfl) ?_
  show AW l G MJ0_isLatin1_aae02 0 0 0 0 _ n 0 0 0 [(0, .ref 12)] [] _ n
  refine aw_gets (v := .int (nI 1)) (List.mem_of_getElem? (i := 0) rfl) trivial sl_J0_38 dJ0_isLatin1_aae02_0 ?_
  refine aw_if_eq_n (by omega) (tgt := 17) dJ0_isLatin1_aae02_3 (by decide) (fun c_1 => by exfalso; omega) (fun c_1 => ?_)
  refine aw_aload_n dJ0_isLatin1_aae02_6 rfl rfl ?_
  refine aw_oget (v := .int (nI 0)) (List.mem_of_getElem? (i := 36) rfl) (by decide) trivial sl_J0_15 dJ0_isLatin1_aae02_7 ?_
  refine aw_if_ne_n (by omega) (tgt := 17) dJ0_isLatin1_aae02_10 (by decide) (fun c_2 => by exfalso; omega) (fun c_2 => ?_)
  refine aw_iconst_n 1 dJ0_isLatin1_aae02_13 (by decide) ?_
  refine aw_goto (tgt := 18) dJ0_isLatin1_aae02_14 (by decide) ?_
  exact aw_zret rfl rfl (by decide) (by decide) dJ0_isLatin1_aae02_18 (rI_of (by rfl))
set_option maxHeartbeats 4000000 in
theorem o_ch112 {l : Launch} {G : GT} {n : Nat} {f : HT} {k : Nat} (hk : k < 4) : AM l G yJ1_charAt_3b067 (.code yJ1_charAt_3b067 cJ1_charAt_3b067 2 (some .char)) 2 120 0 0 [.ref 21, .int (nI k)] (f) n (rI (nI (([108, 101, 103, 32] : List Nat).getD k 0)) f n) := by
  refine aw_enter (M := MJ1_charAt_3b067) rfl rfl (by decide +kernel) rfl (Nat.le_of_ble_eq_true rfl) ?_
  show AW l G MJ1_charAt_3b067 2 120 0 0 _ n 0 0 0 [(0, .ref 21), (1, .int (nI k))] [] _ n
  refine aw_iload_n dJ1_charAt_3b067_0 rfl rfl ?_
  refine aw_aload_n dJ1_charAt_3b067_1 rfl rfl ?_
  refine aw_olen (v := nI 4) (List.mem_of_getElem? (i := 4) rfl) (by decide) rfl dJ1_charAt_3b067_2 ?_
  refine aw_sV (as := [Value.int (nI k), Value.int (nI 4)]) (rest := []) mS_J0_checkIndex_df160 (o_ck0 hk (by decide)) ml_J1_9 dJ1_charAt_3b067_3 rfl rfl (by decide) (Nat.le_of_ble_eq_true rfl) (by decide) ?_
  refine aw_aload_n dJ1_charAt_3b067_6 rfl rfl ?_
  refine aw_iload_n dJ1_charAt_3b067_7 rfl rfl ?_
  refine aw_obald (v := .int (([108, 101, 103, 32] : List Int32).getD k 0)) (List.mem_of_getElem? (i := 4) rfl) (by decide) (vp_in_nI (by omega) (by decide)) (by show Value.int (List.getD _ (nI k).toNatClampNeg 0) = _; rw [nIc (by omega)]) trivial dJ1_charAt_3b067_8 ?_
  refine aw_sipush_n 255 dJ1_charAt_3b067_9 (by decide) ?_
  refine aw_iand dJ1_charAt_3b067_12 ?_
  refine aw_i2c dJ1_charAt_3b067_13 ?_
  have key : ∀ k, k < 4 → ((([108, 101, 103, 32] : List Int32).getD k 0) &&& nI 255).toUInt32 % 65536 = (((([108, 101, 103, 32] : List Int32).getD k 0) &&& nI 255).toUInt32 % 65536) ∧ (((([108, 101, 103, 32] : List Int32).getD k 0) &&& nI 255).toUInt32 % 65536).toInt32 = nI (([108, 101, 103, 32] : List Nat).getD k 0) ∧ ([108, 101, 103, 32] : List Nat).getD k 0 < 128 := by decide +kernel
  obtain ⟨-, k1, k2⟩ := key k hk
  rw [k1]
  exact aw_zret rfl (c128_narrow k2) (by decide) (by decide) dJ1_charAt_3b067_14 (rI_of rfl)
set_option maxHeartbeats 4000000 in
theorem o_ch12 {l : Launch} {G : GT} {n : Nat} {f : HT} {k : Nat} (hk : k < 4) : AM l G yJ0_charAt_5068e (.code yJ0_charAt_5068e cJ0_charAt_5068e 2 (some .char)) 3 180 0 0 [.ref 12, .int (nI k)] (f) n (rI (nI (([108, 101, 103, 32] : List Nat).getD k 0)) f n) := by
  refine aw_enter (M := MJ0_charAt_5068e) rfl rfl (by decide +kernel) rfl (Nat.le_of_ble_eq_true rfl) ?_
  show AW l G MJ0_charAt_5068e 3 180 0 0 _ n 0 0 0 [(0, .ref 12), (1, .int (nI k))] [] _ n
  refine aw_aload_n dJ0_charAt_5068e_0 rfl rfl ?_
  refine aw_cI (as := []) (rest := []) (MV.c mV_J0_isLatin1_aae02) (o_lat12 ) ml_J0_492 (RC.o (List.mem_of_getElem? (i := 11) rfl) (by decide)) dJ0_charAt_5068e_1 rfl rfl (by decide) (Nat.le_of_ble_eq_true rfl) (by decide) ?_
  refine aw_if_eq_n (by omega) (tgt := 16) dJ0_charAt_5068e_4 (by decide) (fun c_1 => by exfalso; omega) (fun c_1 => ?_)
  refine aw_aload_n dJ0_charAt_5068e_7 rfl rfl ?_
  refine aw_oget (v := .ref 21) (List.mem_of_getElem? (i := 37) rfl) (by decide) (show 21 < o0 by decide) sl_J0_9 dJ0_charAt_5068e_8 ?_
  refine aw_iload_n dJ0_charAt_5068e_11 rfl rfl ?_
  refine aw_sI (as := [Value.ref 21, Value.int (nI k)]) (rest := []) mS_J1_charAt_3b067 (o_ch112 hk) ml_J0_495 dJ0_charAt_5068e_12 rfl rfl (by decide) (Nat.le_of_ble_eq_true rfl) (by decide) ?_
  have key : ∀ k, k < 4 → ([108, 101, 103, 32] : List Nat).getD k 0 < 128 := by decide +kernel
  exact aw_zret rfl (c128_narrow (key k hk)) (by decide) (by decide) dJ0_charAt_5068e_15 (rI_of rfl)
set_option maxHeartbeats 4000000 in
theorem o_cod13 {l : Launch} {G : GT} {n : Nat} {f : HT} : AM l G yJ0_coder_7d493 (.code yJ0_coder_7d493 cJ0_coder_7d493 1 (some .byte)) 0 0 0 0 [.ref 13] (f) n (rI (nI 0) f n) := by
  refine aw_enter (M := MJ0_coder_7d493) rfl rfl (by decide +kernel) rfl (Nat.le_of_ble_eq_true rfl) ?_
  show AW l G MJ0_coder_7d493 0 0 0 0 _ n 0 0 0 [(0, .ref 13)] [] _ n
  refine aw_gets (v := .int (nI 1)) (List.mem_of_getElem? (i := 0) rfl) trivial sl_J0_38 dJ0_coder_7d493_0 ?_
  refine aw_if_eq_n (by omega) (tgt := 13) dJ0_coder_7d493_3 (by decide) (fun c_1 => by exfalso; omega) (fun c_1 => ?_)
  refine aw_aload_n dJ0_coder_7d493_6 rfl rfl ?_
  refine aw_oget (v := .int (nI 0)) (List.mem_of_getElem? (i := 38) rfl) (by decide) trivial sl_J0_15 dJ0_coder_7d493_7 ?_
  refine aw_goto (tgt := 14) dJ0_coder_7d493_10 (by decide) ?_
  exact aw_zret rfl rfl (by decide) (by decide) dJ0_coder_7d493_14 (rI_of (by rfl))
set_option maxHeartbeats 4000000 in
theorem o_len13 {l : Launch} {G : GT} {n : Nat} {f : HT} : AM l G yJ0_length_8abf5 (.code yJ0_length_8abf5 cJ0_length_8abf5 1 (some .int)) 1 60 0 0 [.ref 13] (f) n (rI (nI 4) f n) := by
  refine aw_enter (M := MJ0_length_8abf5) rfl rfl (by decide +kernel) rfl (Nat.le_of_ble_eq_true rfl) ?_
  show AW l G MJ0_length_8abf5 1 60 0 0 _ n 0 0 0 [(0, .ref 13)] [] _ n
  refine aw_aload_n dJ0_length_8abf5_0 rfl rfl ?_
  refine aw_oget (v := .ref 22) (List.mem_of_getElem? (i := 39) rfl) (by decide) (show 22 < o0 by decide) sl_J0_9 dJ0_length_8abf5_1 ?_
  refine aw_olen (v := nI 4) (List.mem_of_getElem? (i := 5) rfl) (by decide) rfl dJ0_length_8abf5_4 ?_
  refine aw_aload_n dJ0_length_8abf5_5 rfl rfl ?_
  refine aw_cI (as := []) (rest := [Value.int (nI 4)]) (MV.c mV_J0_coder_7d493) (o_cod13 ) ml_J0_335 (RC.o (List.mem_of_getElem? (i := 12) rfl) (by decide)) dJ0_length_8abf5_6 rfl rfl (by decide) (Nat.le_of_ble_eq_true rfl) (by decide) ?_
  refine aw_shr (a := 4) (k := 0) (by omega) (by omega) dJ0_length_8abf5_9 ?_
  exact aw_iret rfl (by decide) (by decide) dJ0_length_8abf5_10 (rI_of (by rfl))
set_option maxHeartbeats 4000000 in
theorem o_lat13 {l : Launch} {G : GT} {n : Nat} {f : HT} : AM l G yJ0_isLatin1_aae02 (.code yJ0_isLatin1_aae02 cJ0_isLatin1_aae02 1 (some .boolean)) 0 0 0 0 [.ref 13] (f) n (rI (nI 1) f n) := by
  refine aw_enter (M := MJ0_isLatin1_aae02) rfl rfl (by decide +kernel) rfl (Nat.le_of_ble_eq_true rfl) ?_
  show AW l G MJ0_isLatin1_aae02 0 0 0 0 _ n 0 0 0 [(0, .ref 13)] [] _ n
  refine aw_gets (v := .int (nI 1)) (List.mem_of_getElem? (i := 0) rfl) trivial sl_J0_38 dJ0_isLatin1_aae02_0 ?_
  refine aw_if_eq_n (by omega) (tgt := 17) dJ0_isLatin1_aae02_3 (by decide) (fun c_1 => by exfalso; omega) (fun c_1 => ?_)
  refine aw_aload_n dJ0_isLatin1_aae02_6 rfl rfl ?_
  refine aw_oget (v := .int (nI 0)) (List.mem_of_getElem? (i := 38) rfl) (by decide) trivial sl_J0_15 dJ0_isLatin1_aae02_7 ?_
  refine aw_if_ne_n (by omega) (tgt := 17) dJ0_isLatin1_aae02_10 (by decide) (fun c_2 => by exfalso; omega) (fun c_2 => ?_)
  refine aw_iconst_n 1 dJ0_isLatin1_aae02_13 (by decide) ?_
  refine aw_goto (tgt := 18) dJ0_isLatin1_aae02_14 (by decide) ?_
  exact aw_zret rfl rfl (by decide) (by decide) dJ0_isLatin1_aae02_18 (rI_of (by rfl))
set_option maxHeartbeats 4000000 in
theorem o_ch113 {l : Launch} {G : GT} {n : Nat} {f : HT} {k : Nat} (hk : k < 4) : AM l G yJ1_charAt_3b067 (.code yJ1_charAt_3b067 cJ1_charAt_3b067 2 (some .char)) 2 120 0 0 [.ref 22, .int (nI k)] (f) n (rI (nI (([99, 117, 116, 32] : List Nat).getD k 0)) f n) := by
  refine aw_enter (M := MJ1_charAt_3b067) rfl rfl (by decide +kernel) rfl (Nat.le_of_ble_eq_true rfl) ?_
  show AW l G MJ1_charAt_3b067 2 120 0 0 _ n 0 0 0 [(0, .ref 22), (1, .int (nI k))] [] _ n
  refine aw_iload_n dJ1_charAt_3b067_0 rfl rfl ?_
  refine aw_aload_n dJ1_charAt_3b067_1 rfl rfl ?_
  refine aw_olen (v := nI 4) (List.mem_of_getElem? (i := 5) rfl) (by decide) rfl dJ1_charAt_3b067_2 ?_
  refine aw_sV (as := [Value.int (nI k), Value.int (nI 4)]) (rest := []) mS_J0_checkIndex_df160 (o_ck0 hk (by decide)) ml_J1_9 dJ1_charAt_3b067_3 rfl rfl (by decide) (Nat.le_of_ble_eq_true rfl) (by decide) ?_
  refine aw_aload_n dJ1_charAt_3b067_6 rfl rfl ?_
  refine aw_iload_n dJ1_charAt_3b067_7 rfl rfl ?_
  refine aw_obald (v := .int (([99, 117, 116, 32] : List Int32).getD k 0)) (List.mem_of_getElem? (i := 5) rfl) (by decide) (vp_in_nI (by omega) (by decide)) (by show Value.int (List.getD _ (nI k).toNatClampNeg 0) = _; rw [nIc (by omega)]) trivial dJ1_charAt_3b067_8 ?_
  refine aw_sipush_n 255 dJ1_charAt_3b067_9 (by decide) ?_
  refine aw_iand dJ1_charAt_3b067_12 ?_
  refine aw_i2c dJ1_charAt_3b067_13 ?_
  have key : ∀ k, k < 4 → ((([99, 117, 116, 32] : List Int32).getD k 0) &&& nI 255).toUInt32 % 65536 = (((([99, 117, 116, 32] : List Int32).getD k 0) &&& nI 255).toUInt32 % 65536) ∧ (((([99, 117, 116, 32] : List Int32).getD k 0) &&& nI 255).toUInt32 % 65536).toInt32 = nI (([99, 117, 116, 32] : List Nat).getD k 0) ∧ ([99, 117, 116, 32] : List Nat).getD k 0 < 128 := by decide +kernel
  obtain ⟨-, k1, k2⟩ := key k hk
  rw [k1]
  exact aw_zret rfl (c128_narrow k2) (by decide) (by decide) dJ1_charAt_3b067_14 (rI_of rfl)
set_option maxHeartbeats 4000000 in
theorem o_ch13 {l : Launch} {G : GT} {n : Nat} {f : HT} {k : Nat} (hk : k < 4) : AM l G yJ0_charAt_5068e (.code yJ0_charAt_5068e cJ0_charAt_5068e 2 (some .char)) 3 180 0 0 [.ref 13, .int (nI k)] (f) n (rI (nI (([99, 117, 116, 32] : List Nat).getD k 0)) f n) := by
  refine aw_enter (M := MJ0_charAt_5068e) rfl rfl (by decide +kernel) rfl (Nat.le_of_ble_eq_true rfl) ?_
  show AW l G MJ0_charAt_5068e 3 180 0 0 _ n 0 0 0 [(0, .ref 13), (1, .int (nI k))] [] _ n
  refine aw_aload_n dJ0_charAt_5068e_0 rfl rfl ?_
  refine aw_cI (as := []) (rest := []) (MV.c mV_J0_isLatin1_aae02) (o_lat13 ) ml_J0_492 (RC.o (List.mem_of_getElem? (i := 12) rfl) (by decide)) dJ0_charAt_5068e_1 rfl rfl (by decide) (Nat.le_of_ble_eq_true rfl) (by decide) ?_
  refine aw_if_eq_n (by omega) (tgt := 16) dJ0_charAt_5068e_4 (by decide) (fun c_1 => by exfalso; omega) (fun c_1 => ?_)
  refine aw_aload_n dJ0_charAt_5068e_7 rfl rfl ?_
  refine aw_oget (v := .ref 22) (List.mem_of_getElem? (i := 39) rfl) (by decide) (show 22 < o0 by decide) sl_J0_9 dJ0_charAt_5068e_8 ?_
  refine aw_iload_n dJ0_charAt_5068e_11 rfl rfl ?_
  refine aw_sI (as := [Value.ref 22, Value.int (nI k)]) (rest := []) mS_J1_charAt_3b067 (o_ch113 hk) ml_J0_495 dJ0_charAt_5068e_12 rfl rfl (by decide) (Nat.le_of_ble_eq_true rfl) (by decide) ?_
  have key : ∀ k, k < 4 → ([99, 117, 116, 32] : List Nat).getD k 0 < 128 := by decide +kernel
  exact aw_zret rfl (c128_narrow (key k hk)) (by decide) (by decide) dJ0_charAt_5068e_15 (rI_of rfl)
set_option maxHeartbeats 4000000 in
theorem o_cod14 {l : Launch} {G : GT} {n : Nat} {f : HT} : AM l G yJ0_coder_7d493 (.code yJ0_coder_7d493 cJ0_coder_7d493 1 (some .byte)) 0 0 0 0 [.ref 14] (f) n (rI (nI 0) f n) := by
  refine aw_enter (M := MJ0_coder_7d493) rfl rfl (by decide +kernel) rfl (Nat.le_of_ble_eq_true rfl) ?_
  show AW l G MJ0_coder_7d493 0 0 0 0 _ n 0 0 0 [(0, .ref 14)] [] _ n
  refine aw_gets (v := .int (nI 1)) (List.mem_of_getElem? (i := 0) rfl) trivial sl_J0_38 dJ0_coder_7d493_0 ?_
  refine aw_if_eq_n (by omega) (tgt := 13) dJ0_coder_7d493_3 (by decide) (fun c_1 => by exfalso; omega) (fun c_1 => ?_)
  refine aw_aload_n dJ0_coder_7d493_6 rfl rfl ?_
  refine aw_oget (v := .int (nI 0)) (List.mem_of_getElem? (i := 40) rfl) (by decide) trivial sl_J0_15 dJ0_coder_7d493_7 ?_
  refine aw_goto (tgt := 14) dJ0_coder_7d493_10 (by decide) ?_
  exact aw_zret rfl rfl (by decide) (by decide) dJ0_coder_7d493_14 (rI_of (by rfl))
set_option maxHeartbeats 4000000 in
theorem o_len14 {l : Launch} {G : GT} {n : Nat} {f : HT} : AM l G yJ0_length_8abf5 (.code yJ0_length_8abf5 cJ0_length_8abf5 1 (some .int)) 1 60 0 0 [.ref 14] (f) n (rI (nI 5) f n) := by
  refine aw_enter (M := MJ0_length_8abf5) rfl rfl (by decide +kernel) rfl (Nat.le_of_ble_eq_true rfl) ?_
  show AW l G MJ0_length_8abf5 1 60 0 0 _ n 0 0 0 [(0, .ref 14)] [] _ n
  refine aw_aload_n dJ0_length_8abf5_0 rfl rfl ?_
  refine aw_oget (v := .ref 23) (List.mem_of_getElem? (i := 41) rfl) (by decide) (show 23 < o0 by decide) sl_J0_9 dJ0_length_8abf5_1 ?_
  refine aw_olen (v := nI 5) (List.mem_of_getElem? (i := 6) rfl) (by decide) rfl dJ0_length_8abf5_4 ?_
  refine aw_aload_n dJ0_length_8abf5_5 rfl rfl ?_
  refine aw_cI (as := []) (rest := [Value.int (nI 5)]) (MV.c mV_J0_coder_7d493) (o_cod14 ) ml_J0_335 (RC.o (List.mem_of_getElem? (i := 13) rfl) (by decide)) dJ0_length_8abf5_6 rfl rfl (by decide) (Nat.le_of_ble_eq_true rfl) (by decide) ?_
  refine aw_shr (a := 5) (k := 0) (by omega) (by omega) dJ0_length_8abf5_9 ?_
  exact aw_iret rfl (by decide) (by decide) dJ0_length_8abf5_10 (rI_of (by rfl))
set_option maxHeartbeats 4000000 in
theorem o_lat14 {l : Launch} {G : GT} {n : Nat} {f : HT} : AM l G yJ0_isLatin1_aae02 (.code yJ0_isLatin1_aae02 cJ0_isLatin1_aae02 1 (some .boolean)) 0 0 0 0 [.ref 14] (f) n (rI (nI 1) f n) := by
  refine aw_enter (M := MJ0_isLatin1_aae02) rfl rfl (by decide +kernel) rfl (Nat.le_of_ble_eq_true rfl) ?_
  show AW l G MJ0_isLatin1_aae02 0 0 0 0 _ n 0 0 0 [(0, .ref 14)] [] _ n
  refine aw_gets (v := .int (nI 1)) (List.mem_of_getElem? (i := 0) rfl) trivial sl_J0_38 dJ0_isLatin1_aae02_0 ?_
  refine aw_if_eq_n (by omega) (tgt := 17) dJ0_isLatin1_aae02_3 (by decide) (fun c_1 => by exfalso; omega) (fun c_1 => ?_)
  refine aw_aload_n dJ0_isLatin1_aae02_6 rfl rfl ?_
  refine aw_oget (v := .int (nI 0)) (List.mem_of_getElem? (i := 40) rfl) (by decide) trivial sl_J0_15 dJ0_isLatin1_aae02_7 ?_
  refine aw_if_ne_n (by omega) (tgt := 17) dJ0_isLatin1_aae02_10 (by decide) (fun c_2 => by exfalso; omega) (fun c_2 => ?_)
  refine aw_iconst_n 1 dJ0_isLatin1_aae02_13 (by decide) ?_
  refine aw_goto (tgt := 18) dJ0_isLatin1_aae02_14 (by decide) ?_
  exact aw_zret rfl rfl (by decide) (by decide) dJ0_isLatin1_aae02_18 (rI_of (by rfl))
set_option maxHeartbeats 4000000 in
theorem o_ch114 {l : Launch} {G : GT} {n : Nat} {f : HT} {k : Nat} (hk : k < 5) : AM l G yJ1_charAt_3b067 (.code yJ1_charAt_3b067 cJ1_charAt_3b067 2 (some .char)) 2 120 0 0 [.ref 23, .int (nI k)] (f) n (rI (nI (([116, 105, 99, 107, 32] : List Nat).getD k 0)) f n) := by
  refine aw_enter (M := MJ1_charAt_3b067) rfl rfl (by decide +kernel) rfl (Nat.le_of_ble_eq_true rfl) ?_
  show AW l G MJ1_charAt_3b067 2 120 0 0 _ n 0 0 0 [(0, .ref 23), (1, .int (nI k))] [] _ n
  refine aw_iload_n dJ1_charAt_3b067_0 rfl rfl ?_
  refine aw_aload_n dJ1_charAt_3b067_1 rfl rfl ?_
  refine aw_olen (v := nI 5) (List.mem_of_getElem? (i := 6) rfl) (by decide) rfl dJ1_charAt_3b067_2 ?_
  refine aw_sV (as := [Value.int (nI k), Value.int (nI 5)]) (rest := []) mS_J0_checkIndex_df160 (o_ck0 hk (by decide)) ml_J1_9 dJ1_charAt_3b067_3 rfl rfl (by decide) (Nat.le_of_ble_eq_true rfl) (by decide) ?_
  refine aw_aload_n dJ1_charAt_3b067_6 rfl rfl ?_
  refine aw_iload_n dJ1_charAt_3b067_7 rfl rfl ?_
  refine aw_obald (v := .int (([116, 105, 99, 107, 32] : List Int32).getD k 0)) (List.mem_of_getElem? (i := 6) rfl) (by decide) (vp_in_nI (by omega) (by decide)) (by show Value.int (List.getD _ (nI k).toNatClampNeg 0) = _; rw [nIc (by omega)]) trivial dJ1_charAt_3b067_8 ?_
  refine aw_sipush_n 255 dJ1_charAt_3b067_9 (by decide) ?_
  refine aw_iand dJ1_charAt_3b067_12 ?_
  refine aw_i2c dJ1_charAt_3b067_13 ?_
  have key : ∀ k, k < 5 → ((([116, 105, 99, 107, 32] : List Int32).getD k 0) &&& nI 255).toUInt32 % 65536 = (((([116, 105, 99, 107, 32] : List Int32).getD k 0) &&& nI 255).toUInt32 % 65536) ∧ (((([116, 105, 99, 107, 32] : List Int32).getD k 0) &&& nI 255).toUInt32 % 65536).toInt32 = nI (([116, 105, 99, 107, 32] : List Nat).getD k 0) ∧ ([116, 105, 99, 107, 32] : List Nat).getD k 0 < 128 := by decide +kernel
  obtain ⟨-, k1, k2⟩ := key k hk
  rw [k1]
  exact aw_zret rfl (c128_narrow k2) (by decide) (by decide) dJ1_charAt_3b067_14 (rI_of rfl)
set_option maxHeartbeats 4000000 in
theorem o_ch14 {l : Launch} {G : GT} {n : Nat} {f : HT} {k : Nat} (hk : k < 5) : AM l G yJ0_charAt_5068e (.code yJ0_charAt_5068e cJ0_charAt_5068e 2 (some .char)) 3 180 0 0 [.ref 14, .int (nI k)] (f) n (rI (nI (([116, 105, 99, 107, 32] : List Nat).getD k 0)) f n) := by
  refine aw_enter (M := MJ0_charAt_5068e) rfl rfl (by decide +kernel) rfl (Nat.le_of_ble_eq_true rfl) ?_
  show AW l G MJ0_charAt_5068e 3 180 0 0 _ n 0 0 0 [(0, .ref 14), (1, .int (nI k))] [] _ n
  refine aw_aload_n dJ0_charAt_5068e_0 rfl rfl ?_
  refine aw_cI (as := []) (rest := []) (MV.c mV_J0_isLatin1_aae02) (o_lat14 ) ml_J0_492 (RC.o (List.mem_of_getElem? (i := 13) rfl) (by decide)) dJ0_charAt_5068e_1 rfl rfl (by decide) (Nat.le_of_ble_eq_true rfl) (by decide) ?_
  refine aw_if_eq_n (by omega) (tgt := 16) dJ0_charAt_5068e_4 (by decide) (fun c_1 => by exfalso; omega) (fun c_1 => ?_)
  refine aw_aload_n dJ0_charAt_5068e_7 rfl rfl ?_
  refine aw_oget (v := .ref 23) (List.mem_of_getElem? (i := 41) rfl) (by decide) (show 23 < o0 by decide) sl_J0_9 dJ0_charAt_5068e_8 ?_
  refine aw_iload_n dJ0_charAt_5068e_11 rfl rfl ?_
  refine aw_sI (as := [Value.ref 23, Value.int (nI k)]) (rest := []) mS_J1_charAt_3b067 (o_ch114 hk) ml_J0_495 dJ0_charAt_5068e_12 rfl rfl (by decide) (Nat.le_of_ble_eq_true rfl) (by decide) ?_
  have key : ∀ k, k < 5 → ([116, 105, 99, 107, 32] : List Nat).getD k 0 < 128 := by decide +kernel
  exact aw_zret rfl (c128_narrow (key k hk)) (by decide) (by decide) dJ0_charAt_5068e_15 (rI_of rfl)
set_option maxHeartbeats 4000000 in
theorem o_cod15 {l : Launch} {G : GT} {n : Nat} {f : HT} : AM l G yJ0_coder_7d493 (.code yJ0_coder_7d493 cJ0_coder_7d493 1 (some .byte)) 0 0 0 0 [.ref 15] (f) n (rI (nI 0) f n) := by
  refine aw_enter (M := MJ0_coder_7d493) rfl rfl (by decide +kernel) rfl (Nat.le_of_ble_eq_true rfl) ?_
  show AW l G MJ0_coder_7d493 0 0 0 0 _ n 0 0 0 [(0, .ref 15)] [] _ n
  refine aw_gets (v := .int (nI 1)) (List.mem_of_getElem? (i := 0) rfl) trivial sl_J0_38 dJ0_coder_7d493_0 ?_
  refine aw_if_eq_n (by omega) (tgt := 13) dJ0_coder_7d493_3 (by decide) (fun c_1 => by exfalso; omega) (fun c_1 => ?_)
  refine aw_aload_n dJ0_coder_7d493_6 rfl rfl ?_
  refine aw_oget (v := .int (nI 0)) (List.mem_of_getElem? (i := 42) rfl) (by decide) trivial sl_J0_15 dJ0_coder_7d493_7 ?_
  refine aw_goto (tgt := 14) dJ0_coder_7d493_10 (by decide) ?_
  exact aw_zret rfl rfl (by decide) (by decide) dJ0_coder_7d493_14 (rI_of (by rfl))
set_option maxHeartbeats 4000000 in
theorem o_len15 {l : Launch} {G : GT} {n : Nat} {f : HT} : AM l G yJ0_length_8abf5 (.code yJ0_length_8abf5 cJ0_length_8abf5 1 (some .int)) 1 60 0 0 [.ref 15] (f) n (rI (nI 3) f n) := by
  refine aw_enter (M := MJ0_length_8abf5) rfl rfl (by decide +kernel) rfl (Nat.le_of_ble_eq_true rfl) ?_
  show AW l G MJ0_length_8abf5 1 60 0 0 _ n 0 0 0 [(0, .ref 15)] [] _ n
  refine aw_aload_n dJ0_length_8abf5_0 rfl rfl ?_
  refine aw_oget (v := .ref 24) (List.mem_of_getElem? (i := 43) rfl) (by decide) (show 24 < o0 by decide) sl_J0_9 dJ0_length_8abf5_1 ?_
  refine aw_olen (v := nI 3) (List.mem_of_getElem? (i := 7) rfl) (by decide) rfl dJ0_length_8abf5_4 ?_
  refine aw_aload_n dJ0_length_8abf5_5 rfl rfl ?_
  refine aw_cI (as := []) (rest := [Value.int (nI 3)]) (MV.c mV_J0_coder_7d493) (o_cod15 ) ml_J0_335 (RC.o (List.mem_of_getElem? (i := 14) rfl) (by decide)) dJ0_length_8abf5_6 rfl rfl (by decide) (Nat.le_of_ble_eq_true rfl) (by decide) ?_
  refine aw_shr (a := 3) (k := 0) (by omega) (by omega) dJ0_length_8abf5_9 ?_
  exact aw_iret rfl (by decide) (by decide) dJ0_length_8abf5_10 (rI_of (by rfl))
set_option maxHeartbeats 4000000 in
theorem o_cod16 {l : Launch} {G : GT} {n : Nat} {f : HT} : AM l G yJ0_coder_7d493 (.code yJ0_coder_7d493 cJ0_coder_7d493 1 (some .byte)) 0 0 0 0 [.ref 16] (f) n (rI (nI 0) f n) := by
  refine aw_enter (M := MJ0_coder_7d493) rfl rfl (by decide +kernel) rfl (Nat.le_of_ble_eq_true rfl) ?_
  show AW l G MJ0_coder_7d493 0 0 0 0 _ n 0 0 0 [(0, .ref 16)] [] _ n
  refine aw_gets (v := .int (nI 1)) (List.mem_of_getElem? (i := 0) rfl) trivial sl_J0_38 dJ0_coder_7d493_0 ?_
  refine aw_if_eq_n (by omega) (tgt := 13) dJ0_coder_7d493_3 (by decide) (fun c_1 => by exfalso; omega) (fun c_1 => ?_)
  refine aw_aload_n dJ0_coder_7d493_6 rfl rfl ?_
  refine aw_oget (v := .int (nI 0)) (List.mem_of_getElem? (i := 44) rfl) (by decide) trivial sl_J0_15 dJ0_coder_7d493_7 ?_
  refine aw_goto (tgt := 14) dJ0_coder_7d493_10 (by decide) ?_
  exact aw_zret rfl rfl (by decide) (by decide) dJ0_coder_7d493_14 (rI_of (by rfl))
set_option maxHeartbeats 4000000 in
theorem o_len16 {l : Launch} {G : GT} {n : Nat} {f : HT} : AM l G yJ0_length_8abf5 (.code yJ0_length_8abf5 cJ0_length_8abf5 1 (some .int)) 1 60 0 0 [.ref 16] (f) n (rI (nI 4) f n) := by
  refine aw_enter (M := MJ0_length_8abf5) rfl rfl (by decide +kernel) rfl (Nat.le_of_ble_eq_true rfl) ?_
  show AW l G MJ0_length_8abf5 1 60 0 0 _ n 0 0 0 [(0, .ref 16)] [] _ n
  refine aw_aload_n dJ0_length_8abf5_0 rfl rfl ?_
  refine aw_oget (v := .ref 25) (List.mem_of_getElem? (i := 45) rfl) (by decide) (show 25 < o0 by decide) sl_J0_9 dJ0_length_8abf5_1 ?_
  refine aw_olen (v := nI 4) (List.mem_of_getElem? (i := 8) rfl) (by decide) rfl dJ0_length_8abf5_4 ?_
  refine aw_aload_n dJ0_length_8abf5_5 rfl rfl ?_
  refine aw_cI (as := []) (rest := [Value.int (nI 4)]) (MV.c mV_J0_coder_7d493) (o_cod16 ) ml_J0_335 (RC.o (List.mem_of_getElem? (i := 15) rfl) (by decide)) dJ0_length_8abf5_6 rfl rfl (by decide) (Nat.le_of_ble_eq_true rfl) (by decide) ?_
  refine aw_shr (a := 4) (k := 0) (by omega) (by omega) dJ0_length_8abf5_9 ?_
  exact aw_iret rfl (by decide) (by decide) dJ0_length_8abf5_10 (rI_of (by rfl))
