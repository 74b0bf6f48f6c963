theorem mC_J5_getValue_6d5f1 : MVC yJ5_getValue_6d5f1 cJ5_getValue_6d5f1 1 (some (.array .byte)) 0 "java/lang/StringBuilder" := ⟨b5 77 (by decide +kernel), b5 74 (by decide +kernel), b5 76 (by decide +kernel), b1 7 (by decide +kernel), ⟨by decide +kernel, by decide +kernel, by decide +kernel⟩⟩
theorem k5_code : Cond.code yJ5_length_8abf5 cJ5_length_8abf5 1 (some .int) ∈ Big := b5 85 (by decide +kernel)
theorem k5_inst : Cond.instanceMethod yJ5_length_8abf5 ∈ Big := b5 79 (by decide +kernel)
theorem k5_same : Cond.sameMethod "java/lang/AbstractStringBuilder" "java/lang/AbstractStringBuilder" "length" "()I" ∈ Big := b5 80 (by decide +kernel)
theorem k5_sel : Cond.selects "java/lang/StringBuilder" yJ5_length_8abf5 yJ4_length_8abf5 ∈ Big := b5 81 (by decide +kernel)
theorem k4_code : Cond.code yJ4_length_8abf5 cJ4_length_8abf5 1 (some .int) ∈ Big := mV_J4_length_8abf5.1
theorem k4_inst : Cond.instanceMethod yJ4_length_8abf5 ∈ Big := mV_J4_length_8abf5.2.1
theorem k4_init : Cond.initialized "java/lang/StringBuilder" ∈ Big := mV_J4_length_8abf5.2.2.2.1
abbrev MJ5_getValue_6d5f1 : MT := (RJ5, cJ5_getValue_6d5f1, 1, (some (.array .byte)), [], "getValue")
abbrev MJ4_toString_0e30d : MT := (RJ4, cJ4_toString_0e30d, 1, (some (.object "java/lang/String")), [], "toString")
abbrev MJ0_init_81219 : MT := (RJ0, cJ0_init_81219, 2, none, [], "<init>")
abbrev MJ0_init_db425 : MT := (RJ0, cJ0_init_db425, 5, none, [], "<init>")
abbrev MJ7_copyOfRange_39247 : MT := (RJ7, cJ7_copyOfRange_39247, 3, (some (.array .byte)), [], "copyOfRange")
abbrev MJ7_copyOfRangeByte_39247 : MT := (RJ7, cJ7_copyOfRangeByte_39247, 5, (some (.array .byte)), [], "copyOfRangeByte")
abbrev MJ7_checkLength_df160 : MT := (RJ7, cJ7_checkLength_df160, 2, none, [], "checkLength")
theorem t_getv {l : Launch} {G : GT} {n : Nat} {H : HT} {c bp k : Nat} {ml : Int32} (b0 : H c = bcell bp ml k) : AM l G yJ5_getValue_6d5f1 (.code yJ5_getValue_6d5f1 cJ5_getValue_6d5f1 1 (some (.array .byte))) 0 0 0 0 [.ref c] H n (rR (.ref bp) H n) := by
  refine aw_enter (M := MJ5_getValue_6d5f1) rfl rfl (by decide +kernel) rfl (Nat.le_of_ble_eq_true rfl) ?_
  show AW l G MJ5_getValue_6d5f1 0 0 0 0 _ n 0 0 0 [(0, .ref c)] [] _ n
  refine aw_aload_n dJ5_getValue_6d5f1_0 rfl rfl ?_
  refine aw_get (v := .ref bp) fl_J5_15 b0 rfl dJ5_getValue_6d5f1_1 ?_
  exact aw_aret rfl (Or.inr ⟨_, rfl⟩) (Or.inr ⟨_, rfl⟩) (by decide) (by decide) dJ5_getValue_6d5f1_4 ⟨rfl, rfl, rfl⟩
theorem t_len5 {l : Launch} {G : GT} {n : Nat} {H : HT} {c bp k : Nat} {ml : Int32} (b0 : H c = bcell bp ml k) : AM l G yJ5_length_8abf5 (.code yJ5_length_8abf5 cJ5_length_8abf5 1 (some .int)) 0 0 0 0 [.ref c] H n (rI (nI k) H n) := by
  refine aw_enter (M := MJ5_length_8abf5) rfl rfl (by decide +kernel) rfl (Nat.le_of_ble_eq_true rfl) ?_
  show AW l G MJ5_length_8abf5 0 0 0 0 _ n 0 0 0 [(0, .ref c)] [] _ n
  refine aw_aload_n dJ5_length_8abf5_0 rfl rfl ?_
  refine aw_get (v := .int (nI k)) fl_J5_79 b0 rfl dJ5_length_8abf5_1 ?_
  exact aw_iret rfl (by decide) (by decide) dJ5_length_8abf5_4 (rI_of rfl)
theorem t_len4 {l : Launch} {G : GT} {n : Nat} {H : HT} {c bp k : Nat} {ml : Int32} (b0 : H c = bcell bp ml k) : AM l G yJ4_length_8abf5 (.code yJ4_length_8abf5 cJ4_length_8abf5 1 (some .int)) 1 60 0 0 [.ref c] H n (rI (nI k) H n) := by
  refine aw_enter (M := MJ4_length_8abf5) rfl rfl (by decide +kernel) rfl (Nat.le_of_ble_eq_true rfl) ?_
  show AW l G MJ4_length_8abf5 1 60 0 0 _ n 0 0 0 [(0, .ref c)] [] _ n
  refine aw_aload_n dJ4_length_8abf5_0 rfl rfl ?_
  refine aw_suI (as := []) (rest := []) mU_J5_length_8abf5 (t_len5 b0) ml_J4_343 b0 rfl dJ4_length_8abf5_1 rfl rfl (by decide) (Nat.le_of_ble_eq_true rfl) (by decide) ?_
  exact aw_iret rfl (by decide) (by decide) dJ4_length_8abf5_4 (rI_of rfl)
section RWT
variable {l : Launch} {G : GT} {M : MT} {fr lo mc ms : Nat} {Post : PT} {n0 nc ns pc : Nat} {L : List (Nat × Value)} {S : List Value} {f : HT} {n : Nat}
theorem cr_blen {c bp k ix : Nat} {ml : Int32} {rest : List Value} (b0 : f c = bcell bp ml k) (hl : Cond.methodLink M.1 ix yJ5_length_8abf5 ∈ Big) (hdg : decode M.2.1 pc = .ok (.invokevirtual ix, 3)) (hR : 2 ≤ fr ∧ 80 ≤ lo) (hcat : (rest.map fun v => v.category).sum ≤ 8) (hc : nc ≤ mc ∧ ns ≤ ms) : CR l G M fr lo mc ms n0 nc ns pc L (.ref c :: rest) rest f n 0 0 (rI (nI k) f n) := by
  intro p e s m args below meth c9 C ρ0 ρ H locs ls R
  have hcw : va_CU (rmA fr lo mc ms) s args M.1 "java/lang/StringBuilder" "java/lang/AbstractStringBuilder" ix yJ5_length_8abf5 yJ4_length_8abf5 cJ4_length_8abf5 1 (some .int) (Cond.code yJ4_length_8abf5 cJ4_length_8abf5 1 (some .int) :: Big) (rmA 1 60 0 0) 0 0 0 :=
    ⟨⟨rfl, rfl, hR.1, hR.2, pay_in C.ts (big_goodIn k4_code), List.mem_cons_self⟩, C.ts _ k4_code, C.ts _ k4_init, ⟨by decide +kernel, by decide +kernel⟩, fun sig h => by
      have h9 : (parseMethodDescriptor "()I").map (fun d => d.parameters.length) = some 0 := by decide +kernel
      rw [show yJ5_length_8abf5.desc = "()I" from rfl] at h
      rw [h] at h9; exact (Option.some.inj h9).symm, C.ts _ hl, C.ts _ k5_same, va_Decl.of (C.ts _ k5_inst) (C.ts _ k5_code), C.ts _ k5_sel, C.ts _ k4_inst⟩
  have hpre : PreV s H "java/lang/StringBuilder" (ρ c) (PcA G ρ [.ref c] f n) (([] : List Value).map (cv ρ)) := ⟨PcA.blind, rc_cell (RC.w b0 rfl) C R, fun U hU hW => pc_in (y := yJ4_length_8abf5) C R (fun v hv => by
    rcases List.mem_cons.mp hv with rfl | hv
    · exact List.mem_cons_self
    · cases hv) hU hW⟩
  have hM := met_of (t_len4 (l := l) (G := G) (n := n) b0 C.tr ρ) (fun E s t h => by
    obtain ⟨⟨_, _, _, _, _, _, h9⟩, _⟩ := h
    cases h9.1)
  refine ⟨_, fun T hT X => Or.inl (va_runU ⟨C.hx, C.hb, C.hml, C.own, C.ts⟩ hM hcw hpre rfl rfl R.lv.1 rfl (lv_room (by rw [cat_map]; exact hcat)) hdg hc T hT X)⟩
theorem aw_blen {c bp k ix : Nat} {ml : Int32} {rest : List Value} (b0 : f c = bcell bp ml k) (hl : Cond.methodLink M.1 ix yJ5_length_8abf5 ∈ Big) (hdg : decode M.2.1 pc = .ok (.invokevirtual ix, 3)) (hR : 2 ≤ fr ∧ 80 ≤ lo) (hcat : (rest.map fun v => v.category).sum ≤ 8) (hc : nc ≤ mc ∧ ns ≤ ms) (k9 : AW l G M fr lo mc ms Post n0 (nc + 0) (ns + 0) (pc + 3) L (.int (nI k) :: rest) f n) : AW l G M fr lo mc ms Post n0 nc ns pc L (.ref c :: rest) f n :=
  aw_crI (cr_blen b0 hl hdg hR hcat hc) (fun v hv => List.mem_cons_of_mem _ hv) k9
end RWT
theorem t_chk {l : Launch} {G : GT} {n : Nat} {H : HT} {k : Nat} (hk : k ≤ 200) : AM l G yJ7_checkLength_df160 (.code yJ7_checkLength_df160 cJ7_checkLength_df160 2 none) 0 0 0 0 [.int (nI 0), .int (nI k)] H n (rV H n) := by
  refine aw_enter (M := MJ7_checkLength_df160) rfl rfl (by decide +kernel) rfl (Nat.le_of_ble_eq_true rfl) ?_
  show AW l G MJ7_checkLength_df160 0 0 0 0 _ n 0 0 0 [(0, .int (nI 0)), (1, .int (nI k))] [] _ n
  refine aw_iload_n dJ7_checkLength_df160_0 rfl rfl ?_
  refine aw_iload_n dJ7_checkLength_df160_1 rfl rfl ?_
  refine aw_icmp_ge_n (a := k) (b := 0) (by omega) (by omega) (tgt := 37) dJ7_checkLength_df160_2 (by decide) (fun c => ?_) (fun c => by exfalso; omega)
  exact aw_vret rfl (by decide) (by decide) dJ7_checkLength_df160_37 (rV_of rfl)
set_option maxHeartbeats 4000000 in
theorem t_crb {l : Launch} {G : GT} {n : Nat} {H : HT} {bp k N : Nat} {B : Nat → Int32} (b1 : H bp = bbyt N B) (hN : N ≤ 100) (hk : k ≤ N) (hbn : bp < n) (hq : ∀ i, i < k → ∃ q, q < 128 ∧ B i = nI q) : AM l G yJ7_copyOfRangeByte_39247 (.code yJ7_copyOfRangeByte_39247 cJ7_copyOfRangeByte_39247 5 (some (.array .byte))) 1 60 1 100 [.ref bp, .int (nI 0), .int (nI k)] H n (fun r f' n' => rR (.ref n) (va_up H n (bbyt k (va_cpy B (fun _ => 0) 0 0 k))) (n + 1) r f' n') := by
  refine aw_enter (M := MJ7_copyOfRangeByte_39247) rfl rfl (by decide +kernel) rfl (Nat.le_of_ble_eq_true rfl) ?_
  show AW l G MJ7_copyOfRangeByte_39247 1 60 1 100 _ n 0 0 0 [(0, .ref bp), (1, .int (nI 0)), (2, .int (nI k))] [] _ n
  refine aw_iload_n dJ7_copyOfRangeByte_39247_0 rfl rfl ?_
  refine aw_iload_n dJ7_copyOfRangeByte_39247_1 rfl rfl ?_
  refine aw_sV (as := [Value.int (nI 0), Value.int (nI k)]) (rest := []) mS_J7_checkLength_df160 (t_chk (by omega)) ml_J7_343 dJ7_copyOfRangeByte_39247_2 rfl rfl (by decide) (Nat.le_of_ble_eq_true rfl) (by decide) ?_
  refine aw_iload_n dJ7_copyOfRangeByte_39247_5 rfl rfl ?_
  refine aw_iload_n dJ7_copyOfRangeByte_39247_6 rfl rfl ?_
  refine aw_isub_n (by omega) dJ7_copyOfRangeByte_39247_7 ?_
  rw [Nat.sub_zero]
  refine aw_istore_n (L' := [(3, .int (nI k)), (0, .ref bp), (1, .int (nI 0)), (2, .int (nI k))]) dJ7_copyOfRangeByte_39247_8 rfl (Nat.le_of_ble_eq_true rfl) rfl ?_
  refine aw_iload_n dJ7_copyOfRangeByte_39247_9 rfl rfl ?_
  refine aw_newa_byte (N := k) (nI_pos (by omega)) (nIc (by omega)) (by show k * 1 ≤ 536870912; omega) (by omega) (by omega) dJ7_copyOfRangeByte_39247_10 ?_
  refine aw_astore (L' := [(4, .ref n), (3, .int (nI k)), (0, .ref bp), (1, .int (nI 0)), (2, .int (nI k))]) dJ7_copyOfRangeByte_39247_12 (Nat.le_of_ble_eq_true rfl) rfl ?_
  refine aw_aload_n dJ7_copyOfRangeByte_39247_14 rfl rfl ?_
  refine aw_iload_n dJ7_copyOfRangeByte_39247_15 rfl rfl ?_
  refine aw_aload dJ7_copyOfRangeByte_39247_16 rfl ?_
  refine aw_iconst_n 0 dJ7_copyOfRangeByte_39247_18 (by decide) ?_
  refine aw_aload_n dJ7_copyOfRangeByte_39247_19 rfl rfl ?_
  refine aw_alen (N := 0) (x := nilc) (ty := .byte) (v := nI N) ((up_ne (by omega)).trans b1) rfl rfl dJ7_copyOfRangeByte_39247_20 ?_
  refine aw_iload_n dJ7_copyOfRangeByte_39247_21 rfl rfl ?_
  refine aw_isub_n (by omega) dJ7_copyOfRangeByte_39247_22 ?_
  rw [Nat.sub_zero]
  refine aw_iload_n dJ7_copyOfRangeByte_39247_23 rfl rfl ?_
  refine aw_mmin_n (by omega) (by omega) ml_J7_304 (by decide) (Nat.le_of_ble_eq_true rfl) (by omega) (by omega) dJ7_copyOfRangeByte_39247_24 ?_
  rw [show min N k = k by omega]
  refine aw_copyb (k := k) ml_J7_150 ((up_ne (by omega)).trans b1) up_self (by omega) (by omega) (Nat.le_refl _) (fun i hi => by obtain ⟨q, q1, q2⟩ := hq i hi; rw [q2]; exact fits_b q1) (by decide) (by decide +kernel) dJ7_copyOfRangeByte_39247_27 ?_
  rw [bx_uu]
  refine aw_aload dJ7_copyOfRangeByte_39247_30 rfl ?_
  exact aw_aret rfl (Or.inr ⟨_, rfl⟩) (Or.inr ⟨_, rfl⟩) (by omega) (by omega) dJ7_copyOfRangeByte_39247_32 ⟨rfl, rfl, rfl⟩
theorem t_cr {l : Launch} {G : GT} {n : Nat} {H : HT} {bp k N : Nat} {B : Nat → Int32} (b1 : H bp = bbyt N B) (hN : N ≤ 100) (hk : k < N) (hbn : bp < n) (hq : ∀ i, i < k → ∃ q, q < 128 ∧ B i = nI q) : AM l G yJ7_copyOfRange_39247 (.code yJ7_copyOfRange_39247 cJ7_copyOfRange_39247 3 (some (.array .byte))) 2 120 1 100 [.ref bp, .int (nI 0), .int (nI k)] H n (fun r f' n' => rR (.ref n) (va_up H n (bbyt k (va_cpy B (fun _ => 0) 0 0 k))) (n + 1) r f' n') := by
  refine aw_enter (M := MJ7_copyOfRange_39247) rfl rfl (by decide +kernel) rfl (Nat.le_of_ble_eq_true rfl) ?_
  show AW l G MJ7_copyOfRange_39247 2 120 1 100 _ n 0 0 0 [(0, .ref bp), (1, .int (nI 0)), (2, .int (nI k))] [] _ n
  refine aw_iload_n dJ7_copyOfRange_39247_0 rfl rfl ?_
  refine aw_if_ne_n (by omega) (tgt := 10) dJ7_copyOfRange_39247_1 (by decide) (fun c_1 => by exfalso; omega) (fun c_1 => ?_)
  refine aw_iload_n dJ7_copyOfRange_39247_4 rfl rfl ?_
  refine aw_aload_n dJ7_copyOfRange_39247_5 rfl rfl ?_
  refine aw_alen (N := 0) (x := nilc) (ty := .byte) (v := nI N) b1 rfl rfl dJ7_copyOfRange_39247_6 ?_
  refine aw_icmp_eq_n (by omega) (by omega) (tgt := 17) dJ7_copyOfRange_39247_7 (by decide) (fun c_2 => by exfalso; omega) (fun c_2 => ?_)
  refine aw_aload_n dJ7_copyOfRange_39247_10 rfl rfl ?_
  refine aw_iload_n dJ7_copyOfRange_39247_11 rfl rfl ?_
  refine aw_iload_n dJ7_copyOfRange_39247_12 rfl rfl ?_
  refine aw_sR (as := [Value.ref bp, Value.int (nI 0), Value.int (nI k)]) (rest := []) mS_J7_copyOfRangeByte_39247 (t_crb b1 hN (by omega) hbn hq) ml_J7_339 dJ7_copyOfRange_39247_13 rfl rfl (by decide) (Nat.le_of_ble_eq_true rfl) (by decide) ?_
  exact aw_aret rfl (Or.inr ⟨_, rfl⟩) (Or.inr ⟨_, rfl⟩) (by decide) (by decide) dJ7_copyOfRange_39247_16 ⟨rfl, rfl, rfl⟩
/-- a new string made, nothing else changed -/
def NSo (H : HT) (s b : Nat) (L : List Nat) (n9 : Nat) (x : Option Value) : PT := fun r f' n' => r = .inl x ∧ n' = n9 ∧ NS f' s b L ∧ ∀ a, a < s → f' a = H a
set_option maxHeartbeats 4000000 in
theorem t_in2 {l : Launch} {G : GT} {H : HT} {s c bp N : Nat} {L : List Nat} {ml : Int32} {B : Nat → Int32} (h0 : H s = .inr (7, [.null, .int 0, .int 0, .int 0])) (b0 : H c = bcell bp ml L.length) (b1 : H bp = bbyt N B) (hN : N ≤ 100) (hL : L.length < N) (hc : c < s) (hb : bp < s) (hB : ∀ i, i < L.length → B i = nI (L.getD i 0) ∧ L.getD i 0 < 128) : AM l G yJ0_init_db425 (.code yJ0_init_db425 cJ0_init_db425 5 none) 3 180 1 100 [.ref s, .ref c, .null] H (s + 1) (NSo H s (s + 1) L (s + 2) none) := by
  refine aw_enter (M := MJ0_init_db425) rfl rfl (by decide +kernel) rfl (Nat.le_of_ble_eq_true rfl) ?_
  show AW l G MJ0_init_db425 3 180 1 100 _ (s + 1) 0 0 0 [(0, .ref s), (1, .ref c), (2, .null)] [] _ (s + 1)
  refine aw_aload_n dJ0_init_db425_0 rfl rfl ?_
  refine aw_objInit ml_J0_1 (by decide) (by decide) dJ0_init_db425_1 ?_
  refine aw_aload_n dJ0_init_db425_4 rfl rfl ?_
  refine aw_cR (as := []) (rest := []) mC_J5_getValue_6d5f1 (t_getv b0) ml_J0_552 (RC.w b0 rfl) dJ0_init_db425_5 rfl rfl (by decide) (Nat.le_of_ble_eq_true rfl) (by decide) ?_
  refine aw_astore_n (L' := [(3, .ref bp), (0, .ref s), (1, .ref c), (2, .null)]) dJ0_init_db425_8 rfl (Nat.le_of_ble_eq_true rfl) rfl ?_
  refine aw_aload_n dJ0_init_db425_9 rfl rfl ?_
  refine aw_blen b0 ml_J0_549 dJ0_init_db425_10 (by decide) (Nat.le_of_ble_eq_true rfl) (by decide) ?_
  refine aw_istore (L' := [(4, .int (nI L.length)), (3, .ref bp), (0, .ref s), (1, .ref c), (2, .null)]) dJ0_init_db425_13 (Nat.le_of_ble_eq_true rfl) rfl ?_
  refine aw_aload_n dJ0_init_db425_15 rfl rfl ?_
  refine aw_cI (as := []) (rest := []) mC_J5_isLatin1_aae02 (b_lat b0 b1) ml_J0_1047 (RC.w b0 rfl) dJ0_init_db425_16 rfl rfl (by decide) (Nat.le_of_ble_eq_true rfl) (by decide) ?_
  refine aw_if_eq_n (by omega) (tgt := 41) dJ0_init_db425_19 (by decide) (fun c_1 => by exfalso; omega) (fun c_1 => ?_)
  refine aw_aload_n dJ0_init_db425_22 rfl rfl ?_
  refine aw_iconst_n 0 dJ0_init_db425_23 (by decide) ?_
  refine aw_putF ff_J0_15 rfl h0 (fun _ => rfl) (fun _ => rfl) (Nat.le_of_ble_eq_true rfl) dJ0_init_db425_24 ?_
  refine aw_aload_n dJ0_init_db425_27 rfl rfl ?_
  refine aw_aload_n dJ0_init_db425_28 rfl rfl ?_
  refine aw_iconst_n 0 dJ0_init_db425_29 (by decide) ?_
  refine aw_iload dJ0_init_db425_30 rfl ?_
  refine aw_sR (as := [Value.ref bp, Value.int (nI 0), Value.int (nI L.length)]) (rest := [Value.ref s]) mS_J7_copyOfRange_39247 (t_cr ((up_ne (by omega)).trans b1) hN hL (by omega) (fun i hi => ⟨_, (hB i hi).2, (hB i hi).1⟩)) ml_J0_54 dJ0_init_db425_32 rfl rfl (by decide) (Nat.le_of_ble_eq_true rfl) (by decide) ?_
  refine aw_putF ff_J0_9 rfl ((up_ne (by omega)).trans up_self) (fun _ => rfl) (fun _ => rfl) (Nat.le_of_ble_eq_true rfl) dJ0_init_db425_35 ?_
  refine aw_goto (tgt := 97) dJ0_init_db425_38 (by decide) ?_
  exact aw_vret rfl (by decide) (by decide) dJ0_init_db425_97 ⟨rfl, rfl, ⟨va_cpy B (fun _ => 0) 0 0 L.length, .int 0, .int 0, up_self, (up_ne (by omega)).trans up_self, fun k hk => by rw [cpy_at, if_pos (by omega), Nat.sub_zero]; exact (hB k hk).1, by omega, fun k hk => (hB k hk).2⟩, fun a ha => (up_ne (by omega)).trans ((up_ne (by omega)).trans (up_ne (by omega)))⟩
theorem t_in1 {l : Launch} {G : GT} {H : HT} {s c bp N : Nat} {L : List Nat} {ml : Int32} {B : Nat → Int32} (h0 : H s = .inr (7, [.null, .int 0, .int 0, .int 0])) (b0 : H c = bcell bp ml L.length) (b1 : H bp = bbyt N B) (hN : N ≤ 100) (hL : L.length < N) (hc : c < s) (hb : bp < s) (hB : ∀ i, i < L.length → B i = nI (L.getD i 0) ∧ L.getD i 0 < 128) : AM l G yJ0_init_81219 (.code yJ0_init_81219 cJ0_init_81219 2 none) 4 240 1 100 [.ref s, .ref c] H (s + 1) (NSo H s (s + 1) L (s + 2) none) := by
  refine aw_enter (M := MJ0_init_81219) rfl rfl (by decide +kernel) rfl (Nat.le_of_ble_eq_true rfl) ?_
  show AW l G MJ0_init_81219 4 240 1 100 _ (s + 1) 0 0 0 [(0, .ref s), (1, .ref c)] [] _ (s + 1)
  refine aw_aload_n dJ0_init_81219_0 rfl rfl ?_
  refine aw_aload_n dJ0_init_81219_1 rfl rfl ?_
  refine aw_null dJ0_init_81219_2 ?_
  refine aw_iP (as := [Value.ref c, Value.null]) (rest := []) mI_J0_init_db425 (t_in2 h0 b0 b1 hN hL hc hb hB) ml_J0_489 dJ0_init_81219_3 rfl rfl (by decide) (Nat.le_of_ble_eq_true rfl) (by decide) (fun _ _ _ h => by cases h.1) (fun r1 f1 n1 _ h => ?_)
  obtain ⟨g1, g2⟩ := h
  cases g1
  exact aw_vret rfl (by decide) (by decide) dJ0_init_81219_6 ⟨rfl, g2⟩
theorem t_str {l : Launch} {G : GT} {n : Nat} {H : HT} {c bp N : Nat} {L : List Nat} (hbk : bJ H c bp n L N) (hL : L.length < N) : AM l G yJ4_toString_0e30d (.code yJ4_toString_0e30d cJ4_toString_0e30d 1 (some (.object "java/lang/String"))) 5 300 2 104 [.ref c] H n (NSo H n (n + 1) L (n + 2) (some (.ref n))) := by
  obtain ⟨B, ml, b0, b1, hN, hL1, hne, hcn, hbn, hB, hq⟩ := id hbk
  refine aw_enter (M := MJ4_toString_0e30d) rfl rfl (by decide +kernel) rfl (Nat.le_of_ble_eq_true rfl) ?_
  show AW l G MJ4_toString_0e30d 5 300 2 104 _ n 0 0 0 [(0, .ref c)] [] _ n
  refine aw_new fn_J4_18 (zv_all rfl) (by decide) (by decide) dJ4_toString_0e30d_0 ?_
  refine aw_dup dJ4_toString_0e30d_3 rfl ?_
  refine aw_aload_n dJ4_toString_0e30d_4 rfl rfl ?_
  refine aw_iP (as := [Value.ref c]) (rest := [Value.ref n]) mI_J0_init_81219 (t_in1 up_self ((up_ne (by omega)).trans b0) ((up_ne (by omega)).trans b1) hN hL hcn hbn hB) ml_J4_137 dJ4_toString_0e30d_5 rfl rfl (by decide) (Nat.le_of_ble_eq_true rfl) (by decide) (fun _ _ _ h => by cases h.1) (fun r1 f1 n1 _ h => ?_)
  obtain ⟨g1, g2, g3, g4⟩ := h
  cases g1
  exact aw_aret rfl (Or.inl ⟨_, rfl⟩) (Or.inr ⟨_, rfl⟩) (by decide) (by decide) dJ4_toString_0e30d_8 ⟨rfl, g2, g3, fun a ha => (g4 a ha).trans (up_ne (by omega))⟩
