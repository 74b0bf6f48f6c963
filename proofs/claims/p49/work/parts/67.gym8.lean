theorem met_of {l : Launch} {y : MethodName} {ws : List Cond} {rm : Room} {Pc : Array Value → State → Prop} {Qc : Array Value → State → Outcome → State → Prop} {XC : String → State → State → Prop} {mc ms : Nat} {free : Addr → Prop} (h : vx_Met l y ws rm Pc Qc XC mc ms free) (hx : ∀ E s t, ¬ XC E s t) : Met l y ws rm Pc Qc mc ms free := by
  intro p e h1 h2 h3 s m args below a1 a2 a3 a4
  obtain ⟨k, o, q1, q2, q3, q4⟩ := h p e h1 h2 h3 s m args below a1 a2 a3 a4
  refine ⟨k, o, q1, q2, q3, ?_⟩
  rcases q4 with hq | ⟨q, ho, E, ce, L, hx9, hr⟩
  · exact hq
  · exact absurd hx9 (hx _ _ _)
theorem ord_in {w : Nat} (hw : w < 7) : ("java/lang/Enum", "ordinal", "I", Value.int (nI w), w + 1) ∈ wOF := by
  rcases (by omega : w = 0 ∨ w = 1 ∨ w = 2 ∨ w = 3 ∨ w = 4 ∨ w = 5 ∨ w = 6) with rfl | rfl | rfl | rfl | rfl | rfl | rfl
  · exact List.mem_of_getElem? (i := 0) rfl
  · exact List.mem_of_getElem? (i := 4) rfl
  · exact List.mem_of_getElem? (i := 8) rfl
  · exact List.mem_of_getElem? (i := 12) rfl
  · exact List.mem_of_getElem? (i := 16) rfl
  · exact List.mem_of_getElem? (i := 20) rfl
  · exact List.mem_of_getElem? (i := 24) rfl
theorem wo_in {w : Nat} (hw : w < 7) : ("PendulumGym$Word", w + 1) ∈ wO := by
  rcases (by omega : w = 0 ∨ w = 1 ∨ w = 2 ∨ w = 3 ∨ w = 4 ∨ w = 5 ∨ w = 6) with rfl | rfl | rfl | rfl | rfl | rfl | rfl
  · exact List.mem_of_getElem? (i := 0) rfl
  · exact List.mem_of_getElem? (i := 1) rfl
  · exact List.mem_of_getElem? (i := 2) rfl
  · exact List.mem_of_getElem? (i := 3) rfl
  · exact List.mem_of_getElem? (i := 4) rfl
  · exact List.mem_of_getElem? (i := 5) rfl
  · exact List.mem_of_getElem? (i := 6) rfl
abbrev MOrd : MT := (RJx29ce0, cJx29ce0_ordinal_8abf5, 1, (some .int), [], "ordinal")
theorem e_ord {l : Launch} {G : GT} {n : Nat} {f : HT} {w : Nat} (hw : w < 7) : AM l G yJx29ce0_ordinal_8abf5 (.code yJx29ce0_ordinal_8abf5 cJx29ce0_ordinal_8abf5 1 (some .int)) 0 0 0 0 [.ref (w + 1)] f n (rI (nI w) f n) := by
  refine aw_enter (M := MOrd) rfl rfl (by decide +kernel) rfl (Nat.le_of_ble_eq_true rfl) ?_
  show AW l G MOrd 0 0 0 0 _ n 0 0 0 [(0, .ref (w + 1))] [] _ n
  refine aw_aload_n dJx29ce0_ordinal_8abf5_0 rfl rfl ?_
  refine aw_oget (v := .int (nI w)) (ord_in hw) (by show w + 1 < 67; omega) trivial sl_Jx29ce0_7 dJx29ce0_ordinal_8abf5_1 ?_
  exact aw_iret rfl (by decide) (by decide) dJx29ce0_ordinal_8abf5_4 (rI_of rfl)
theorem kO_code : Cond.code yJx29ce0_ordinal_8abf5 cJx29ce0_ordinal_8abf5 1 (some .int) ∈ Big := b6 66 (by decide +kernel)
theorem kO_inst : Cond.instanceMethod yJx29ce0_ordinal_8abf5 ∈ Big := b6 65 (by decide +kernel)
theorem kO_sel : Cond.selects "PendulumGym$Word" ⟨"PendulumGym$Word", "ordinal", "()I"⟩ yJx29ce0_ordinal_8abf5 ∈ Big := b6 64 (by decide +kernel)
theorem kO_same : Cond.sameMethod "PendulumGym$Word" "java/lang/Enum" "ordinal" "()I" ∈ Big := b6 62 (by decide +kernel)
theorem kO_init : Cond.initialized "java/lang/Enum" ∈ Big := b1 28 (by decide +kernel)
theorem kO_link : Cond.methodLink RX10 417 ⟨"PendulumGym$Word", "ordinal", "()I"⟩ ∈ Big := b6 61 (by decide +kernel)
section RW13
variable {l : Launch} {G : GT} {M : MT} {fr lo mc ms : Nat} {Post : PT} {n0 nc ns pc : Nat} {L : List (Nat × Value)} {f : HT} {n : Nat}
theorem cr_ord {w ix : Nat} {rest : List Value} (hw : w < 7) (hl : Cond.methodLink M.1 ix ⟨"PendulumGym$Word", "ordinal", "()I"⟩ ∈ Big) (hdg : decode M.2.1 pc = .ok (.invokevirtual ix, 3)) (hR : 1 ≤ fr ∧ 20 ≤ lo) (hcat : (rest.map fun v => v.category).sum ≤ 8) (hc : nc ≤ mc ∧ ns ≤ ms) : CR l G M fr lo mc ms n0 nc ns pc L (.ref (w + 1) :: rest) rest f n 0 0 (rI (nI w) f n) := by
  intro p e s m args below meth c C ρ0 ρ H locs ls R
  have hcw : va_CU (rmA fr lo mc ms) s args M.1 "PendulumGym$Word" "java/lang/Enum" ix ⟨"PendulumGym$Word", "ordinal", "()I"⟩ yJx29ce0_ordinal_8abf5 cJx29ce0_ordinal_8abf5 1 (some .int) (Cond.code yJx29ce0_ordinal_8abf5 cJx29ce0_ordinal_8abf5 1 (some .int) :: Big) (rmA 0 0 0 0) 0 0 0 :=
    ⟨⟨rfl, rfl, hR.1, hR.2, pay_in C.ts (big_goodIn kO_code), List.mem_cons_self⟩, C.ts _ kO_code, C.ts _ kO_init, ⟨by decide +kernel, by decide +kernel⟩, fun sig h => by
      have h9 : (parseMethodDescriptor "()I").map (fun d => d.parameters.length) = some 0 := by decide +kernel
      rw [show (⟨"PendulumGym$Word", "ordinal", "()I"⟩ : MethodName).desc = "()I" from rfl] at h
      rw [h] at h9; exact (Option.some.inj h9).symm, C.ts _ hl, C.ts _ kO_same, va_Decl.abs (C.old.2.2.2.2.2.2.2.2.2.1 _ (by simp [lw_nest])), C.ts _ kO_sel, C.ts _ kO_inst⟩
  have hpre : PreV s H "PendulumGym$Word" (ρ (w + 1)) (PcA G ρ [.ref (w + 1)] f n) (([] : List Value).map (cv ρ)) := ⟨PcA.blind, rc_cell (RC.o (wo_in hw) (by show w + 1 < 67; omega)) C R, fun U hU hW => pc_in (y := yJx29ce0_ordinal_8abf5) C R (fun v hv => by
    rcases List.mem_cons.mp hv with rfl | hv
    · exact List.mem_cons_self
    · cases hv) hU hW⟩
  have hM := met_of (e_ord (l := l) (G := G) (n := n) (f := f) hw C.tr ρ) (fun E s t h => by
    obtain ⟨⟨_, _, _, _, _, _, h9⟩, _⟩ := h
    cases h9.1)
  refine ⟨_, fun T hT X => Or.inl (va_runU ⟨C.hx, C.hb, C.hml, C.own, C.ts⟩ hM hcw hpre rfl rfl R.lv.1 rfl (lv_room (by rw [cat_map]; exact hcat)) hdg hc T hT X)⟩
theorem aw_ordinal {w ix : Nat} {rest : List Value} (hw : w < 7) (hl : Cond.methodLink M.1 ix ⟨"PendulumGym$Word", "ordinal", "()I"⟩ ∈ Big) (hdg : decode M.2.1 pc = .ok (.invokevirtual ix, 3)) (hR : 1 ≤ fr ∧ 20 ≤ lo) (hcat : (rest.map fun v => v.category).sum ≤ 8) (hc : nc ≤ mc ∧ ns ≤ ms) (k : AW l G M fr lo mc ms Post n0 (nc + 0) (ns + 0) (pc + 3) L (.int (nI w) :: rest) f n) : AW l G M fr lo mc ms Post n0 nc ns pc L (.ref (w + 1) :: rest) f n :=
  aw_crI (cr_ord hw hl hdg hR hcat hc) (fun v hv => List.mem_cons_of_mem _ hv) k
end RW13
theorem tkcs_le : ∀ (t : Nat) {V : Nat → Nat}, V 2 ≤ 8 → tkcs t V ≤ 8 * t := by
  intro t
  induction t with
  | zero => intro V _; exact Nat.zero_le _
  | succ t ih =>
    intro V h
    have h1 := tkC_le V (V 2)
    have h2 := ih (V := tkV V (V 2)) (by rw [tk_2]; exact h)
    show tkC V (V 2) + tkcs t (tkV V (V 2)) ≤ _
    omega
/-- obey: was it allowed; the state behind it -/
def OBo (H : HT) (x : Nat) (q : Nat × Nat × (Nat → Nat)) (n : Nat) : PT := fun r f' n' => r = .inl (some (.int (bI (decide (q.1 = 0))))) ∧ n' = n ∧ ∃ (J' : Nat → Int32) (B' : Nat → Nat → Int32), f' = sU H (x + 1) J' B' ∧ SV J' B' q.2.2
abbrev MX10_obey : MT := (RX10, cX10_obey, 4, (some .boolean), [], "obey")
set_option maxHeartbeats 4000000 in
theorem g_obey0 {l : Launch} {G : GT} {n : Nat} {H : HT} {x : Nat} {J : Nat → Int32} {B : Nat → Nat → Int32} {K : Nat} {V : Nat → Nat} {sv : Bool} {e1 e2 : Int32} (h0 : H x = gC x sv e1 e2) (hst : sAt H (x + 1) J B) (hS : SV J B V) (hB : VB K V) {dig num : Nat} : AM l G yX10_obey (.code yX10_obey cX10_obey 4 (some .boolean)) 5 300 0 0 [.ref x, .ref 1, .int (nI dig), .int (nI num)] (H) n (OBo H x (opAdd V (nI num)) n) := by
  refine aw_enter (M := MX10_obey) rfl rfl (by decide +kernel) rfl (Nat.le_of_ble_eq_true rfl) ?_
  have hb9 : (opAdd V (nI num)).2.1 ≤ 8 := by unfold opAdd; (repeat' split) <;> first | exact Nat.zero_le _ | exact hB.cnt
  show AW l G MX10_obey 5 300 0 0 _ n 0 0 0 [(0, .ref x), (1, .ref 1), (2, .int (nI dig)), (3, .int (nI num))] [] _ n
  refine aw_aload_n dX10_obey_0 rfl rfl ?_
  refine aw_ifnonnull (tgt := 6) dX10_obey_1 (by decide) ?_
  refine aw_gets (v := .ref 27) (List.mem_of_getElem? (i := 2) rfl) (show 27 < o0 by decide) sl_X10_411 dX10_obey_6 ?_
  refine aw_aload_n dX10_obey_9 rfl rfl ?_
  refine aw_ordinal (w := 0) (rest := [Value.ref 27]) (by decide) kO_link dX10_obey_10 (by decide) (Nat.le_of_ble_eq_true rfl) (by decide) ?_
  refine aw_oiald (v := .int (nI 1)) (List.mem_of_getElem? (i := 10) rfl) (by decide) (vp_in_nI (by decide) (by decide)) (by rw [nIc (by decide)]; rfl) trivial dX10_obey_13 ?_
  refine aw_tableIn (tgt := 56) dX10_obey_14 (by decide) (by decide) rfl (by decide) ?_
  refine aw_aload_n dX10_obey_56 rfl rfl ?_
  refine aw_get (v := .ref (x + 1)) fl_X10_10 (h0) rfl dX10_obey_57 ?_
  refine aw_iload_n dX10_obey_60 rfl rfl ?_
  have hq_o := s_hang (l := l) (G := G) (n := n) (f := H) (o := x + 1) hS hB (nI num)
  rw [hst.self] at hq_o
  refine aw_cP (as := [Value.int (nI num)]) (rest := []) (MV.c mV_X8_hang) hq_o ml_X10_80 (RC.w hst.obj rfl) dX10_obey_61 rfl rfl (by decide) (Nat.le_of_ble_eq_true rfl) (by decide) (fun _ _ _ h => by cases h.1) (fun r9 f9 n9 _ h => ?_)
  obtain ⟨h1, h2, J', B', h3, hS'⟩ := h
  cases h1; subst h2; subst h3
  refine aw_iconst (v := -1) dX10_obey_64 (by decide) ?_
  refine aw_icmp_eq (tgt := 72) dX10_obey_65 (by decide) (fun c_1 => ?_) (fun c_1 => ?_)
  · refine aw_iconst_n 0 dX10_obey_72 (by decide) ?_
    refine aw_zret rfl rfl (by decide) (by decide) dX10_obey_73 ⟨?_, rfl, _, _, rfl, hS'⟩
    have z : ¬ (opAdd V (nI num)).1 = 0 := fun z => by rw [if_pos z] at c_1; exact nI_n1 (by omega) c_1
    rw [decide_eq_false z]; rfl
  · refine aw_iconst_n 1 dX10_obey_68 (by decide) ?_
    refine aw_goto (tgt := 73) dX10_obey_69 (by decide) ?_
    refine aw_zret rfl rfl (by decide) (by decide) dX10_obey_73 ⟨?_, rfl, _, _, rfl, hS'⟩
    have z : (opAdd V (nI num)).1 = 0 := Classical.byContradiction fun z => by rw [if_neg z] at c_1; exact c_1 rfl
    rw [decide_eq_true z]; rfl
set_option maxHeartbeats 4000000 in
theorem g_obey1 {l : Launch} {G : GT} {n : Nat} {H : HT} {x : Nat} {J : Nat → Int32} {B : Nat → Nat → Int32} {K : Nat} {V : Nat → Nat} {sv : Bool} {e1 e2 : Int32} (h0 : H x = gC x sv e1 e2) (hst : sAt H (x + 1) J B) (hS : SV J B V) (hB : VB K V) {dig num : Nat} : AM l G yX10_obey (.code yX10_obey cX10_obey 4 (some .boolean)) 5 300 0 0 [.ref x, .ref 2, .int (nI dig), .int (nI num)] (H) n (OBo H x (opPush V (nI dig) (nI num)) n) := by
  refine aw_enter (M := MX10_obey) rfl rfl (by decide +kernel) rfl (Nat.le_of_ble_eq_true rfl) ?_
  have hb9 : (opPush V (nI dig) (nI num)).2.1 ≤ 60 := by unfold opPush; (repeat' split) <;> first | exact Nat.zero_le _ | exact Nat.not_lt.mp (by assumption)
  show AW l G MX10_obey 5 300 0 0 _ n 0 0 0 [(0, .ref x), (1, .ref 2), (2, .int (nI dig)), (3, .int (nI num))] [] _ n
  refine aw_aload_n dX10_obey_0 rfl rfl ?_
  refine aw_ifnonnull (tgt := 6) dX10_obey_1 (by decide) ?_
  refine aw_gets (v := .ref 27) (List.mem_of_getElem? (i := 2) rfl) (show 27 < o0 by decide) sl_X10_411 dX10_obey_6 ?_
  refine aw_aload_n dX10_obey_9 rfl rfl ?_
  refine aw_ordinal (w := 1) (rest := [Value.ref 27]) (by decide) kO_link dX10_obey_10 (by decide) (Nat.le_of_ble_eq_true rfl) (by decide) ?_
  refine aw_oiald (v := .int (nI 2)) (List.mem_of_getElem? (i := 10) rfl) (by decide) (vp_in_nI (by decide) (by decide)) (by rw [nIc (by decide)]; rfl) trivial dX10_obey_13 ?_
  refine aw_tableIn (tgt := 74) dX10_obey_14 (by decide) (by decide) rfl (by decide) ?_
  refine aw_aload_n dX10_obey_74 rfl rfl ?_
  refine aw_get (v := .ref (x + 1)) fl_X10_10 (h0) rfl dX10_obey_75 ?_
  refine aw_iload_n dX10_obey_78 rfl rfl ?_
  refine aw_iload_n dX10_obey_79 rfl rfl ?_
  have hq_o := s_swingUp (l := l) (G := G) (n := n) (f := H) (o := x + 1) hS hB (nI dig) (nI num)
  rw [hst.self] at hq_o
  refine aw_cP (as := [Value.int (nI dig), Value.int (nI num)]) (rest := []) (MV.c mV_X8_swingUp) hq_o ml_X10_87 (RC.w hst.obj rfl) dX10_obey_80 rfl rfl (by decide) (Nat.le_of_ble_eq_true rfl) (by decide) (fun _ _ _ h => by cases h.1) (fun r9 f9 n9 _ h => ?_)
  obtain ⟨h1, h2, J', B', h3, hS'⟩ := h
  cases h1; subst h2; subst h3
  refine aw_iconst (v := -1) dX10_obey_83 (by decide) ?_
  refine aw_icmp_eq (tgt := 91) dX10_obey_84 (by decide) (fun c_1 => ?_) (fun c_1 => ?_)
  · refine aw_iconst_n 0 dX10_obey_91 (by decide) ?_
    refine aw_zret rfl rfl (by decide) (by decide) dX10_obey_92 ⟨?_, rfl, _, _, rfl, hS'⟩
    have z : ¬ (opPush V (nI dig) (nI num)).1 = 0 := fun z => by rw [if_pos z] at c_1; exact nI_n1 (by omega) c_1
    rw [decide_eq_false z]; rfl
  · refine aw_iconst_n 1 dX10_obey_87 (by decide) ?_
    refine aw_goto (tgt := 92) dX10_obey_88 (by decide) ?_
    refine aw_zret rfl rfl (by decide) (by decide) dX10_obey_92 ⟨?_, rfl, _, _, rfl, hS'⟩
    have z : (opPush V (nI dig) (nI num)).1 = 0 := Classical.byContradiction fun z => by rw [if_neg z] at c_1; exact c_1 rfl
    rw [decide_eq_true z]; rfl
set_option maxHeartbeats 4000000 in
theorem g_obey2 {l : Launch} {G : GT} {n : Nat} {H : HT} {x : Nat} {J : Nat → Int32} {B : Nat → Nat → Int32} {K : Nat} {V : Nat → Nat} {sv : Bool} {e1 e2 : Int32} (h0 : H x = gC x sv e1 e2) (hst : sAt H (x + 1) J B) (hS : SV J B V) (hB : VB K V) {dig num : Nat} : AM l G yX10_obey (.code yX10_obey cX10_obey 4 (some .boolean)) 5 300 0 0 [.ref x, .ref 3, .int (nI dig), .int (nI num)] (H) n (OBo H x (opCatch V (nI dig)) n) := by
  refine aw_enter (M := MX10_obey) rfl rfl (by decide +kernel) rfl (Nat.le_of_ble_eq_true rfl) ?_
  have hb9 : (opCatch V (nI dig)).2.1 < 16000000 := by unfold opCatch; (repeat' split) <;> first | exact (by decide : 0 < 16000000) | (next z _ => obtain ⟨k, hk, e⟩ := isK_of (by have := hB.cnt; omega) (Bool.not_eq_false _ ▸ z); rw [e, nIc (by have := hB.cnt; omega)]; exact Nat.lt_of_le_of_lt (hB.amp (k := k) (by have := hB.cnt; omega)) (by decide))
  show AW l G MX10_obey 5 300 0 0 _ n 0 0 0 [(0, .ref x), (1, .ref 3), (2, .int (nI dig)), (3, .int (nI num))] [] _ n
  refine aw_aload_n dX10_obey_0 rfl rfl ?_
  refine aw_ifnonnull (tgt := 6) dX10_obey_1 (by decide) ?_
  refine aw_gets (v := .ref 27) (List.mem_of_getElem? (i := 2) rfl) (show 27 < o0 by decide) sl_X10_411 dX10_obey_6 ?_
  refine aw_aload_n dX10_obey_9 rfl rfl ?_
  refine aw_ordinal (w := 2) (rest := [Value.ref 27]) (by decide) kO_link dX10_obey_10 (by decide) (Nat.le_of_ble_eq_true rfl) (by decide) ?_
  refine aw_oiald (v := .int (nI 3)) (List.mem_of_getElem? (i := 10) rfl) (by decide) (vp_in_nI (by decide) (by decide)) (by rw [nIc (by decide)]; rfl) trivial dX10_obey_13 ?_
  refine aw_tableIn (tgt := 93) dX10_obey_14 (by decide) (by decide) rfl (by decide) ?_
  refine aw_aload_n dX10_obey_93 rfl rfl ?_
  refine aw_get (v := .ref (x + 1)) fl_X10_10 (h0) rfl dX10_obey_94 ?_
  refine aw_iload_n dX10_obey_97 rfl rfl ?_
  have hq_o := s_stop (l := l) (G := G) (n := n) (f := H) (o := x + 1) hS hB (nI dig)
  rw [hst.self] at hq_o
  refine aw_cP (as := [Value.int (nI dig)]) (rest := []) (MV.c mV_X8_stop) hq_o ml_X10_93 (RC.w hst.obj rfl) dX10_obey_98 rfl rfl (by decide) (Nat.le_of_ble_eq_true rfl) (by decide) (fun _ _ _ h => by cases h.1) (fun r9 f9 n9 _ h => ?_)
  obtain ⟨h1, h2, J', B', h3, hS'⟩ := h
  cases h1; subst h2; subst h3
  refine aw_iconst (v := -1) dX10_obey_101 (by decide) ?_
  refine aw_icmp_eq (tgt := 109) dX10_obey_102 (by decide) (fun c_1 => ?_) (fun c_1 => ?_)
  · refine aw_iconst_n 0 dX10_obey_109 (by decide) ?_
    refine aw_zret rfl rfl (by decide) (by decide) dX10_obey_110 ⟨?_, rfl, _, _, rfl, hS'⟩
    have z : ¬ (opCatch V (nI dig)).1 = 0 := fun z => by rw [if_pos z] at c_1; exact nI_n1 (by omega) c_1
    rw [decide_eq_false z]; rfl
  · refine aw_iconst_n 1 dX10_obey_105 (by decide) ?_
    refine aw_goto (tgt := 110) dX10_obey_106 (by decide) ?_
    refine aw_zret rfl rfl (by decide) (by decide) dX10_obey_110 ⟨?_, rfl, _, _, rfl, hS'⟩
    have z : (opCatch V (nI dig)).1 = 0 := Classical.byContradiction fun z => by rw [if_neg z] at c_1; exact c_1 rfl
    rw [decide_eq_true z]; rfl
set_option maxHeartbeats 4000000 in
theorem g_obey3 {l : Launch} {G : GT} {n : Nat} {H : HT} {x : Nat} {J : Nat → Int32} {B : Nat → Nat → Int32} {K : Nat} {V : Nat → Nat} {sv : Bool} {e1 e2 : Int32} (h0 : H x = gC x sv e1 e2) (hst : sAt H (x + 1) J B) (hS : SV J B V) (hB : VB K V) {dig num : Nat} : AM l G yX10_obey (.code yX10_obey cX10_obey 4 (some .boolean)) 5 300 0 0 [.ref x, .ref 4, .int (nI dig), .int (nI num)] (H) n (OBo H x (opFric V (nI num)) n) := by
  refine aw_enter (M := MX10_obey) rfl rfl (by decide +kernel) rfl (Nat.le_of_ble_eq_true rfl) ?_
  have hb9 : (opFric V (nI num)).2.1 ≤ 30 := by unfold opFric; (repeat' split) <;> first | exact Nat.zero_le _ | exact hB.fric
  show AW l G MX10_obey 5 300 0 0 _ n 0 0 0 [(0, .ref x), (1, .ref 4), (2, .int (nI dig)), (3, .int (nI num))] [] _ n
  refine aw_aload_n dX10_obey_0 rfl rfl ?_
  refine aw_ifnonnull (tgt := 6) dX10_obey_1 (by decide) ?_
  refine aw_gets (v := .ref 27) (List.mem_of_getElem? (i := 2) rfl) (show 27 < o0 by decide) sl_X10_411 dX10_obey_6 ?_
  refine aw_aload_n dX10_obey_9 rfl rfl ?_
  refine aw_ordinal (w := 3) (rest := [Value.ref 27]) (by decide) kO_link dX10_obey_10 (by decide) (Nat.le_of_ble_eq_true rfl) (by decide) ?_
  refine aw_oiald (v := .int (nI 4)) (List.mem_of_getElem? (i := 10) rfl) (by decide) (vp_in_nI (by decide) (by decide)) (by rw [nIc (by decide)]; rfl) trivial dX10_obey_13 ?_
  refine aw_tableIn (tgt := 111) dX10_obey_14 (by decide) (by decide) rfl (by decide) ?_
  refine aw_aload_n dX10_obey_111 rfl rfl ?_
  refine aw_get (v := .ref (x + 1)) fl_X10_10 (h0) rfl dX10_obey_112 ?_
  refine aw_iload_n dX10_obey_115 rfl rfl ?_
  have hq_o := s_changeFriction (l := l) (G := G) (n := n) (f := H) (o := x + 1) hS hB (nI num)
  rw [hst.self] at hq_o
  refine aw_cP (as := [Value.int (nI num)]) (rest := []) (MV.c mV_X8_changeFriction) hq_o ml_X10_99 (RC.w hst.obj rfl) dX10_obey_116 rfl rfl (by decide) (Nat.le_of_ble_eq_true rfl) (by decide) (fun _ _ _ h => by cases h.1) (fun r9 f9 n9 _ h => ?_)
  obtain ⟨h1, h2, J', B', h3, hS'⟩ := h
  cases h1; subst h2; subst h3
  refine aw_iconst (v := -1) dX10_obey_119 (by decide) ?_
  refine aw_icmp_eq (tgt := 127) dX10_obey_120 (by decide) (fun c_1 => ?_) (fun c_1 => ?_)
  · refine aw_iconst_n 0 dX10_obey_127 (by decide) ?_
    refine aw_zret rfl rfl (by decide) (by decide) dX10_obey_128 ⟨?_, rfl, _, _, rfl, hS'⟩
    have z : ¬ (opFric V (nI num)).1 = 0 := fun z => by rw [if_pos z] at c_1; exact nI_n1 (by omega) c_1
    rw [decide_eq_false z]; rfl
  · refine aw_iconst_n 1 dX10_obey_123 (by decide) ?_
    refine aw_goto (tgt := 128) dX10_obey_124 (by decide) ?_
    refine aw_zret rfl rfl (by decide) (by decide) dX10_obey_128 ⟨?_, rfl, _, _, rfl, hS'⟩
    have z : (opFric V (nI num)).1 = 0 := Classical.byContradiction fun z => by rw [if_neg z] at c_1; exact c_1 rfl
    rw [decide_eq_true z]; rfl
set_option maxHeartbeats 4000000 in
theorem g_obey4 {l : Launch} {G : GT} {n : Nat} {H : HT} {x : Nat} {J : Nat → Int32} {B : Nat → Nat → Int32} {K : Nat} {V : Nat → Nat} {sv : Bool} {e1 e2 : Int32} (h0 : H x = gC x sv e1 e2) (hst : sAt H (x + 1) J B) (hS : SV J B V) (hB : VB K V) {dig num : Nat} : AM l G yX10_obey (.code yX10_obey cX10_obey 4 (some .boolean)) 5 300 0 0 [.ref x, .ref 5, .int (nI dig), .int (nI num)] (H) n (OBo H x (opLeg V (nI num)) n) := by
  refine aw_enter (M := MX10_obey) rfl rfl (by decide +kernel) rfl (Nat.le_of_ble_eq_true rfl) ?_
  have hb9 : (opLeg V (nI num)).2.1 ≤ 7 := by
    have hlg := hB.legs
    unfold opLeg; (repeat' split) <;> first | exact Nat.zero_le _ | (show V 3 + 1 ≤ 7; omega)
  show AW l G MX10_obey 5 300 0 0 _ n 0 0 0 [(0, .ref x), (1, .ref 5), (2, .int (nI dig)), (3, .int (nI num))] [] _ n
  refine aw_aload_n dX10_obey_0 rfl rfl ?_
  refine aw_ifnonnull (tgt := 6) dX10_obey_1 (by decide) ?_
  refine aw_gets (v := .ref 27) (List.mem_of_getElem? (i := 2) rfl) (show 27 < o0 by decide) sl_X10_411 dX10_obey_6 ?_
  refine aw_aload_n dX10_obey_9 rfl rfl ?_
  refine aw_ordinal (w := 4) (rest := [Value.ref 27]) (by decide) kO_link dX10_obey_10 (by decide) (Nat.le_of_ble_eq_true rfl) (by decide) ?_
  refine aw_oiald (v := .int (nI 5)) (List.mem_of_getElem? (i := 10) rfl) (by decide) (vp_in_nI (by decide) (by decide)) (by rw [nIc (by decide)]; rfl) trivial dX10_obey_13 ?_
  refine aw_tableIn (tgt := 129) dX10_obey_14 (by decide) (by decide) rfl (by decide) ?_
  refine aw_aload_n dX10_obey_129 rfl rfl ?_
  refine aw_get (v := .ref (x + 1)) fl_X10_10 (h0) rfl dX10_obey_130 ?_
  refine aw_iload_n dX10_obey_133 rfl rfl ?_
  have hq_o := s_appendLeg (l := l) (G := G) (n := n) (f := H) (o := x + 1) hS hB (nI num)
  rw [hst.self] at hq_o
  refine aw_cP (as := [Value.int (nI num)]) (rest := []) (MV.c mV_X8_appendLeg) hq_o ml_X10_212 (RC.w hst.obj rfl) dX10_obey_134 rfl rfl (by decide) (Nat.le_of_ble_eq_true rfl) (by decide) (fun _ _ _ h => by cases h.1) (fun r9 f9 n9 _ h => ?_)
  obtain ⟨h1, h2, J', B', h3, hS'⟩ := h
  cases h1; subst h2; subst h3
  refine aw_iconst (v := -1) dX10_obey_137 (by decide) ?_
  refine aw_icmp_eq (tgt := 145) dX10_obey_138 (by decide) (fun c_1 => ?_) (fun c_1 => ?_)
  · refine aw_iconst_n 0 dX10_obey_145 (by decide) ?_
    refine aw_zret rfl rfl (by decide) (by decide) dX10_obey_146 ⟨?_, rfl, _, _, rfl, hS'⟩
    have z : ¬ (opLeg V (nI num)).1 = 0 := fun z => by rw [if_pos z] at c_1; exact nI_n1 (by omega) c_1
    rw [decide_eq_false z]; rfl
  · refine aw_iconst_n 1 dX10_obey_141 (by decide) ?_
    refine aw_goto (tgt := 146) dX10_obey_142 (by decide) ?_
    refine aw_zret rfl rfl (by decide) (by decide) dX10_obey_146 ⟨?_, rfl, _, _, rfl, hS'⟩
    have z : (opLeg V (nI num)).1 = 0 := Classical.byContradiction fun z => by rw [if_neg z] at c_1; exact c_1 rfl
    rw [decide_eq_true z]; rfl
set_option maxHeartbeats 4000000 in
theorem g_obey5 {l : Launch} {G : GT} {n : Nat} {H : HT} {x : Nat} {J : Nat → Int32} {B : Nat → Nat → Int32} {K : Nat} {V : Nat → Nat} {sv : Bool} {e1 e2 : Int32} (h0 : H x = gC x sv e1 e2) (hst : sAt H (x + 1) J B) (hS : SV J B V) (hB : VB K V) {dig num : Nat} : AM l G yX10_obey (.code yX10_obey cX10_obey 4 (some .boolean)) 5 300 0 0 [.ref x, .ref 6, .int (nI dig), .int (nI num)] (H) n (OBo H x (opCut V (nI dig)) n) := by
  refine aw_enter (M := MX10_obey) rfl rfl (by decide +kernel) rfl (Nat.le_of_ble_eq_true rfl) ?_
  have hb9 : (opCut V (nI dig)).2.1 < 16000000 := by unfold opCut; (repeat' split) <;> first | exact (by decide : 0 < 16000000) | (next z => obtain ⟨k, hk, e⟩ := isK_of (by have := hB.legs; omega) (Bool.not_eq_false _ ▸ z); rw [e, nIc (by have := hB.legs; omega)]; exact Nat.lt_of_le_of_lt (hB.wish (k := k) (by have := hB.legs; omega)) (by decide))
  show AW l G MX10_obey 5 300 0 0 _ n 0 0 0 [(0, .ref x), (1, .ref 6), (2, .int (nI dig)), (3, .int (nI num))] [] _ n
  refine aw_aload_n dX10_obey_0 rfl rfl ?_
  refine aw_ifnonnull (tgt := 6) dX10_obey_1 (by decide) ?_
  refine aw_gets (v := .ref 27) (List.mem_of_getElem? (i := 2) rfl) (show 27 < o0 by decide) sl_X10_411 dX10_obey_6 ?_
  refine aw_aload_n dX10_obey_9 rfl rfl ?_
  refine aw_ordinal (w := 5) (rest := [Value.ref 27]) (by decide) kO_link dX10_obey_10 (by decide) (Nat.le_of_ble_eq_true rfl) (by decide) ?_
  refine aw_oiald (v := .int (nI 6)) (List.mem_of_getElem? (i := 10) rfl) (by decide) (vp_in_nI (by decide) (by decide)) (by rw [nIc (by decide)]; rfl) trivial dX10_obey_13 ?_
  refine aw_tableIn (tgt := 147) dX10_obey_14 (by decide) (by decide) rfl (by decide) ?_
  refine aw_aload_n dX10_obey_147 rfl rfl ?_
  refine aw_get (v := .ref (x + 1)) fl_X10_10 (h0) rfl dX10_obey_148 ?_
  refine aw_iload_n dX10_obey_151 rfl rfl ?_
  have hq_o := s_dropLeg (l := l) (G := G) (n := n) (f := H) (o := x + 1) hS hB (nI dig)
  rw [hst.self] at hq_o
  refine aw_cP (as := [Value.int (nI dig)]) (rest := []) (MV.c mV_X8_dropLeg) hq_o ml_X10_218 (RC.w hst.obj rfl) dX10_obey_152 rfl rfl (by decide) (Nat.le_of_ble_eq_true rfl) (by decide) (fun _ _ _ h => by cases h.1) (fun r9 f9 n9 _ h => ?_)
  obtain ⟨h1, h2, J', B', h3, hS'⟩ := h
  cases h1; subst h2; subst h3
  refine aw_iconst (v := -1) dX10_obey_155 (by decide) ?_
  refine aw_icmp_eq (tgt := 163) dX10_obey_156 (by decide) (fun c_1 => ?_) (fun c_1 => ?_)
  · refine aw_iconst_n 0 dX10_obey_163 (by decide) ?_
    refine aw_zret rfl rfl (by decide) (by decide) dX10_obey_164 ⟨?_, rfl, _, _, rfl, hS'⟩
    have z : ¬ (opCut V (nI dig)).1 = 0 := fun z => by rw [if_pos z] at c_1; exact nI_n1 (by omega) c_1
    rw [decide_eq_false z]; rfl
  · refine aw_iconst_n 1 dX10_obey_159 (by decide) ?_
    refine aw_goto (tgt := 164) dX10_obey_160 (by decide) ?_
    refine aw_zret rfl rfl (by decide) (by decide) dX10_obey_164 ⟨?_, rfl, _, _, rfl, hS'⟩
    have z : (opCut V (nI dig)).1 = 0 := Classical.byContradiction fun z => by rw [if_neg z] at c_1; exact c_1 rfl
    rw [decide_eq_true z]; rfl
set_option maxHeartbeats 4000000 in
theorem g_obey6 {l : Launch} {G : GT} {n : Nat} {H : HT} {x : Nat} {J : Nat → Int32} {B : Nat → Nat → Int32} {K : Nat} {V : Nat → Nat} {sv : Bool} {e1 e2 : Int32} (h0 : H x = gC x sv e1 e2) (hst : sAt H (x + 1) J B) (hS : SV J B V) (hB : VB K V) (hK : K + 500 < 16000000) {dig num : Nat} : AM l G yX10_obey (.code yX10_obey cX10_obey 4 (some .boolean)) 5 300 0 0 [.ref x, .ref 7, .int (nI dig), .int (nI num)] (H) n (OBo H x (opPass V (nI num)) n) := by
  refine aw_enter (M := MX10_obey) rfl rfl (by decide +kernel) rfl (Nat.le_of_ble_eq_true rfl) ?_
  have hb9 : (opPass V (nI num)).2.1 ≤ 4000 := by
    unfold opPass; split
    · exact Nat.zero_le _
    · next z =>
      obtain ⟨m, h1, h2, e⟩ := inB_of (by decide) (by decide) (Bool.not_eq_false _ ▸ z)
      rw [e, nIc (by omega)]
      exact Nat.le_trans (tkcs_le m hB.cnt) (by omega)
  show AW l G MX10_obey 5 300 0 0 _ n 0 0 0 [(0, .ref x), (1, .ref 7), (2, .int (nI dig)), (3, .int (nI num))] [] _ n
  refine aw_aload_n dX10_obey_0 rfl rfl ?_
  refine aw_ifnonnull (tgt := 6) dX10_obey_1 (by decide) ?_
  refine aw_gets (v := .ref 27) (List.mem_of_getElem? (i := 2) rfl) (show 27 < o0 by decide) sl_X10_411 dX10_obey_6 ?_
  refine aw_aload_n dX10_obey_9 rfl rfl ?_
  refine aw_ordinal (w := 6) (rest := [Value.ref 27]) (by decide) kO_link dX10_obey_10 (by decide) (Nat.le_of_ble_eq_true rfl) (by decide) ?_
  refine aw_oiald (v := .int (nI 7)) (List.mem_of_getElem? (i := 10) rfl) (by decide) (vp_in_nI (by decide) (by decide)) (by rw [nIc (by decide)]; rfl) trivial dX10_obey_13 ?_
  refine aw_tableIn (tgt := 165) dX10_obey_14 (by decide) (by decide) rfl (by decide) ?_
  refine aw_aload_n dX10_obey_165 rfl rfl ?_
  refine aw_get (v := .ref (x + 1)) fl_X10_10 (h0) rfl dX10_obey_166 ?_
  refine aw_iload_n dX10_obey_169 rfl rfl ?_
  have hq_o := s_waitFor (l := l) (G := G) (n := n) (f := H) (o := x + 1) hS hB hK (nI num)
  rw [hst.self] at hq_o
  refine aw_cP (as := [Value.int (nI num)]) (rest := []) (MV.c mV_X8_waitFor) hq_o ml_X10_105 (RC.w hst.obj rfl) dX10_obey_170 rfl rfl (by decide) (Nat.le_of_ble_eq_true rfl) (by decide) (fun _ _ _ h => by cases h.1) (fun r9 f9 n9 _ h => ?_)
  obtain ⟨h1, h2, J', B', h3, hS'⟩ := h
  cases h1; subst h2; subst h3
  refine aw_iconst (v := -1) dX10_obey_173 (by decide) ?_
  refine aw_icmp_eq (tgt := 181) dX10_obey_174 (by decide) (fun c_1 => ?_) (fun c_1 => ?_)
  · refine aw_iconst_n 0 dX10_obey_181 (by decide) ?_
    refine aw_zret rfl rfl (by decide) (by decide) dX10_obey_182 ⟨?_, rfl, _, _, rfl, hS'⟩
    have z : ¬ (opPass V (nI num)).1 = 0 := fun z => by rw [if_pos z] at c_1; exact nI_n1 (by omega) c_1
    rw [decide_eq_false z]; rfl
  · refine aw_iconst_n 1 dX10_obey_177 (by decide) ?_
    refine aw_goto (tgt := 182) dX10_obey_178 (by decide) ?_
    refine aw_zret rfl rfl (by decide) (by decide) dX10_obey_182 ⟨?_, rfl, _, _, rfl, hS'⟩
    have z : (opPass V (nI num)).1 = 0 := Classical.byContradiction fun z => by rw [if_neg z] at c_1; exact c_1 rfl
    rw [decide_eq_true z]; rfl
