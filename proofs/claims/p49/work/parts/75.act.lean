theorem why_le (V : Nat → Nat) (v : Int32) : whyN V v ≤ 2 := by unfold whyN; (repeat' split) <;> exact Nat.le_of_ble_eq_true rfl
theorem rec_le (V : Nat → Nat) (a : Nat) (v : Int32) : (qRec V a v).1 ≤ 2 := by
  unfold qRec; split
  · exact Nat.zero_le _
  · exact why_le V v
abbrev actH : List (Nat × Nat × Nat × Nat) := [(0, 93, 204, 96), (94, 100, 204, 96), (101, 106, 204, 96), (107, 112, 204, 96), (113, 118, 204, 96), (119, 124, 204, 96), (125, 130, 204, 96), (131, 137, 204, 96), (138, 144, 204, 96), (145, 149, 204, 96), (150, 154, 204, 96), (155, 160, 204, 96), (161, 166, 204, 96), (167, 172, 204, 96), (173, 178, 204, 96), (179, 184, 204, 96), (185, 190, 204, 96), (191, 196, 204, 96), (197, 203, 204, 96), (0, 93, 208, 98), (94, 100, 208, 98), (101, 106, 208, 98), (107, 112, 208, 98), (113, 118, 208, 98), (119, 124, 208, 98), (125, 130, 208, 98), (131, 137, 208, 98), (138, 144, 208, 98), (145, 149, 208, 98), (150, 154, 208, 98), (155, 160, 208, 98), (161, 166, 208, 98), (167, 172, 208, 98), (173, 178, 208, 98), (179, 184, 208, 98), (185, 190, 208, 98), (191, 196, 208, 98), (197, 203, 208, 98), (0, 93, 213, 100), (94, 100, 213, 100), (101, 106, 213, 100), (107, 112, 213, 100), (113, 118, 213, 100), (119, 124, 213, 100), (125, 130, 213, 100), (131, 137, 213, 100), (138, 144, 213, 100), (145, 149, 213, 100), (150, 154, 213, 100), (155, 160, 213, 100), (161, 166, 213, 100), (167, 172, 213, 100), (173, 178, 213, 100), (179, 184, 213, 100), (185, 190, 213, 100), (191, 196, 213, 100), (197, 203, 213, 100), (0, 93, 218, 102), (94, 100, 218, 102), (101, 106, 218, 102), (107, 112, 218, 102), (113, 118, 218, 102), (119, 124, 218, 102), (125, 130, 218, 102), (131, 137, 218, 102), (138, 144, 218, 102), (145, 149, 218, 102), (150, 154, 218, 102), (155, 160, 218, 102), (161, 166, 218, 102), (167, 172, 218, 102), (173, 178, 218, 102), (179, 184, 218, 102), (185, 190, 218, 102), (191, 196, 218, 102), (197, 203, 218, 102)]
abbrev actT : List ExceptionTableEntry := tableOf actH
abbrev ML_act : MT := (RL, cL_act, 5, some .int, actT, "act")
/-- the answer of act: the value, or the class' number -/
def acI (js : List Int32) (c : Nat) (v : Int32) : Int32 := if c = 0 then v else js.getD (c - 1) 0
def okE (j c : Nat) : Bool := (decide (1 ≤ j) && c == 96) || (decide (2 ≤ j) && c == 98) || (decide (3 ≤ j) && c == 100)
abbrev exN (j : Nat) : String := [eIO, eIA, eIS, eNS].getD j ""
theorem nc_1 : (eIA, eIO) ∈ wNc := by simp [wNc]
theorem nc_2 : (eIS, eIO) ∈ wNc := by simp [wNc]
theorem nc_3 : (eIS, eIA) ∈ wNc := by simp [wNc]
theorem nc_4 : (eNS, eIO) ∈ wNc := by simp [wNc]
theorem nc_5 : (eNS, eIA) ∈ wNc := by simp [wNc]
theorem nc_6 : (eNS, eIS) ∈ wNc := by simp [wNc]
theorem okE_pass {j c : Nat} (hj : j < 4) (h : okE j c = true) : c ≠ 0 ∧ ∃ nm : String, Cond.classLink RL c nm ∈ Big ∧ (exN j, nm) ∈ wNc := by
  unfold okE at h
  simp only [Bool.or_eq_true, Bool.and_eq_true, decide_eq_true_eq, beq_iff_eq] at h
  rcases h with (⟨h1, rfl⟩ | ⟨h1, rfl⟩) | ⟨h1, rfl⟩
  · refine ⟨by decide, eIO, cl_L_96, ?_⟩
    rcases (by omega : j = 1 ∨ j = 2 ∨ j = 3) with rfl | rfl | rfl
    · exact nc_1
    · exact nc_2
    · exact nc_4
  · refine ⟨by decide, eIA, cl_L_98, ?_⟩
    rcases (by omega : j = 2 ∨ j = 3) with rfl | rfl
    · exact nc_3
    · exact nc_5
  · refine ⟨by decide, eIS, cl_L_100, ?_⟩
    rcases (by omega : j = 3) with rfl
    exact nc_6
theorem okP {j pc : Nat} {pre : List ExceptionTableEntry} (hj : j < 4) (h : pre.all (fun z => !(covers z pc) || okE j z.catchType) = true) : ∀ z ∈ pre, covers z pc = false ∨ (z.catchType ≠ 0 ∧ ∃ nm : String, Cond.classLink RL z.catchType nm ∈ Big ∧ (exN j, nm) ∈ wNc) := fun z hz => by
  have h9 := List.all_eq_true.mp h z hz
  rw [Bool.or_eq_true] at h9
  rcases h9 with h9 | h9
  · left; cases hc : covers z pc with
    | false => rfl
    | true => rw [hc] at h9; cases h9
  · exact Or.inr (okE_pass hj h9)
section AXC
variable {l : Launch} {G : GT} {M : MT} {fr lo mc ms : Nat} {Post : PT} {n0 nc ns pc : Nat} {L : List (Nat × Value)} {S : List Value} {f : HT} {n : Nat}
theorem ax_catch2 {E : String} {j w : Nat} (pre : List ExceptionTableEntry) (x : ExceptionTableEntry) (suf : List ExceptionTableEntry) (hsplit : M.2.2.2.2.1 = pre ++ x :: suf)
    (hpass : ∀ z ∈ pre, covers z pc = false ∨ (z.catchType ≠ 0 ∧ ∃ nm : String, Cond.classLink M.1 z.catchType nm ∈ Big ∧ (E, nm) ∈ wNc)) (hx : covers x pc = true) (h0 : x.catchType ≠ 0) (hlink : Cond.classLink M.1 x.catchType E ∈ Big) (hcast : Cond.castable E E ∈ lw_nest)
    (hdg : (∃ k : Fin 4, (k : Nat) = j ∧ decode M.2.1 x.handlerPc = .ok (.astore_n k, 1) ∧ w = 1) ∨ (decode M.2.1 x.handlerPc = .ok (.astore j, 2) ∧ w = 2)) (hj : j < M.2.2.1) (hL : ∀ q ∈ L, q.1 ≠ j ∧ (q.1 + 1 = j → q.2.category ≠ 2))
    (k : AW l G M fr lo mc ms Post n0 nc ns (x.handlerPc + w) L [] f n) : AX l G M fr lo mc ms Post n0 nc ns pc L E f n := by
  intro p e s m args below meth c C ρ0 ρ H locs ls R q ce rest hq hv hcl
  refine vx_catch C.own pre x suf (by rw [C.tab]; exact hsplit) (fun z hz => (hpass z hz).imp id (fun h => ⟨h.1, ?_⟩)) hx h0 (C.ts _ hlink) (va_Nw.use rfl (C.old.2.2.2.2.2.2.2.2.2.1 _ hcast)) hq hv hcl ?_
  · obtain ⟨nm, h1, h2⟩ := h.2
    exact ⟨nm, C.ts _ h1, C.old.2.2.2.2.2.2.1 _ h2⟩
  have hgo : ∀ ls9 : Array Slot, lv_has ls9 M.2.2.1 ((j, Value.ref q) :: (L.map fun q => (q.1, cv ρ q.2)).filter (fun q => !(q.1 == j) && !(q.1 + 1 == j && q.2.category == 2))) → W p l e (rmA fr lo mc ms) s m args below meth c H locs nc ns (vx_MQ below (QcA G n0 ρ0 Post) (XCA G n0 ρ0 Post) args s mc ms (gF G)) (F0 m (x.handlerPc + w) ls9 []) := by
    intro ls9 h9
    have hR : Rel G M n0 ρ0 ρ L [] f n s H locs ls9 := by
      refine ⟨R.1, R.2.1, R.wd, R.okL, fun _ h => (by cases h), R.hS, h9.1, h9.2.1, fun z hz => h9.2.2 z (List.mem_cons_of_mem _ (List.mem_filter.mpr ⟨hz, ?_⟩))⟩
      obtain ⟨z0, hz0, rfl⟩ := List.mem_map.mp hz
      obtain ⟨a1, a2⟩ := hL z0 hz0
      simp only [Bool.and_eq_true, Bool.not_eq_true', beq_eq_false_iff_ne, ne_eq, Bool.and_eq_false_imp, beq_iff_eq]
      exact ⟨a1, fun h => by rw [cv_cat]; exact a2 h⟩
    exact k C hR
  rcases hdg with ⟨k9, hk9, hd9, hw9⟩ | ⟨hd9, hw9⟩
  · subst hw9
    exact lv_astore_n C.hx C.hb hd9 hk9 R.lv hj rfl hgo
  · subst hw9
    exact lv_astore C.hx C.hb hd9 R.lv hj rfl hgo
end AXC
set_option maxHeartbeats 4000000 in
theorem l_act_0 {l : Launch} {G : GT} {n : Nat} {H : HT} {x bp K : Nat} {s : SG} (hW : GW H x bp n s) (hSB : SB K s) (hK : K + 30500 < 16000000) (a b : Int32) : AM l G yL_act (.codeWith yL_act cL_act 5 (some .int) actH) 11 660 8 48 [.ref x, .int (nI 0), .int a, .int b] H n (GA (some (.int (acI [-2, -3] ((opAdd s.1 a).1) (nI (opAdd s.1 a).2.1)))) x bp H n (opS s (opAdd s.1 a))) := by
  refine aw_enterW (M := ML_act) (hh := actH) rfl rfl (by decide +kernel) rfl (Nat.le_of_ble_eq_true rfl) ?_
  show AW l G ML_act 11 660 8 48 _ n 0 0 0 [(0, .ref x), (1, .int (nI 0)), (2, .int a), (3, .int b)] [] _ n
  refine aw_iload_n dL_act_0 rfl rfl ?_
  refine aw_tableIn (tgt := 88) dL_act_1 (by decide) (by decide) rfl (by decide) ?_
  refine aw_aload_n dL_act_88 rfl rfl ?_
  refine aw_iload_n dL_act_89 rfl rfl ?_
  refine aw_cC (as := [Value.int a]) (rest := []) (MV.c mV_X10_addPendulum) (q_addPendulum (l := l) (G := G) hW hSB hK a) ml_L_37 (RC.w hW.1 rfl) dL_act_90 rfl rfl (by decide) (Nat.le_of_ble_eq_true rfl) (by decide) (fun E f9 n9 hn h => ?_) (fun r f9 n9 hn h => ?_)
  · obtain ⟨hr, h9⟩ := h
    obtain ⟨hc0, hE⟩ := xA_inr hr
    have hcm : (opAdd s.1 a).1 ≤ 2 := by unfold opAdd; (repeat' split) <;> exact Nat.le_of_ble_eq_true rfl
    rcases (by omega : (opAdd s.1 a).1 = 1 ∨ (opAdd s.1 a).1 = 2) with z | z
    · have hE2 : E = eIA := hE.trans (by rw [z]; rfl)
      subst hE2
      refine ax_catch2 (j := 4) (w := 2) (actT.take 19) ⟨0, 93, 208, 98⟩ (actT.drop 20) rfl (okP (j := 1) (by decide) (by decide)) (by decide) (by decide) cl_L_98 (by simp [lw_nest]) (Or.inr ⟨dL_act_208, rfl⟩) (by decide) (fun q hq => by simp only [List.mem_cons, List.not_mem_nil, or_false] at hq; rcases hq with rfl | rfl | rfl | rfl <;> exact ⟨Nat.ne_of_beq_eq_false rfl, fun _ => Nat.ne_of_beq_eq_false rfl⟩) ?_
      refine aw_bipush (v := -2) dL_act_210 (by decide) ?_
      exact aw_iret rfl (by decide) (by decide) dL_act_212 ⟨by rw [acI, if_neg hc0, z]; rfl, h9⟩
    · have hE2 : E = eIS := hE.trans (by rw [z]; rfl)
      subst hE2
      refine ax_catch2 (j := 4) (w := 2) (actT.take 38) ⟨0, 93, 213, 100⟩ (actT.drop 39) rfl (okP (j := 2) (by decide) (by decide)) (by decide) (by decide) cl_L_100 (by simp [lw_nest]) (Or.inr ⟨dL_act_213, rfl⟩) (by decide) (fun q hq => by simp only [List.mem_cons, List.not_mem_nil, or_false] at hq; rcases hq with rfl | rfl | rfl | rfl <;> exact ⟨Nat.ne_of_beq_eq_false rfl, fun _ => Nat.ne_of_beq_eq_false rfl⟩) ?_
      refine aw_bipush (v := -3) dL_act_215 (by decide) ?_
      exact aw_iret rfl (by decide) (by decide) dL_act_217 ⟨by rw [acI, if_neg hc0, z]; rfl, h9⟩
  · obtain ⟨hr, h9⟩ := h
    obtain ⟨hc0, hrv⟩ := xA_inl hr
    subst hrv
    exact aw_iret rfl (by decide) (by decide) dL_act_93 ⟨by rw [acI, if_pos hc0], h9⟩
set_option maxHeartbeats 4000000 in
theorem l_act_1 {l : Launch} {G : GT} {n : Nat} {H : HT} {x bp K : Nat} {s : SG} (hW : GW H x bp n s) (hSB : SB K s) (hK : K + 30500 < 16000000) (a b : Int32) : AM l G yL_act (.codeWith yL_act cL_act 5 (some .int) actH) 11 660 8 48 [.ref x, .int (nI 1), .int a, .int b] H n (GA (some (.int (acI [-1, -2, -3] ((opPush s.1 a b).1) (nI (opPush s.1 a b).2.1)))) x bp H n (opS s (opPush s.1 a b))) := by
  refine aw_enterW (M := ML_act) (hh := actH) rfl rfl (by decide +kernel) rfl (Nat.le_of_ble_eq_true rfl) ?_
  show AW l G ML_act 11 660 8 48 _ n 0 0 0 [(0, .ref x), (1, .int (nI 1)), (2, .int a), (3, .int b)] [] _ n
  refine aw_iload_n dL_act_0 rfl rfl ?_
  refine aw_tableIn (tgt := 94) dL_act_1 (by decide) (by decide) rfl (by decide) ?_
  refine aw_aload_n dL_act_94 rfl rfl ?_
  refine aw_iload_n dL_act_95 rfl rfl ?_
  refine aw_iload_n dL_act_96 rfl rfl ?_
  refine aw_cC (as := [Value.int a, Value.int b]) (rest := []) (MV.c mV_X10_push) (q_push (l := l) (G := G) hW hSB hK a b) ml_L_41 (RC.w hW.1 rfl) dL_act_97 rfl rfl (by decide) (Nat.le_of_ble_eq_true rfl) (by decide) (fun E f9 n9 hn h => ?_) (fun r f9 n9 hn h => ?_)
  · obtain ⟨hr, h9⟩ := h
    obtain ⟨hc0, hE⟩ := xA_inr hr
    have hcm : (opPush s.1 a b).1 ≤ 3 := by unfold opPush; (repeat' split) <;> exact Nat.le_of_ble_eq_true rfl
    rcases (by omega : (opPush s.1 a b).1 = 1 ∨ (opPush s.1 a b).1 = 2 ∨ (opPush s.1 a b).1 = 3) with z | z | z
    · have hE2 : E = eIO := hE.trans (by rw [z]; rfl)
      subst hE2
      refine ax_catch2 (j := 4) (w := 2) (actT.take 1) ⟨94, 100, 204, 96⟩ (actT.drop 2) rfl (okP (j := 0) (by decide) (by decide)) (by decide) (by decide) cl_L_96 (by simp [lw_nest]) (Or.inr ⟨dL_act_204, rfl⟩) (by decide) (fun q hq => by simp only [List.mem_cons, List.not_mem_nil, or_false] at hq; rcases hq with rfl | rfl | rfl | rfl <;> exact ⟨Nat.ne_of_beq_eq_false rfl, fun _ => Nat.ne_of_beq_eq_false rfl⟩) ?_
      refine aw_iconst (v := -1) dL_act_206 (by decide) ?_
      exact aw_iret rfl (by decide) (by decide) dL_act_207 ⟨by rw [acI, if_neg hc0, z]; rfl, h9⟩
    · have hE2 : E = eIA := hE.trans (by rw [z]; rfl)
      subst hE2
      refine ax_catch2 (j := 4) (w := 2) (actT.take 20) ⟨94, 100, 208, 98⟩ (actT.drop 21) rfl (okP (j := 1) (by decide) (by decide)) (by decide) (by decide) cl_L_98 (by simp [lw_nest]) (Or.inr ⟨dL_act_208, rfl⟩) (by decide) (fun q hq => by simp only [List.mem_cons, List.not_mem_nil, or_false] at hq; rcases hq with rfl | rfl | rfl | rfl <;> exact ⟨Nat.ne_of_beq_eq_false rfl, fun _ => Nat.ne_of_beq_eq_false rfl⟩) ?_
      refine aw_bipush (v := -2) dL_act_210 (by decide) ?_
      exact aw_iret rfl (by decide) (by decide) dL_act_212 ⟨by rw [acI, if_neg hc0, z]; rfl, h9⟩
    · have hE2 : E = eIS := hE.trans (by rw [z]; rfl)
      subst hE2
      refine ax_catch2 (j := 4) (w := 2) (actT.take 39) ⟨94, 100, 213, 100⟩ (actT.drop 40) rfl (okP (j := 2) (by decide) (by decide)) (by decide) (by decide) cl_L_100 (by simp [lw_nest]) (Or.inr ⟨dL_act_213, rfl⟩) (by decide) (fun q hq => by simp only [List.mem_cons, List.not_mem_nil, or_false] at hq; rcases hq with rfl | rfl | rfl | rfl <;> exact ⟨Nat.ne_of_beq_eq_false rfl, fun _ => Nat.ne_of_beq_eq_false rfl⟩) ?_
      refine aw_bipush (v := -3) dL_act_215 (by decide) ?_
      exact aw_iret rfl (by decide) (by decide) dL_act_217 ⟨by rw [acI, if_neg hc0, z]; rfl, h9⟩
  · obtain ⟨hr, h9⟩ := h
    obtain ⟨hc0, hrv⟩ := xA_inl hr
    subst hrv
    exact aw_iret rfl (by decide) (by decide) dL_act_100 ⟨by rw [acI, if_pos hc0], h9⟩
set_option maxHeartbeats 4000000 in
theorem l_act_2 {l : Launch} {G : GT} {n : Nat} {H : HT} {x bp K : Nat} {s : SG} (hW : GW H x bp n s) (hSB : SB K s) (hK : K + 30500 < 16000000) (a b : Int32) : AM l G yL_act (.codeWith yL_act cL_act 5 (some .int) actH) 11 660 8 48 [.ref x, .int (nI 2), .int a, .int b] H n (GA (some (.int (acI [-1, -3] ((opCatch s.1 a).1) (nI (opCatch s.1 a).2.1)))) x bp H n (opS s (opCatch s.1 a))) := by
  refine aw_enterW (M := ML_act) (hh := actH) rfl rfl (by decide +kernel) rfl (Nat.le_of_ble_eq_true rfl) ?_
  show AW l G ML_act 11 660 8 48 _ n 0 0 0 [(0, .ref x), (1, .int (nI 2)), (2, .int a), (3, .int b)] [] _ n
  refine aw_iload_n dL_act_0 rfl rfl ?_
  refine aw_tableIn (tgt := 101) dL_act_1 (by decide) (by decide) rfl (by decide) ?_
  refine aw_aload_n dL_act_101 rfl rfl ?_
  refine aw_iload_n dL_act_102 rfl rfl ?_
  refine aw_cC (as := [Value.int a]) (rest := []) (MV.c mV_X10_catchPendulum) (q_catchPendulum (l := l) (G := G) hW hSB hK a) ml_L_45 (RC.w hW.1 rfl) dL_act_103 rfl rfl (by decide) (Nat.le_of_ble_eq_true rfl) (by decide) (fun E f9 n9 hn h => ?_) (fun r f9 n9 hn h => ?_)
  · obtain ⟨hr, h9⟩ := h
    obtain ⟨hc0, hE⟩ := xA_inr hr
    have hcm : (opCatch s.1 a).1 ≤ 2 := by unfold opCatch; (repeat' split) <;> exact Nat.le_of_ble_eq_true rfl
    rcases (by omega : (opCatch s.1 a).1 = 1 ∨ (opCatch s.1 a).1 = 2) with z | z
    · have hE2 : E = eIO := hE.trans (by rw [z]; rfl)
      subst hE2
      refine ax_catch2 (j := 4) (w := 2) (actT.take 2) ⟨101, 106, 204, 96⟩ (actT.drop 3) rfl (okP (j := 0) (by decide) (by decide)) (by decide) (by decide) cl_L_96 (by simp [lw_nest]) (Or.inr ⟨dL_act_204, rfl⟩) (by decide) (fun q hq => by simp only [List.mem_cons, List.not_mem_nil, or_false] at hq; rcases hq with rfl | rfl | rfl | rfl <;> exact ⟨Nat.ne_of_beq_eq_false rfl, fun _ => Nat.ne_of_beq_eq_false rfl⟩) ?_
      refine aw_iconst (v := -1) dL_act_206 (by decide) ?_
      exact aw_iret rfl (by decide) (by decide) dL_act_207 ⟨by rw [acI, if_neg hc0, z]; rfl, h9⟩
    · have hE2 : E = eIS := hE.trans (by rw [z]; rfl)
      subst hE2
      refine ax_catch2 (j := 4) (w := 2) (actT.take 40) ⟨101, 106, 213, 100⟩ (actT.drop 41) rfl (okP (j := 2) (by decide) (by decide)) (by decide) (by decide) cl_L_100 (by simp [lw_nest]) (Or.inr ⟨dL_act_213, rfl⟩) (by decide) (fun q hq => by simp only [List.mem_cons, List.not_mem_nil, or_false] at hq; rcases hq with rfl | rfl | rfl | rfl <;> exact ⟨Nat.ne_of_beq_eq_false rfl, fun _ => Nat.ne_of_beq_eq_false rfl⟩) ?_
      refine aw_bipush (v := -3) dL_act_215 (by decide) ?_
      exact aw_iret rfl (by decide) (by decide) dL_act_217 ⟨by rw [acI, if_neg hc0, z]; rfl, h9⟩
  · obtain ⟨hr, h9⟩ := h
    obtain ⟨hc0, hrv⟩ := xA_inl hr
    subst hrv
    exact aw_iret rfl (by decide) (by decide) dL_act_106 ⟨by rw [acI, if_pos hc0], h9⟩
set_option maxHeartbeats 4000000 in
theorem l_act_3 {l : Launch} {G : GT} {n : Nat} {H : HT} {x bp K : Nat} {s : SG} (hW : GW H x bp n s) (hSB : SB K s) (hK : K + 30500 < 16000000) (a b : Int32) : AM l G yL_act (.codeWith yL_act cL_act 5 (some .int) actH) 11 660 8 48 [.ref x, .int (nI 3), .int a, .int b] H n (GA (some (.int (acI [-2] ((opFric s.1 a).1) (nI (opFric s.1 a).2.1)))) x bp H n (opS s (opFric s.1 a))) := by
  refine aw_enterW (M := ML_act) (hh := actH) rfl rfl (by decide +kernel) rfl (Nat.le_of_ble_eq_true rfl) ?_
  show AW l G ML_act 11 660 8 48 _ n 0 0 0 [(0, .ref x), (1, .int (nI 3)), (2, .int a), (3, .int b)] [] _ n
  refine aw_iload_n dL_act_0 rfl rfl ?_
  refine aw_tableIn (tgt := 107) dL_act_1 (by decide) (by decide) rfl (by decide) ?_
  refine aw_aload_n dL_act_107 rfl rfl ?_
  refine aw_iload_n dL_act_108 rfl rfl ?_
  refine aw_cC (as := [Value.int a]) (rest := []) (MV.c mV_X10_setFriction) (q_setFriction (l := l) (G := G) hW hSB hK a) ml_L_48 (RC.w hW.1 rfl) dL_act_109 rfl rfl (by decide) (Nat.le_of_ble_eq_true rfl) (by decide) (fun E f9 n9 hn h => ?_) (fun r f9 n9 hn h => ?_)
  · obtain ⟨hr, h9⟩ := h
    obtain ⟨hc0, hE⟩ := xA_inr hr
    have hcm : (opFric s.1 a).1 ≤ 1 := by unfold opFric; (repeat' split) <;> exact Nat.le_of_ble_eq_true rfl
    have z : (opFric s.1 a).1 = 1 := by omega
    have hE2 : E = eIA := hE.trans (by rw [z]; rfl)
    subst hE2
    refine ax_catch2 (j := 4) (w := 2) (actT.take 22) ⟨107, 112, 208, 98⟩ (actT.drop 23) rfl (okP (j := 1) (by decide) (by decide)) (by decide) (by decide) cl_L_98 (by simp [lw_nest]) (Or.inr ⟨dL_act_208, rfl⟩) (by decide) (fun q hq => by simp only [List.mem_cons, List.not_mem_nil, or_false] at hq; rcases hq with rfl | rfl | rfl | rfl <;> exact ⟨Nat.ne_of_beq_eq_false rfl, fun _ => Nat.ne_of_beq_eq_false rfl⟩) ?_
    refine aw_bipush (v := -2) dL_act_210 (by decide) ?_
    exact aw_iret rfl (by decide) (by decide) dL_act_212 ⟨by rw [acI, if_neg hc0, z]; rfl, h9⟩
  · obtain ⟨hr, h9⟩ := h
    obtain ⟨hc0, hrv⟩ := xA_inl hr
    subst hrv
    exact aw_iret rfl (by decide) (by decide) dL_act_112 ⟨by rw [acI, if_pos hc0], h9⟩
set_option maxHeartbeats 4000000 in
theorem l_act_4 {l : Launch} {G : GT} {n : Nat} {H : HT} {x bp K : Nat} {s : SG} (hW : GW H x bp n s) (hSB : SB K s) (hK : K + 30500 < 16000000) (a b : Int32) : AM l G yL_act (.codeWith yL_act cL_act 5 (some .int) actH) 11 660 8 48 [.ref x, .int (nI 4), .int a, .int b] H n (GA (some (.int (acI [-2] ((opPass s.1 a).1) (nI (opPass s.1 a).2.1)))) x bp H n (opS s (opPass s.1 a))) := by
  refine aw_enterW (M := ML_act) (hh := actH) rfl rfl (by decide +kernel) rfl (Nat.le_of_ble_eq_true rfl) ?_
  show AW l G ML_act 11 660 8 48 _ n 0 0 0 [(0, .ref x), (1, .int (nI 4)), (2, .int a), (3, .int b)] [] _ n
  refine aw_iload_n dL_act_0 rfl rfl ?_
  refine aw_tableIn (tgt := 113) dL_act_1 (by decide) (by decide) rfl (by decide) ?_
  refine aw_aload_n dL_act_113 rfl rfl ?_
  refine aw_iload_n dL_act_114 rfl rfl ?_
  refine aw_cC (as := [Value.int a]) (rest := []) (MV.c mV_X10_pass) (q_pass (l := l) (G := G) hW hSB hK a) ml_L_51 (RC.w hW.1 rfl) dL_act_115 rfl rfl (by decide) (Nat.le_of_ble_eq_true rfl) (by decide) (fun E f9 n9 hn h => ?_) (fun r f9 n9 hn h => ?_)
  · obtain ⟨hr, h9⟩ := h
    obtain ⟨hc0, hE⟩ := xA_inr hr
    have hcm : (opPass s.1 a).1 ≤ 1 := by unfold opPass; (repeat' split) <;> exact Nat.le_of_ble_eq_true rfl
    have z : (opPass s.1 a).1 = 1 := by omega
    have hE2 : E = eIA := hE.trans (by rw [z]; rfl)
    subst hE2
    refine ax_catch2 (j := 4) (w := 2) (actT.take 23) ⟨113, 118, 208, 98⟩ (actT.drop 24) rfl (okP (j := 1) (by decide) (by decide)) (by decide) (by decide) cl_L_98 (by simp [lw_nest]) (Or.inr ⟨dL_act_208, rfl⟩) (by decide) (fun q hq => by simp only [List.mem_cons, List.not_mem_nil, or_false] at hq; rcases hq with rfl | rfl | rfl | rfl <;> exact ⟨Nat.ne_of_beq_eq_false rfl, fun _ => Nat.ne_of_beq_eq_false rfl⟩) ?_
    refine aw_bipush (v := -2) dL_act_210 (by decide) ?_
    exact aw_iret rfl (by decide) (by decide) dL_act_212 ⟨by rw [acI, if_neg hc0, z]; rfl, h9⟩
  · obtain ⟨hr, h9⟩ := h
    obtain ⟨hc0, hrv⟩ := xA_inl hr
    subst hrv
    exact aw_iret rfl (by decide) (by decide) dL_act_118 ⟨by rw [acI, if_pos hc0], h9⟩
set_option maxHeartbeats 4000000 in
theorem l_act_5 {l : Launch} {G : GT} {n : Nat} {H : HT} {x bp K : Nat} {s : SG} (hW : GW H x bp n s) (hSB : SB K s) (hK : K + 30500 < 16000000) (a b : Int32) : AM l G yL_act (.codeWith yL_act cL_act 5 (some .int) actH) 11 660 8 48 [.ref x, .int (nI 5), .int a, .int b] H n (GA (some (.int (acI [-2, -3] ((opLeg s.1 a).1) (nI (opLeg s.1 a).2.1)))) x bp H n (opS s (opLeg s.1 a))) := by
  refine aw_enterW (M := ML_act) (hh := actH) rfl rfl (by decide +kernel) rfl (Nat.le_of_ble_eq_true rfl) ?_
  show AW l G ML_act 11 660 8 48 _ n 0 0 0 [(0, .ref x), (1, .int (nI 5)), (2, .int a), (3, .int b)] [] _ n
  refine aw_iload_n dL_act_0 rfl rfl ?_
  refine aw_tableIn (tgt := 119) dL_act_1 (by decide) (by decide) rfl (by decide) ?_
  refine aw_aload_n dL_act_119 rfl rfl ?_
  refine aw_iload_n dL_act_120 rfl rfl ?_
  refine aw_cC (as := [Value.int a]) (rest := []) (MV.c mV_X10_addLeg) (q_addLeg (l := l) (G := G) hW hSB hK a) ml_L_54 (RC.w hW.1 rfl) dL_act_121 rfl rfl (by decide) (Nat.le_of_ble_eq_true rfl) (by decide) (fun E f9 n9 hn h => ?_) (fun r f9 n9 hn h => ?_)
  · obtain ⟨hr, h9⟩ := h
    obtain ⟨hc0, hE⟩ := xA_inr hr
    have hcm : (opLeg s.1 a).1 ≤ 2 := by unfold opLeg; (repeat' split) <;> exact Nat.le_of_ble_eq_true rfl
    rcases (by omega : (opLeg s.1 a).1 = 1 ∨ (opLeg s.1 a).1 = 2) with z | z
    · have hE2 : E = eIA := hE.trans (by rw [z]; rfl)
      subst hE2
      refine ax_catch2 (j := 4) (w := 2) (actT.take 24) ⟨119, 124, 208, 98⟩ (actT.drop 25) rfl (okP (j := 1) (by decide) (by decide)) (by decide) (by decide) cl_L_98 (by simp [lw_nest]) (Or.inr ⟨dL_act_208, rfl⟩) (by decide) (fun q hq => by simp only [List.mem_cons, List.not_mem_nil, or_false] at hq; rcases hq with rfl | rfl | rfl | rfl <;> exact ⟨Nat.ne_of_beq_eq_false rfl, fun _ => Nat.ne_of_beq_eq_false rfl⟩) ?_
      refine aw_bipush (v := -2) dL_act_210 (by decide) ?_
      exact aw_iret rfl (by decide) (by decide) dL_act_212 ⟨by rw [acI, if_neg hc0, z]; rfl, h9⟩
    · have hE2 : E = eIS := hE.trans (by rw [z]; rfl)
      subst hE2
      refine ax_catch2 (j := 4) (w := 2) (actT.take 43) ⟨119, 124, 213, 100⟩ (actT.drop 44) rfl (okP (j := 2) (by decide) (by decide)) (by decide) (by decide) cl_L_100 (by simp [lw_nest]) (Or.inr ⟨dL_act_213, rfl⟩) (by decide) (fun q hq => by simp only [List.mem_cons, List.not_mem_nil, or_false] at hq; rcases hq with rfl | rfl | rfl | rfl <;> exact ⟨Nat.ne_of_beq_eq_false rfl, fun _ => Nat.ne_of_beq_eq_false rfl⟩) ?_
      refine aw_bipush (v := -3) dL_act_215 (by decide) ?_
      exact aw_iret rfl (by decide) (by decide) dL_act_217 ⟨by rw [acI, if_neg hc0, z]; rfl, h9⟩
  · obtain ⟨hr, h9⟩ := h
    obtain ⟨hc0, hrv⟩ := xA_inl hr
    subst hrv
    exact aw_iret rfl (by decide) (by decide) dL_act_124 ⟨by rw [acI, if_pos hc0], h9⟩
set_option maxHeartbeats 4000000 in
theorem l_act_6 {l : Launch} {G : GT} {n : Nat} {H : HT} {x bp K : Nat} {s : SG} (hW : GW H x bp n s) (hSB : SB K s) (hK : K + 30500 < 16000000) (a b : Int32) : AM l G yL_act (.codeWith yL_act cL_act 5 (some .int) actH) 11 660 8 48 [.ref x, .int (nI 6), .int a, .int b] H n (GA (some (.int (acI [-1] ((opCut s.1 a).1) (nI (opCut s.1 a).2.1)))) x bp H n (opS s (opCut s.1 a))) := by
  refine aw_enterW (M := ML_act) (hh := actH) rfl rfl (by decide +kernel) rfl (Nat.le_of_ble_eq_true rfl) ?_
  show AW l G ML_act 11 660 8 48 _ n 0 0 0 [(0, .ref x), (1, .int (nI 6)), (2, .int a), (3, .int b)] [] _ n
  refine aw_iload_n dL_act_0 rfl rfl ?_
  refine aw_tableIn (tgt := 125) dL_act_1 (by decide) (by decide) rfl (by decide) ?_
  refine aw_aload_n dL_act_125 rfl rfl ?_
  refine aw_iload_n dL_act_126 rfl rfl ?_
  refine aw_cC (as := [Value.int a]) (rest := []) (MV.c mV_X10_removeLeg) (q_removeLeg (l := l) (G := G) hW hSB hK a) ml_L_57 (RC.w hW.1 rfl) dL_act_127 rfl rfl (by decide) (Nat.le_of_ble_eq_true rfl) (by decide) (fun E f9 n9 hn h => ?_) (fun r f9 n9 hn h => ?_)
  · obtain ⟨hr, h9⟩ := h
    obtain ⟨hc0, hE⟩ := xA_inr hr
    have hcm : (opCut s.1 a).1 ≤ 1 := by unfold opCut; (repeat' split) <;> exact Nat.le_of_ble_eq_true rfl
    have z : (opCut s.1 a).1 = 1 := by omega
    have hE2 : E = eIO := hE.trans (by rw [z]; rfl)
    subst hE2
    refine ax_catch2 (j := 4) (w := 2) (actT.take 6) ⟨125, 130, 204, 96⟩ (actT.drop 7) rfl (okP (j := 0) (by decide) (by decide)) (by decide) (by decide) cl_L_96 (by simp [lw_nest]) (Or.inr ⟨dL_act_204, rfl⟩) (by decide) (fun q hq => by simp only [List.mem_cons, List.not_mem_nil, or_false] at hq; rcases hq with rfl | rfl | rfl | rfl <;> exact ⟨Nat.ne_of_beq_eq_false rfl, fun _ => Nat.ne_of_beq_eq_false rfl⟩) ?_
    refine aw_iconst (v := -1) dL_act_206 (by decide) ?_
    exact aw_iret rfl (by decide) (by decide) dL_act_207 ⟨by rw [acI, if_neg hc0, z]; rfl, h9⟩
  · obtain ⟨hr, h9⟩ := h
    obtain ⟨hc0, hrv⟩ := xA_inl hr
    subst hrv
    exact aw_iret rfl (by decide) (by decide) dL_act_130 ⟨by rw [acI, if_pos hc0], h9⟩
set_option maxHeartbeats 4000000 in
theorem l_act_7 {l : Launch} {G : GT} {n : Nat} {H : HT} {x bp K : Nat} {s : SG} (hW : GW H x bp n s) (hSB : SB K s) (hK : K + 30500 < 16000000) (a b : Int32) : AM l G yL_act (.codeWith yL_act cL_act 5 (some .int) actH) 11 660 8 48 [.ref x, .int (nI 7), .int a, .int b] H n (GA (some (.int (acI [-1, -3, -4] ((qMeet s.1 a b).1) (nI (qMeet s.1 a b).2)))) x bp H n (s)) := by
  refine aw_enterW (M := ML_act) (hh := actH) rfl rfl (by decide +kernel) rfl (Nat.le_of_ble_eq_true rfl) ?_
  show AW l G ML_act 11 660 8 48 _ n 0 0 0 [(0, .ref x), (1, .int (nI 7)), (2, .int a), (3, .int b)] [] _ n
  refine aw_iload_n dL_act_0 rfl rfl ?_
  refine aw_tableIn (tgt := 131) dL_act_1 (by decide) (by decide) rfl (by decide) ?_
  refine aw_aload_n dL_act_131 rfl rfl ?_
  refine aw_iload_n dL_act_132 rfl rfl ?_
  refine aw_iload_n dL_act_133 rfl rfl ?_
  refine aw_cC (as := [Value.int a, Value.int b]) (rest := []) (MV.c mV_X10_meeting) (q_meeting (l := l) (G := G) hW hSB hK a b) ml_L_60 (RC.w hW.1 rfl) dL_act_134 rfl rfl (by decide) (Nat.le_of_ble_eq_true rfl) (by decide) (fun E f9 n9 hn h => ?_) (fun r f9 n9 hn h => ?_)
  · obtain ⟨hr, h9⟩ := h
    obtain ⟨hc0, hE⟩ := xA_inr hr
    have hcm : (qMeet s.1 a b).1 ≤ 3 := by unfold qMeet; (repeat' split) <;> exact Nat.le_of_ble_eq_true rfl
    rcases (by omega : (qMeet s.1 a b).1 = 1 ∨ (qMeet s.1 a b).1 = 2 ∨ (qMeet s.1 a b).1 = 3) with z | z | z
    · have hE2 : E = eIO := hE.trans (by rw [z]; rfl)
      subst hE2
      refine ax_catch2 (j := 4) (w := 2) (actT.take 7) ⟨131, 137, 204, 96⟩ (actT.drop 8) rfl (okP (j := 0) (by decide) (by decide)) (by decide) (by decide) cl_L_96 (by simp [lw_nest]) (Or.inr ⟨dL_act_204, rfl⟩) (by decide) (fun q hq => by simp only [List.mem_cons, List.not_mem_nil, or_false] at hq; rcases hq with rfl | rfl | rfl | rfl <;> exact ⟨Nat.ne_of_beq_eq_false rfl, fun _ => Nat.ne_of_beq_eq_false rfl⟩) ?_
      refine aw_iconst (v := -1) dL_act_206 (by decide) ?_
      exact aw_iret rfl (by decide) (by decide) dL_act_207 ⟨by rw [acI, if_neg hc0, z]; rfl, h9⟩
    · have hE2 : E = eIS := hE.trans (by rw [z]; rfl)
      subst hE2
      refine ax_catch2 (j := 4) (w := 2) (actT.take 45) ⟨131, 137, 213, 100⟩ (actT.drop 46) rfl (okP (j := 2) (by decide) (by decide)) (by decide) (by decide) cl_L_100 (by simp [lw_nest]) (Or.inr ⟨dL_act_213, rfl⟩) (by decide) (fun q hq => by simp only [List.mem_cons, List.not_mem_nil, or_false] at hq; rcases hq with rfl | rfl | rfl | rfl <;> exact ⟨Nat.ne_of_beq_eq_false rfl, fun _ => Nat.ne_of_beq_eq_false rfl⟩) ?_
      refine aw_bipush (v := -3) dL_act_215 (by decide) ?_
      exact aw_iret rfl (by decide) (by decide) dL_act_217 ⟨by rw [acI, if_neg hc0, z]; rfl, h9⟩
    · have hE2 : E = eNS := hE.trans (by rw [z]; rfl)
      subst hE2
      refine ax_catch2 (j := 4) (w := 2) (actT.take 64) ⟨131, 137, 218, 102⟩ (actT.drop 65) rfl (okP (j := 3) (by decide) (by decide)) (by decide) (by decide) cl_L_102 (by simp [lw_nest]) (Or.inr ⟨dL_act_218, rfl⟩) (by decide) (fun q hq => by simp only [List.mem_cons, List.not_mem_nil, or_false] at hq; rcases hq with rfl | rfl | rfl | rfl <;> exact ⟨Nat.ne_of_beq_eq_false rfl, fun _ => Nat.ne_of_beq_eq_false rfl⟩) ?_
      refine aw_bipush (v := -4) dL_act_220 (by decide) ?_
      exact aw_iret rfl (by decide) (by decide) dL_act_222 ⟨by rw [acI, if_neg hc0, z]; rfl, h9⟩
  · obtain ⟨hr, h9⟩ := h
    obtain ⟨hc0, hrv⟩ := xA_inl hr
    subst hrv
    exact aw_iret rfl (by decide) (by decide) dL_act_137 ⟨by rw [acI, if_pos hc0], h9⟩
set_option maxHeartbeats 4000000 in
theorem l_act_8 {l : Launch} {G : GT} {n : Nat} {H : HT} {x bp K : Nat} {s : SG} (hW : GW H x bp n s) (hSB : SB K s) (hK : K + 30500 < 16000000) (a b : Int32) : AM l G yL_act (.codeWith yL_act cL_act 5 (some .int) actH) 11 660 8 48 [.ref x, .int (nI 8), .int a, .int b] H n (GA (some (.int (acI [-1, -3, -4] ((qMeet s.1 a b).1) (nI (qMeet s.1 a b).2)))) x bp H n (s)) := by
  refine aw_enterW (M := ML_act) (hh := actH) rfl rfl (by decide +kernel) rfl (Nat.le_of_ble_eq_true rfl) ?_
  show AW l G ML_act 11 660 8 48 _ n 0 0 0 [(0, .ref x), (1, .int (nI 8)), (2, .int a), (3, .int b)] [] _ n
  refine aw_iload_n dL_act_0 rfl rfl ?_
  refine aw_tableIn (tgt := 138) dL_act_1 (by decide) (by decide) rfl (by decide) ?_
  refine aw_aload_n dL_act_138 rfl rfl ?_
  refine aw_iload_n dL_act_139 rfl rfl ?_
  refine aw_iload_n dL_act_140 rfl rfl ?_
  refine aw_cC (as := [Value.int a, Value.int b]) (rest := []) (MV.c mV_X10_meetingByDivisors) (q_meetingByDivisors (l := l) (G := G) hW hSB hK a b) ml_L_63 (RC.w hW.1 rfl) dL_act_141 rfl rfl (by decide) (Nat.le_of_ble_eq_true rfl) (by decide) (fun E f9 n9 hn h => ?_) (fun r f9 n9 hn h => ?_)
  · obtain ⟨hr, h9⟩ := h
    obtain ⟨hc0, hE⟩ := xA_inr hr
    have hcm : (qMeet s.1 a b).1 ≤ 3 := by unfold qMeet; (repeat' split) <;> exact Nat.le_of_ble_eq_true rfl
    rcases (by omega : (qMeet s.1 a b).1 = 1 ∨ (qMeet s.1 a b).1 = 2 ∨ (qMeet s.1 a b).1 = 3) with z | z | z
    · have hE2 : E = eIO := hE.trans (by rw [z]; rfl)
      subst hE2
      refine ax_catch2 (j := 4) (w := 2) (actT.take 8) ⟨138, 144, 204, 96⟩ (actT.drop 9) rfl (okP (j := 0) (by decide) (by decide)) (by decide) (by decide) cl_L_96 (by simp [lw_nest]) (Or.inr ⟨dL_act_204, rfl⟩) (by decide) (fun q hq => by simp only [List.mem_cons, List.not_mem_nil, or_false] at hq; rcases hq with rfl | rfl | rfl | rfl <;> exact ⟨Nat.ne_of_beq_eq_false rfl, fun _ => Nat.ne_of_beq_eq_false rfl⟩) ?_
      refine aw_iconst (v := -1) dL_act_206 (by decide) ?_
      exact aw_iret rfl (by decide) (by decide) dL_act_207 ⟨by rw [acI, if_neg hc0, z]; rfl, h9⟩
    · have hE2 : E = eIS := hE.trans (by rw [z]; rfl)
      subst hE2
      refine ax_catch2 (j := 4) (w := 2) (actT.take 46) ⟨138, 144, 213, 100⟩ (actT.drop 47) rfl (okP (j := 2) (by decide) (by decide)) (by decide) (by decide) cl_L_100 (by simp [lw_nest]) (Or.inr ⟨dL_act_213, rfl⟩) (by decide) (fun q hq => by simp only [List.mem_cons, List.not_mem_nil, or_false] at hq; rcases hq with rfl | rfl | rfl | rfl <;> exact ⟨Nat.ne_of_beq_eq_false rfl, fun _ => Nat.ne_of_beq_eq_false rfl⟩) ?_
      refine aw_bipush (v := -3) dL_act_215 (by decide) ?_
      exact aw_iret rfl (by decide) (by decide) dL_act_217 ⟨by rw [acI, if_neg hc0, z]; rfl, h9⟩
    · have hE2 : E = eNS := hE.trans (by rw [z]; rfl)
      subst hE2
      refine ax_catch2 (j := 4) (w := 2) (actT.take 65) ⟨138, 144, 218, 102⟩ (actT.drop 66) rfl (okP (j := 3) (by decide) (by decide)) (by decide) (by decide) cl_L_102 (by simp [lw_nest]) (Or.inr ⟨dL_act_218, rfl⟩) (by decide) (fun q hq => by simp only [List.mem_cons, List.not_mem_nil, or_false] at hq; rcases hq with rfl | rfl | rfl | rfl <;> exact ⟨Nat.ne_of_beq_eq_false rfl, fun _ => Nat.ne_of_beq_eq_false rfl⟩) ?_
      refine aw_bipush (v := -4) dL_act_220 (by decide) ?_
      exact aw_iret rfl (by decide) (by decide) dL_act_222 ⟨by rw [acI, if_neg hc0, z]; rfl, h9⟩
  · obtain ⟨hr, h9⟩ := h
    obtain ⟨hc0, hrv⟩ := xA_inl hr
    subst hrv
    exact aw_iret rfl (by decide) (by decide) dL_act_144 ⟨by rw [acI, if_pos hc0], h9⟩
set_option maxHeartbeats 4000000 in
theorem l_act_11 {l : Launch} {G : GT} {n : Nat} {H : HT} {x bp K : Nat} {s : SG} (hW : GW H x bp n s) (hSB : SB K s) (hK : K + 30500 < 16000000) (a b : Int32) : AM l G yL_act (.codeWith yL_act cL_act 5 (some .int) actH) 11 660 8 48 [.ref x, .int (nI 11), .int a, .int b] H n (GA (some (.int (acI [-1, -3] ((qRunner s.1 a).1) (nI (qRunner s.1 a).2)))) x bp H n (s)) := by
  refine aw_enterW (M := ML_act) (hh := actH) rfl rfl (by decide +kernel) rfl (Nat.le_of_ble_eq_true rfl) ?_
  show AW l G ML_act 11 660 8 48 _ n 0 0 0 [(0, .ref x), (1, .int (nI 11)), (2, .int a), (3, .int b)] [] _ n
  refine aw_iload_n dL_act_0 rfl rfl ?_
  refine aw_tableIn (tgt := 155) dL_act_1 (by decide) (by decide) rfl (by decide) ?_
  refine aw_aload_n dL_act_155 rfl rfl ?_
  refine aw_iload_n dL_act_156 rfl rfl ?_
  refine aw_cC (as := [Value.int a]) (rest := []) (MV.c mV_X10_runnerOf) (q_runnerOf (l := l) (G := G) hW hSB hK a) ml_L_72 (RC.w hW.1 rfl) dL_act_157 rfl rfl (by decide) (Nat.le_of_ble_eq_true rfl) (by decide) (fun E f9 n9 hn h => ?_) (fun r f9 n9 hn h => ?_)
  · obtain ⟨hr, h9⟩ := h
    obtain ⟨hc0, hE⟩ := xA_inr hr
    have hcm : (qRunner s.1 a).1 ≤ 2 := by unfold qRunner; (repeat' split) <;> exact Nat.le_of_ble_eq_true rfl
    rcases (by omega : (qRunner s.1 a).1 = 1 ∨ (qRunner s.1 a).1 = 2) with z | z
    · have hE2 : E = eIO := hE.trans (by rw [z]; rfl)
      subst hE2
      refine ax_catch2 (j := 4) (w := 2) (actT.take 11) ⟨155, 160, 204, 96⟩ (actT.drop 12) rfl (okP (j := 0) (by decide) (by decide)) (by decide) (by decide) cl_L_96 (by simp [lw_nest]) (Or.inr ⟨dL_act_204, rfl⟩) (by decide) (fun q hq => by simp only [List.mem_cons, List.not_mem_nil, or_false] at hq; rcases hq with rfl | rfl | rfl | rfl <;> exact ⟨Nat.ne_of_beq_eq_false rfl, fun _ => Nat.ne_of_beq_eq_false rfl⟩) ?_
      refine aw_iconst (v := -1) dL_act_206 (by decide) ?_
      exact aw_iret rfl (by decide) (by decide) dL_act_207 ⟨by rw [acI, if_neg hc0, z]; rfl, h9⟩
    · have hE2 : E = eIS := hE.trans (by rw [z]; rfl)
      subst hE2
      refine ax_catch2 (j := 4) (w := 2) (actT.take 49) ⟨155, 160, 213, 100⟩ (actT.drop 50) rfl (okP (j := 2) (by decide) (by decide)) (by decide) (by decide) cl_L_100 (by simp [lw_nest]) (Or.inr ⟨dL_act_213, rfl⟩) (by decide) (fun q hq => by simp only [List.mem_cons, List.not_mem_nil, or_false] at hq; rcases hq with rfl | rfl | rfl | rfl <;> exact ⟨Nat.ne_of_beq_eq_false rfl, fun _ => Nat.ne_of_beq_eq_false rfl⟩) ?_
      refine aw_bipush (v := -3) dL_act_215 (by decide) ?_
      exact aw_iret rfl (by decide) (by decide) dL_act_217 ⟨by rw [acI, if_neg hc0, z]; rfl, h9⟩
  · obtain ⟨hr, h9⟩ := h
    obtain ⟨hc0, hrv⟩ := xA_inl hr
    subst hrv
    exact aw_iret rfl (by decide) (by decide) dL_act_160 ⟨by rw [acI, if_pos hc0], h9⟩
set_option maxHeartbeats 4000000 in
theorem l_act_12 {l : Launch} {G : GT} {n : Nat} {H : HT} {x bp K : Nat} {s : SG} (hW : GW H x bp n s) (hSB : SB K s) (hK : K + 30500 < 16000000) (a b : Int32) : AM l G yL_act (.codeWith yL_act cL_act 5 (some .int) actH) 11 660 8 48 [.ref x, .int (nI 12), .int a, .int b] H n (GA (some (.int (acI [-2, -4] ((qFew s.1 a).1) (nI (qFew s.1 a).2)))) x bp H n (s)) := by
  refine aw_enterW (M := ML_act) (hh := actH) rfl rfl (by decide +kernel) rfl (Nat.le_of_ble_eq_true rfl) ?_
  show AW l G ML_act 11 660 8 48 _ n 0 0 0 [(0, .ref x), (1, .int (nI 12)), (2, .int a), (3, .int b)] [] _ n
  refine aw_iload_n dL_act_0 rfl rfl ?_
  refine aw_tableIn (tgt := 161) dL_act_1 (by decide) (by decide) rfl (by decide) ?_
  refine aw_aload_n dL_act_161 rfl rfl ?_
  refine aw_iload_n dL_act_162 rfl rfl ?_
  refine aw_cC (as := [Value.int a]) (rest := []) (MV.c mV_X10_fewestFor) (q_fewestFor (l := l) (G := G) hW hSB hK a) ml_L_75 (RC.w hW.1 rfl) dL_act_163 rfl rfl (by decide) (Nat.le_of_ble_eq_true rfl) (by decide) (fun E f9 n9 hn h => ?_) (fun r f9 n9 hn h => ?_)
  · obtain ⟨hr, h9⟩ := h
    obtain ⟨hc0, hE⟩ := xA_inr hr
    have hcm : (qFew s.1 a).1 ≤ 2 := by unfold qFew; (repeat' split) <;> exact Nat.le_of_ble_eq_true rfl
    rcases (by omega : (qFew s.1 a).1 = 1 ∨ (qFew s.1 a).1 = 2) with z | z
    · have hE2 : E = eIA := hE.trans (by rw [z]; rfl)
      subst hE2
      refine ax_catch2 (j := 4) (w := 2) (actT.take 31) ⟨161, 166, 208, 98⟩ (actT.drop 32) rfl (okP (j := 1) (by decide) (by decide)) (by decide) (by decide) cl_L_98 (by simp [lw_nest]) (Or.inr ⟨dL_act_208, rfl⟩) (by decide) (fun q hq => by simp only [List.mem_cons, List.not_mem_nil, or_false] at hq; rcases hq with rfl | rfl | rfl | rfl <;> exact ⟨Nat.ne_of_beq_eq_false rfl, fun _ => Nat.ne_of_beq_eq_false rfl⟩) ?_
      refine aw_bipush (v := -2) dL_act_210 (by decide) ?_
      exact aw_iret rfl (by decide) (by decide) dL_act_212 ⟨by rw [acI, if_neg hc0, z]; rfl, h9⟩
    · have hE2 : E = eNS := hE.trans (by rw [z]; rfl)
      subst hE2
      refine ax_catch2 (j := 4) (w := 2) (actT.take 69) ⟨161, 166, 218, 102⟩ (actT.drop 70) rfl (okP (j := 3) (by decide) (by decide)) (by decide) (by decide) cl_L_102 (by simp [lw_nest]) (Or.inr ⟨dL_act_218, rfl⟩) (by decide) (fun q hq => by simp only [List.mem_cons, List.not_mem_nil, or_false] at hq; rcases hq with rfl | rfl | rfl | rfl <;> exact ⟨Nat.ne_of_beq_eq_false rfl, fun _ => Nat.ne_of_beq_eq_false rfl⟩) ?_
      refine aw_bipush (v := -4) dL_act_220 (by decide) ?_
      exact aw_iret rfl (by decide) (by decide) dL_act_222 ⟨by rw [acI, if_neg hc0, z]; rfl, h9⟩
  · obtain ⟨hr, h9⟩ := h
    obtain ⟨hc0, hrv⟩ := xA_inl hr
    subst hrv
    exact aw_iret rfl (by decide) (by decide) dL_act_166 ⟨by rw [acI, if_pos hc0], h9⟩
set_option maxHeartbeats 4000000 in
theorem l_act_13 {l : Launch} {G : GT} {n : Nat} {H : HT} {x bp K : Nat} {s : SG} (hW : GW H x bp n s) (hSB : SB K s) (hK : K + 30500 < 16000000) (a b : Int32) : AM l G yL_act (.codeWith yL_act cL_act 5 (some .int) actH) 11 660 8 48 [.ref x, .int (nI 13), .int a, .int b] H n (GA (some (.int (acI [-2, -4] ((qFew s.1 a).1) (nI (qFew s.1 a).2)))) x bp H n (s)) := by
  refine aw_enterW (M := ML_act) (hh := actH) rfl rfl (by decide +kernel) rfl (Nat.le_of_ble_eq_true rfl) ?_
  show AW l G ML_act 11 660 8 48 _ n 0 0 0 [(0, .ref x), (1, .int (nI 13)), (2, .int a), (3, .int b)] [] _ n
  refine aw_iload_n dL_act_0 rfl rfl ?_
  refine aw_tableIn (tgt := 167) dL_act_1 (by decide) (by decide) rfl (by decide) ?_
  refine aw_aload_n dL_act_167 rfl rfl ?_
  refine aw_iload_n dL_act_168 rfl rfl ?_
  refine aw_cC (as := [Value.int a]) (rest := []) (MV.c mV_X10_fewestForBySets) (q_fewestForBySets (l := l) (G := G) hW hSB hK a) ml_L_78 (RC.w hW.1 rfl) dL_act_169 rfl rfl (by decide) (Nat.le_of_ble_eq_true rfl) (by decide) (fun E f9 n9 hn h => ?_) (fun r f9 n9 hn h => ?_)
  · obtain ⟨hr, h9⟩ := h
    obtain ⟨hc0, hE⟩ := xA_inr hr
    have hcm : (qFew s.1 a).1 ≤ 2 := by unfold qFew; (repeat' split) <;> exact Nat.le_of_ble_eq_true rfl
    rcases (by omega : (qFew s.1 a).1 = 1 ∨ (qFew s.1 a).1 = 2) with z | z
    · have hE2 : E = eIA := hE.trans (by rw [z]; rfl)
      subst hE2
      refine ax_catch2 (j := 4) (w := 2) (actT.take 32) ⟨167, 172, 208, 98⟩ (actT.drop 33) rfl (okP (j := 1) (by decide) (by decide)) (by decide) (by decide) cl_L_98 (by simp [lw_nest]) (Or.inr ⟨dL_act_208, rfl⟩) (by decide) (fun q hq => by simp only [List.mem_cons, List.not_mem_nil, or_false] at hq; rcases hq with rfl | rfl | rfl | rfl <;> exact ⟨Nat.ne_of_beq_eq_false rfl, fun _ => Nat.ne_of_beq_eq_false rfl⟩) ?_
      refine aw_bipush (v := -2) dL_act_210 (by decide) ?_
      exact aw_iret rfl (by decide) (by decide) dL_act_212 ⟨by rw [acI, if_neg hc0, z]; rfl, h9⟩
    · have hE2 : E = eNS := hE.trans (by rw [z]; rfl)
      subst hE2
      refine ax_catch2 (j := 4) (w := 2) (actT.take 70) ⟨167, 172, 218, 102⟩ (actT.drop 71) rfl (okP (j := 3) (by decide) (by decide)) (by decide) (by decide) cl_L_102 (by simp [lw_nest]) (Or.inr ⟨dL_act_218, rfl⟩) (by decide) (fun q hq => by simp only [List.mem_cons, List.not_mem_nil, or_false] at hq; rcases hq with rfl | rfl | rfl | rfl <;> exact ⟨Nat.ne_of_beq_eq_false rfl, fun _ => Nat.ne_of_beq_eq_false rfl⟩) ?_
      refine aw_bipush (v := -4) dL_act_220 (by decide) ?_
      exact aw_iret rfl (by decide) (by decide) dL_act_222 ⟨by rw [acI, if_neg hc0, z]; rfl, h9⟩
  · obtain ⟨hr, h9⟩ := h
    obtain ⟨hc0, hrv⟩ := xA_inl hr
    subst hrv
    exact aw_iret rfl (by decide) (by decide) dL_act_172 ⟨by rw [acI, if_pos hc0], h9⟩
set_option maxHeartbeats 4000000 in
theorem l_act_14 {l : Launch} {G : GT} {n : Nat} {H : HT} {x bp K : Nat} {s : SG} (hW : GW H x bp n s) (hSB : SB K s) (hK : K + 30500 < 16000000) (a b : Int32) : AM l G yL_act (.codeWith yL_act cL_act 5 (some .int) actH) 11 660 8 48 [.ref x, .int (nI 14), .int a, .int b] H n (GA (some (.int (acI [-1, -4] ((qStart s.1 a).1) (nI (qStart s.1 a).2)))) x bp H n (s)) := by
  refine aw_enterW (M := ML_act) (hh := actH) rfl rfl (by decide +kernel) rfl (Nat.le_of_ble_eq_true rfl) ?_
  show AW l G ML_act 11 660 8 48 _ n 0 0 0 [(0, .ref x), (1, .int (nI 14)), (2, .int a), (3, .int b)] [] _ n
  refine aw_iload_n dL_act_0 rfl rfl ?_
  refine aw_tableIn (tgt := 173) dL_act_1 (by decide) (by decide) rfl (by decide) ?_
  refine aw_aload_n dL_act_173 rfl rfl ?_
  refine aw_iload_n dL_act_174 rfl rfl ?_
  refine aw_cC (as := [Value.int a]) (rest := []) (MV.c mV_X10_startOf) (q_startOf (l := l) (G := G) hW hSB hK a) ml_L_81 (RC.w hW.1 rfl) dL_act_175 rfl rfl (by decide) (Nat.le_of_ble_eq_true rfl) (by decide) (fun E f9 n9 hn h => ?_) (fun r f9 n9 hn h => ?_)
  · obtain ⟨hr, h9⟩ := h
    obtain ⟨hc0, hE⟩ := xA_inr hr
    have hcm : (qStart s.1 a).1 ≤ 2 := by unfold qStart; (repeat' split) <;> exact Nat.le_of_ble_eq_true rfl
    rcases (by omega : (qStart s.1 a).1 = 1 ∨ (qStart s.1 a).1 = 2) with z | z
    · have hE2 : E = eIO := hE.trans (by rw [z]; rfl)
      subst hE2
      refine ax_catch2 (j := 4) (w := 2) (actT.take 14) ⟨173, 178, 204, 96⟩ (actT.drop 15) rfl (okP (j := 0) (by decide) (by decide)) (by decide) (by decide) cl_L_96 (by simp [lw_nest]) (Or.inr ⟨dL_act_204, rfl⟩) (by decide) (fun q hq => by simp only [List.mem_cons, List.not_mem_nil, or_false] at hq; rcases hq with rfl | rfl | rfl | rfl <;> exact ⟨Nat.ne_of_beq_eq_false rfl, fun _ => Nat.ne_of_beq_eq_false rfl⟩) ?_
      refine aw_iconst (v := -1) dL_act_206 (by decide) ?_
      exact aw_iret rfl (by decide) (by decide) dL_act_207 ⟨by rw [acI, if_neg hc0, z]; rfl, h9⟩
    · have hE2 : E = eNS := hE.trans (by rw [z]; rfl)
      subst hE2
      refine ax_catch2 (j := 4) (w := 2) (actT.take 71) ⟨173, 178, 218, 102⟩ (actT.drop 72) rfl (okP (j := 3) (by decide) (by decide)) (by decide) (by decide) cl_L_102 (by simp [lw_nest]) (Or.inr ⟨dL_act_218, rfl⟩) (by decide) (fun q hq => by simp only [List.mem_cons, List.not_mem_nil, or_false] at hq; rcases hq with rfl | rfl | rfl | rfl <;> exact ⟨Nat.ne_of_beq_eq_false rfl, fun _ => Nat.ne_of_beq_eq_false rfl⟩) ?_
      refine aw_bipush (v := -4) dL_act_220 (by decide) ?_
      exact aw_iret rfl (by decide) (by decide) dL_act_222 ⟨by rw [acI, if_neg hc0, z]; rfl, h9⟩
  · obtain ⟨hr, h9⟩ := h
    obtain ⟨hc0, hrv⟩ := xA_inl hr
    subst hrv
    exact aw_iret rfl (by decide) (by decide) dL_act_178 ⟨by rw [acI, if_pos hc0], h9⟩
set_option maxHeartbeats 4000000 in
theorem l_actr_14 {l : Launch} {G : GT} {n : Nat} {H : HT} {x bp K : Nat} {s : SG} (hW : GW H x bp n s) (hSB : SB K s) (hK : K + 30500 < 16000000) (a b : Int32) : AM l G yL_act (.codeWith yL_act cL_act 5 (some .int) actH) 11 660 8 48 [.ref x, .int (nI 14), .int a, .int b] H n (rI (acI [-1, -4] ((qStart s.1 a).1) (nI (qStart s.1 a).2)) H n) := by
  refine aw_enterW (M := ML_act) (hh := actH) rfl rfl (by decide +kernel) rfl (Nat.le_of_ble_eq_true rfl) ?_
  obtain ⟨h0, ⟨J, B, hst, hS⟩, -, -, -, ⟨T1, hk1⟩, ⟨T4, hk4⟩, -, ⟨Lc, hcd, hcl, hcx⟩, hox, hbx⟩ := id hW
  show AW l G ML_act 11 660 8 48 _ n 0 0 0 [(0, .ref x), (1, .int (nI 14)), (2, .int a), (3, .int b)] [] _ n
  refine aw_iload_n dL_act_0 rfl rfl ?_
  refine aw_tableIn (tgt := 173) dL_act_1 (by decide) (by decide) rfl (by decide) ?_
  refine aw_aload_n dL_act_173 rfl rfl ?_
  refine aw_iload_n dL_act_174 rfl rfl ?_
  refine aw_cC (as := [Value.int a]) (rest := []) (MV.c mV_X10_startOf) (g_startOf (l := l) (G := G) h0 hst hS hSB.1 a) ml_L_81 (RC.w hW.1 rfl) dL_act_175 rfl rfl (by decide) (Nat.le_of_ble_eq_true rfl) (by decide) (fun E f9 n9 hn h => ?_) (fun r f9 n9 hn h => ?_)
  · obtain ⟨hr, h9⟩ := h
    obtain ⟨hc0, hE⟩ := xA_inr hr
    have hcm : (qStart s.1 a).1 ≤ 2 := by unfold qStart; (repeat' split) <;> exact Nat.le_of_ble_eq_true rfl
    obtain ⟨h8, h9⟩ := h9
    subst h8; subst h9
    rcases (by omega : (qStart s.1 a).1 = 1 ∨ (qStart s.1 a).1 = 2) with z | z
    · have hE2 : E = eIO := hE.trans (by rw [z]; rfl)
      subst hE2
      refine ax_catch2 (j := 4) (w := 2) (actT.take 14) ⟨173, 178, 204, 96⟩ (actT.drop 15) rfl (okP (j := 0) (by decide) (by decide)) (by decide) (by decide) cl_L_96 (by simp [lw_nest]) (Or.inr ⟨dL_act_204, rfl⟩) (by decide) (fun q hq => by simp only [List.mem_cons, List.not_mem_nil, or_false] at hq; rcases hq with rfl | rfl | rfl | rfl <;> exact ⟨Nat.ne_of_beq_eq_false rfl, fun _ => Nat.ne_of_beq_eq_false rfl⟩) ?_
      refine aw_iconst (v := -1) dL_act_206 (by decide) ?_
      exact aw_iret rfl (by decide) (by decide) dL_act_207 (rI_of (by rw [acI, if_neg hc0, z]; rfl))
    · have hE2 : E = eNS := hE.trans (by rw [z]; rfl)
      subst hE2
      refine ax_catch2 (j := 4) (w := 2) (actT.take 71) ⟨173, 178, 218, 102⟩ (actT.drop 72) rfl (okP (j := 3) (by decide) (by decide)) (by decide) (by decide) cl_L_102 (by simp [lw_nest]) (Or.inr ⟨dL_act_218, rfl⟩) (by decide) (fun q hq => by simp only [List.mem_cons, List.not_mem_nil, or_false] at hq; rcases hq with rfl | rfl | rfl | rfl <;> exact ⟨Nat.ne_of_beq_eq_false rfl, fun _ => Nat.ne_of_beq_eq_false rfl⟩) ?_
      refine aw_bipush (v := -4) dL_act_220 (by decide) ?_
      exact aw_iret rfl (by decide) (by decide) dL_act_222 (rI_of (by rw [acI, if_neg hc0, z]; rfl))
  · obtain ⟨hr, h9⟩ := h
    obtain ⟨hc0, hrv⟩ := xA_inl hr
    subst hrv
    obtain ⟨h8, h9⟩ := h9
    subst h8; subst h9
    exact aw_iret rfl (by decide) (by decide) dL_act_178 (rI_of (by rw [acI, if_pos hc0]))
set_option maxHeartbeats 4000000 in
theorem l_act_15 {l : Launch} {G : GT} {n : Nat} {H : HT} {x bp K : Nat} {s : SG} (hW : GW H x bp n s) (hSB : SB K s) (hK : K + 30500 < 16000000) (a b : Int32) : AM l G yL_act (.codeWith yL_act cL_act 5 (some .int) actH) 11 660 8 48 [.ref x, .int (nI 15), .int a, .int b] H n (GA (some (.int (acI [-2, -4] ((qRec s.1 36 a).1) (nI (qRec s.1 36 a).2)))) x bp H n (s)) := by
  refine aw_enterW (M := ML_act) (hh := actH) rfl rfl (by decide +kernel) rfl (Nat.le_of_ble_eq_true rfl) ?_
  show AW l G ML_act 11 660 8 48 _ n 0 0 0 [(0, .ref x), (1, .int (nI 15)), (2, .int a), (3, .int b)] [] _ n
  refine aw_iload_n dL_act_0 rfl rfl ?_
  refine aw_tableIn (tgt := 179) dL_act_1 (by decide) (by decide) rfl (by decide) ?_
  refine aw_aload_n dL_act_179 rfl rfl ?_
  refine aw_iload_n dL_act_180 rfl rfl ?_
  refine aw_cC (as := [Value.int a]) (rest := []) (MV.c mV_X10_recordOf) (q_recordOf (l := l) (G := G) hW hSB hK a) ml_L_84 (RC.w hW.1 rfl) dL_act_181 rfl rfl (by decide) (Nat.le_of_ble_eq_true rfl) (by decide) (fun E f9 n9 hn h => ?_) (fun r f9 n9 hn h => ?_)
  · obtain ⟨hr, h9⟩ := h
    obtain ⟨hc0, hE⟩ := xA_inr hr
    have hcm : (qRec s.1 36 a).1 ≤ 2 := rec_le _ _ _
    rcases (by omega : (qRec s.1 36 a).1 = 1 ∨ (qRec s.1 36 a).1 = 2) with z | z
    · have hE2 : E = eIA := hE.trans (by rw [z]; rfl)
      subst hE2
      refine ax_catch2 (j := 4) (w := 2) (actT.take 34) ⟨179, 184, 208, 98⟩ (actT.drop 35) rfl (okP (j := 1) (by decide) (by decide)) (by decide) (by decide) cl_L_98 (by simp [lw_nest]) (Or.inr ⟨dL_act_208, rfl⟩) (by decide) (fun q hq => by simp only [List.mem_cons, List.not_mem_nil, or_false] at hq; rcases hq with rfl | rfl | rfl | rfl <;> exact ⟨Nat.ne_of_beq_eq_false rfl, fun _ => Nat.ne_of_beq_eq_false rfl⟩) ?_
      refine aw_bipush (v := -2) dL_act_210 (by decide) ?_
      exact aw_iret rfl (by decide) (by decide) dL_act_212 ⟨by rw [acI, if_neg hc0, z]; rfl, h9⟩
    · have hE2 : E = eNS := hE.trans (by rw [z]; rfl)
      subst hE2
      refine ax_catch2 (j := 4) (w := 2) (actT.take 72) ⟨179, 184, 218, 102⟩ (actT.drop 73) rfl (okP (j := 3) (by decide) (by decide)) (by decide) (by decide) cl_L_102 (by simp [lw_nest]) (Or.inr ⟨dL_act_218, rfl⟩) (by decide) (fun q hq => by simp only [List.mem_cons, List.not_mem_nil, or_false] at hq; rcases hq with rfl | rfl | rfl | rfl <;> exact ⟨Nat.ne_of_beq_eq_false rfl, fun _ => Nat.ne_of_beq_eq_false rfl⟩) ?_
      refine aw_bipush (v := -4) dL_act_220 (by decide) ?_
      exact aw_iret rfl (by decide) (by decide) dL_act_222 ⟨by rw [acI, if_neg hc0, z]; rfl, h9⟩
  · obtain ⟨hr, h9⟩ := h
    obtain ⟨hc0, hrv⟩ := xA_inl hr
    subst hrv
    exact aw_iret rfl (by decide) (by decide) dL_act_184 ⟨by rw [acI, if_pos hc0], h9⟩
set_option maxHeartbeats 4000000 in
theorem l_actr_15 {l : Launch} {G : GT} {n : Nat} {H : HT} {x bp K : Nat} {s : SG} (hW : GW H x bp n s) (hSB : SB K s) (hK : K + 30500 < 16000000) (a b : Int32) : AM l G yL_act (.codeWith yL_act cL_act 5 (some .int) actH) 11 660 8 48 [.ref x, .int (nI 15), .int a, .int b] H n (rI (acI [-2, -4] ((qRec s.1 36 a).1) (nI (qRec s.1 36 a).2)) H n) := by
  refine aw_enterW (M := ML_act) (hh := actH) rfl rfl (by decide +kernel) rfl (Nat.le_of_ble_eq_true rfl) ?_
  obtain ⟨h0, ⟨J, B, hst, hS⟩, -, -, -, ⟨T1, hk1⟩, ⟨T4, hk4⟩, -, ⟨Lc, hcd, hcl, hcx⟩, hox, hbx⟩ := id hW
  show AW l G ML_act 11 660 8 48 _ n 0 0 0 [(0, .ref x), (1, .int (nI 15)), (2, .int a), (3, .int b)] [] _ n
  refine aw_iload_n dL_act_0 rfl rfl ?_
  refine aw_tableIn (tgt := 179) dL_act_1 (by decide) (by decide) rfl (by decide) ?_
  refine aw_aload_n dL_act_179 rfl rfl ?_
  refine aw_iload_n dL_act_180 rfl rfl ?_
  refine aw_cC (as := [Value.int a]) (rest := []) (MV.c mV_X10_recordOf) (g_recordOf (l := l) (G := G) h0 hst hS hSB.1 a) ml_L_84 (RC.w hW.1 rfl) dL_act_181 rfl rfl (by decide) (Nat.le_of_ble_eq_true rfl) (by decide) (fun E f9 n9 hn h => ?_) (fun r f9 n9 hn h => ?_)
  · obtain ⟨hr, h9⟩ := h
    obtain ⟨hc0, hE⟩ := xA_inr hr
    have hcm : (qRec s.1 36 a).1 ≤ 2 := rec_le _ _ _
    obtain ⟨h8, h9⟩ := h9
    subst h8; subst h9
    rcases (by omega : (qRec s.1 36 a).1 = 1 ∨ (qRec s.1 36 a).1 = 2) with z | z
    · have hE2 : E = eIA := hE.trans (by rw [z]; rfl)
      subst hE2
      refine ax_catch2 (j := 4) (w := 2) (actT.take 34) ⟨179, 184, 208, 98⟩ (actT.drop 35) rfl (okP (j := 1) (by decide) (by decide)) (by decide) (by decide) cl_L_98 (by simp [lw_nest]) (Or.inr ⟨dL_act_208, rfl⟩) (by decide) (fun q hq => by simp only [List.mem_cons, List.not_mem_nil, or_false] at hq; rcases hq with rfl | rfl | rfl | rfl <;> exact ⟨Nat.ne_of_beq_eq_false rfl, fun _ => Nat.ne_of_beq_eq_false rfl⟩) ?_
      refine aw_bipush (v := -2) dL_act_210 (by decide) ?_
      exact aw_iret rfl (by decide) (by decide) dL_act_212 (rI_of (by rw [acI, if_neg hc0, z]; rfl))
    · have hE2 : E = eNS := hE.trans (by rw [z]; rfl)
      subst hE2
      refine ax_catch2 (j := 4) (w := 2) (actT.take 72) ⟨179, 184, 218, 102⟩ (actT.drop 73) rfl (okP (j := 3) (by decide) (by decide)) (by decide) (by decide) cl_L_102 (by simp [lw_nest]) (Or.inr ⟨dL_act_218, rfl⟩) (by decide) (fun q hq => by simp only [List.mem_cons, List.not_mem_nil, or_false] at hq; rcases hq with rfl | rfl | rfl | rfl <;> exact ⟨Nat.ne_of_beq_eq_false rfl, fun _ => Nat.ne_of_beq_eq_false rfl⟩) ?_
      refine aw_bipush (v := -4) dL_act_220 (by decide) ?_
      exact aw_iret rfl (by decide) (by decide) dL_act_222 (rI_of (by rw [acI, if_neg hc0, z]; rfl))
  · obtain ⟨hr, h9⟩ := h
    obtain ⟨hc0, hrv⟩ := xA_inl hr
    subst hrv
    obtain ⟨h8, h9⟩ := h9
    subst h8; subst h9
    exact aw_iret rfl (by decide) (by decide) dL_act_184 (rI_of (by rw [acI, if_pos hc0]))
set_option maxHeartbeats 4000000 in
theorem l_act_16 {l : Launch} {G : GT} {n : Nat} {H : HT} {x bp K : Nat} {s : SG} (hW : GW H x bp n s) (hSB : SB K s) (hK : K + 30500 < 16000000) (a b : Int32) : AM l G yL_act (.codeWith yL_act cL_act 5 (some .int) actH) 11 660 8 48 [.ref x, .int (nI 16), .int a, .int b] H n (GA (some (.int (acI [-2, -4] ((qRec s.1 39 a).1) (nI (qRec s.1 39 a).2)))) x bp H n (s)) := by
  refine aw_enterW (M := ML_act) (hh := actH) rfl rfl (by decide +kernel) rfl (Nat.le_of_ble_eq_true rfl) ?_
  show AW l G ML_act 11 660 8 48 _ n 0 0 0 [(0, .ref x), (1, .int (nI 16)), (2, .int a), (3, .int b)] [] _ n
  refine aw_iload_n dL_act_0 rfl rfl ?_
  refine aw_tableIn (tgt := 185) dL_act_1 (by decide) (by decide) rfl (by decide) ?_
  refine aw_aload_n dL_act_185 rfl rfl ?_
  refine aw_iload_n dL_act_186 rfl rfl ?_
  refine aw_cC (as := [Value.int a]) (rest := []) (MV.c mV_X10_holderOf) (q_holderOf (l := l) (G := G) hW hSB hK a) ml_L_87 (RC.w hW.1 rfl) dL_act_187 rfl rfl (by decide) (Nat.le_of_ble_eq_true rfl) (by decide) (fun E f9 n9 hn h => ?_) (fun r f9 n9 hn h => ?_)
  · obtain ⟨hr, h9⟩ := h
    obtain ⟨hc0, hE⟩ := xA_inr hr
    have hcm : (qRec s.1 39 a).1 ≤ 2 := rec_le _ _ _
    rcases (by omega : (qRec s.1 39 a).1 = 1 ∨ (qRec s.1 39 a).1 = 2) with z | z
    · have hE2 : E = eIA := hE.trans (by rw [z]; rfl)
      subst hE2
      refine ax_catch2 (j := 4) (w := 2) (actT.take 35) ⟨185, 190, 208, 98⟩ (actT.drop 36) rfl (okP (j := 1) (by decide) (by decide)) (by decide) (by decide) cl_L_98 (by simp [lw_nest]) (Or.inr ⟨dL_act_208, rfl⟩) (by decide) (fun q hq => by simp only [List.mem_cons, List.not_mem_nil, or_false] at hq; rcases hq with rfl | rfl | rfl | rfl <;> exact ⟨Nat.ne_of_beq_eq_false rfl, fun _ => Nat.ne_of_beq_eq_false rfl⟩) ?_
      refine aw_bipush (v := -2) dL_act_210 (by decide) ?_
      exact aw_iret rfl (by decide) (by decide) dL_act_212 ⟨by rw [acI, if_neg hc0, z]; rfl, h9⟩
    · have hE2 : E = eNS := hE.trans (by rw [z]; rfl)
      subst hE2
      refine ax_catch2 (j := 4) (w := 2) (actT.take 73) ⟨185, 190, 218, 102⟩ (actT.drop 74) rfl (okP (j := 3) (by decide) (by decide)) (by decide) (by decide) cl_L_102 (by simp [lw_nest]) (Or.inr ⟨dL_act_218, rfl⟩) (by decide) (fun q hq => by simp only [List.mem_cons, List.not_mem_nil, or_false] at hq; rcases hq with rfl | rfl | rfl | rfl <;> exact ⟨Nat.ne_of_beq_eq_false rfl, fun _ => Nat.ne_of_beq_eq_false rfl⟩) ?_
      refine aw_bipush (v := -4) dL_act_220 (by decide) ?_
      exact aw_iret rfl (by decide) (by decide) dL_act_222 ⟨by rw [acI, if_neg hc0, z]; rfl, h9⟩
  · obtain ⟨hr, h9⟩ := h
    obtain ⟨hc0, hrv⟩ := xA_inl hr
    subst hrv
    exact aw_iret rfl (by decide) (by decide) dL_act_190 ⟨by rw [acI, if_pos hc0], h9⟩
set_option maxHeartbeats 4000000 in
theorem l_actr_16 {l : Launch} {G : GT} {n : Nat} {H : HT} {x bp K : Nat} {s : SG} (hW : GW H x bp n s) (hSB : SB K s) (hK : K + 30500 < 16000000) (a b : Int32) : AM l G yL_act (.codeWith yL_act cL_act 5 (some .int) actH) 11 660 8 48 [.ref x, .int (nI 16), .int a, .int b] H n (rI (acI [-2, -4] ((qRec s.1 39 a).1) (nI (qRec s.1 39 a).2)) H n) := by
  refine aw_enterW (M := ML_act) (hh := actH) rfl rfl (by decide +kernel) rfl (Nat.le_of_ble_eq_true rfl) ?_
  obtain ⟨h0, ⟨J, B, hst, hS⟩, -, -, -, ⟨T1, hk1⟩, ⟨T4, hk4⟩, -, ⟨Lc, hcd, hcl, hcx⟩, hox, hbx⟩ := id hW
  show AW l G ML_act 11 660 8 48 _ n 0 0 0 [(0, .ref x), (1, .int (nI 16)), (2, .int a), (3, .int b)] [] _ n
  refine aw_iload_n dL_act_0 rfl rfl ?_
  refine aw_tableIn (tgt := 185) dL_act_1 (by decide) (by decide) rfl (by decide) ?_
  refine aw_aload_n dL_act_185 rfl rfl ?_
  refine aw_iload_n dL_act_186 rfl rfl ?_
  refine aw_cC (as := [Value.int a]) (rest := []) (MV.c mV_X10_holderOf) (g_holderOf (l := l) (G := G) h0 hst hS hSB.1 a) ml_L_87 (RC.w hW.1 rfl) dL_act_187 rfl rfl (by decide) (Nat.le_of_ble_eq_true rfl) (by decide) (fun E f9 n9 hn h => ?_) (fun r f9 n9 hn h => ?_)
  · obtain ⟨hr, h9⟩ := h
    obtain ⟨hc0, hE⟩ := xA_inr hr
    have hcm : (qRec s.1 39 a).1 ≤ 2 := rec_le _ _ _
    obtain ⟨h8, h9⟩ := h9
    subst h8; subst h9
    rcases (by omega : (qRec s.1 39 a).1 = 1 ∨ (qRec s.1 39 a).1 = 2) with z | z
    · have hE2 : E = eIA := hE.trans (by rw [z]; rfl)
      subst hE2
      refine ax_catch2 (j := 4) (w := 2) (actT.take 35) ⟨185, 190, 208, 98⟩ (actT.drop 36) rfl (okP (j := 1) (by decide) (by decide)) (by decide) (by decide) cl_L_98 (by simp [lw_nest]) (Or.inr ⟨dL_act_208, rfl⟩) (by decide) (fun q hq => by simp only [List.mem_cons, List.not_mem_nil, or_false] at hq; rcases hq with rfl | rfl | rfl | rfl <;> exact ⟨Nat.ne_of_beq_eq_false rfl, fun _ => Nat.ne_of_beq_eq_false rfl⟩) ?_
      refine aw_bipush (v := -2) dL_act_210 (by decide) ?_
      exact aw_iret rfl (by decide) (by decide) dL_act_212 (rI_of (by rw [acI, if_neg hc0, z]; rfl))
    · have hE2 : E = eNS := hE.trans (by rw [z]; rfl)
      subst hE2
      refine ax_catch2 (j := 4) (w := 2) (actT.take 73) ⟨185, 190, 218, 102⟩ (actT.drop 74) rfl (okP (j := 3) (by decide) (by decide)) (by decide) (by decide) cl_L_102 (by simp [lw_nest]) (Or.inr ⟨dL_act_218, rfl⟩) (by decide) (fun q hq => by simp only [List.mem_cons, List.not_mem_nil, or_false] at hq; rcases hq with rfl | rfl | rfl | rfl <;> exact ⟨Nat.ne_of_beq_eq_false rfl, fun _ => Nat.ne_of_beq_eq_false rfl⟩) ?_
      refine aw_bipush (v := -4) dL_act_220 (by decide) ?_
      exact aw_iret rfl (by decide) (by decide) dL_act_222 (rI_of (by rw [acI, if_neg hc0, z]; rfl))
  · obtain ⟨hr, h9⟩ := h
    obtain ⟨hc0, hrv⟩ := xA_inl hr
    subst hrv
    obtain ⟨h8, h9⟩ := h9
    subst h8; subst h9
    exact aw_iret rfl (by decide) (by decide) dL_act_190 (rI_of (by rw [acI, if_pos hc0]))
