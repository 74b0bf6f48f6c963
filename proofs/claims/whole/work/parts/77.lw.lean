theorem updD_0 {g : Nat → UInt64} {x : UInt64} : vf_upd g (nI 0).toNatClampNeg x 0 = x := by
  rw [nIc (by decide)]
  simp [vf_upd]
theorem why_le (V : Nat → Nat) (v : Int32) : whyN V v ≤ 2 := by unfold whyN; (repeat' split) <;> exact Nat.le_of_ble_eq_true rfl
theorem rec_le (V : Nat → Nat) (a : Nat) (v : Int32) : (qRec V a v).1 ≤ 2 := by
  unfold qRec; split
  · exact Nat.zero_le _
  · exact why_le V v
theorem qrank_le (V : Nat → Nat) (v : Int32) : (qRank V v).1 ≤ 1 := by
  rcases rkF_or (V := V) (r := v) (V 2) 0 with e | ⟨j, hj, e⟩
  · rw [show qRank V v = (1, 0) from e]; exact Nat.le_refl _
  · rw [show qRank V v = (0, j) from e]; exact Nat.zero_le _
theorem at_eq {s : SG} {Lc : List Nat} (hcl : Lc.length = s.2.2.2.2.2.1) (hcx : ∀ i, i < Lc.length → Lc.getD i 0 = s.2.2.2.2.2.2 i) (hc : s.2.2.2.2.2.1 < 2 ^ 31) (v : Int32) : (if isK v Lc.length = true then (0, Lc.getD v.toNatClampNeg 0) else (1, 0)) = qAt s v := by
  unfold qAt
  rw [← hcl]
  by_cases h : isK v Lc.length = true
  · rw [if_pos h, if_pos h]
    obtain ⟨k, hk, rfl⟩ := isK_of (by omega) h
    rw [nIc (by omega), hcx k hk]
  · rw [if_neg h, if_neg h]
abbrev ML_addPendulum : MT := (RL, cL_addPendulum, 4, (some .int), tableOf [(0, 9, 12, 13), (0, 9, 15, 15)], "addPendulum")
set_option maxHeartbeats 4000000 in
theorem w_addPendulum {l : Launch} {G : GT} {n : Nat} {H : HT} {x bp u K : Nat} {s : SG} {o : Nat → Int64} (hW : GW H x bp n s) (hSB : SB K s) (hK : K + 30500 < 16000000) (hu : u < n) (hu2 : u < x ∨ x + 112 ≤ u) (hu3 : u ≠ bp) (hl : H u = lcell o) (v : Int32) : AM l G yL_addPendulum (.codeWith yL_addPendulum cL_addPendulum 4 (some .int) [(0, 9, 12, 13), (0, 9, 15, 15)]) 11 660 12 360 [.ref x, .int v, .ref u] H n (LW9 x bp u H n (opS s (opAdd s.1 v)) ((opAdd s.1 v).1) ((nI (opAdd s.1 v).2.1))) := by
  refine aw_enterW (M := ML_addPendulum) (hh := [(0, 9, 12, 13), (0, 9, 15, 15)]) rfl rfl (by decide +kernel) rfl (Nat.le_of_ble_eq_true rfl) ?_
  obtain ⟨h0, ⟨J, B, hst, hS⟩, -, -, -, ⟨T1, hk1⟩, ⟨T4, hk4⟩, -, ⟨Lc, hcd, hcl, hcx⟩, hox, hbx⟩ := id hW
  have hB := hSB.1
  show AW l G ML_addPendulum 11 660 12 360 _ n 0 0 0 [(0, .ref x), (1, .int v), (2, .ref u)] [] _ n
  refine aw_aload_n dL_addPendulum_0 rfl rfl ?_
  refine aw_iconst_n 0 dL_addPendulum_1 (by decide) ?_
  refine aw_aload_n dL_addPendulum_2 rfl rfl ?_
  refine aw_iload_n dL_addPendulum_3 rfl rfl ?_
  have hA := g_addPendulum (l := l) (G := G) hW hB v
  refine aw_cC (as := [Value.int v]) (rest := [Value.int (nI 0), Value.ref u]) (MV.c mV_X10_addPendulum) hA ml_L_7 (RC.w hW.1 rfl) dL_addPendulum_4 rfl rfl (by decide) (Nat.le_of_ble_eq_true rfl) (by decide) (fun E f9 n9 hn h => ?_) (fun r f9 n9 hn h => ?_)
  · obtain ⟨hr, -, bp', hb', hG, hF⟩ := h
    obtain ⟨hc0, hE⟩ := xA_inr hr
    have hcm : (opAdd s.1 v).1 ≤ 2 := by unfold opAdd; (repeat' split) <;> exact Nat.le_of_ble_eq_true rfl
    have hu9 := hF u hu hu2 hu3
    rcases (by omega : (opAdd s.1 v).1 = 1 ∨ (opAdd s.1 v).1 = 2) with z | z
    · have hE2 : E = eIA := hE.trans (by rw [z]; rfl)
      subst hE2
      refine ax_catch (j := 3) (w := 1) [] ⟨0, 9, 12, 13⟩ [⟨0, 9, 15, 15⟩] rfl (fun z hz => nomatch hz) (by decide) (by decide) cl_L_13 (by simp [lw_nest]) (Or.inl ⟨3, rfl, dL_addPendulum_12, rfl⟩) (by decide) (fun q hq => by simp only [List.mem_cons, List.not_mem_nil, or_false] at hq; rcases hq with rfl | rfl | rfl <;> exact ⟨Nat.ne_of_beq_eq_false rfl, fun _ => Nat.ne_of_beq_eq_false rfl⟩) ?_
      refine aw_iconst_n 1 dL_addPendulum_13 (by decide) ?_
      exact aw_iret rfl (by decide) (by decide) dL_addPendulum_14 ⟨by rw [z], hn, bp', o, hb', hG, hu9.trans hl, fun y => absurd y hc0, fun a h1 h2 h3 _ => hF a h1 h2 h3⟩
    · have hE2 : E = eIS := hE.trans (by rw [z]; rfl)
      subst hE2
      refine ax_catch (j := 3) (w := 1) [⟨0, 9, 12, 13⟩] ⟨0, 9, 15, 15⟩ [] rfl (fun z hz => by
        simp only [tableOf, List.mem_cons, List.not_mem_nil, or_false] at hz
        rcases hz with rfl
        · exact ⟨by decide, eIA, cl_L_13, List.mem_of_getElem? (i := 1) rfl⟩) (by decide) (by decide) cl_L_15 (by simp [lw_nest]) (Or.inl ⟨3, rfl, dL_addPendulum_15, rfl⟩) (by decide) (fun q hq => by simp only [List.mem_cons, List.not_mem_nil, or_false] at hq; rcases hq with rfl | rfl | rfl <;> exact ⟨Nat.ne_of_beq_eq_false rfl, fun _ => Nat.ne_of_beq_eq_false rfl⟩) ?_
      refine aw_iconst_n 2 dL_addPendulum_16 (by decide) ?_
      exact aw_iret rfl (by decide) (by decide) dL_addPendulum_17 ⟨by rw [z], hn, bp', o, hb', hG, hu9.trans hl, fun y => absurd y hc0, fun a h1 h2 h3 _ => hF a h1 h2 h3⟩
  obtain ⟨hr, -, bp', hb', hG, hF⟩ := h
  obtain ⟨hc0, hrv⟩ := xA_inl hr
  subst hrv
  have hu9 := hF u hu hu2 hu3
  refine aw_i2l dL_addPendulum_7 ?_
  refine aw_last (hu9.trans hl) (vp_in_nI (by decide) (by decide)) dL_addPendulum_8 ?_
  refine aw_goto (tgt := 18) dL_addPendulum_9 (by decide) ?_
  refine aw_iconst_n 0 dL_addPendulum_18 (by decide) ?_
  exact aw_iret rfl (by decide) (by decide) dL_addPendulum_19 ⟨by rw [hc0], hn, bp', _, hb', hG.fr (fun a h1 h2 => up_ne (by omega)) (up_ne (by omega)) (Nat.le_refl _), up_self, fun _ => updL_0, fun a h1 h2 h3 h4 => (up_ne h4).trans (hF a h1 h2 h3)⟩
abbrev ML_push : MT := (RL, cL_push, 5, (some .int), tableOf [(0, 10, 13, 21), (0, 10, 17, 13), (0, 10, 21, 15)], "push")
set_option maxHeartbeats 4000000 in
theorem w_push {l : Launch} {G : GT} {n : Nat} {H : HT} {x bp u K : Nat} {s : SG} {o : Nat → Int64} (hW : GW H x bp n s) (hSB : SB K s) (hK : K + 30500 < 16000000) (hu : u < n) (hu2 : u < x ∨ x + 112 ≤ u) (hu3 : u ≠ bp) (hl : H u = lcell o) (v t : Int32) : AM l G yL_push (.codeWith yL_push cL_push 5 (some .int) [(0, 10, 13, 21), (0, 10, 17, 13), (0, 10, 21, 15)]) 11 660 12 360 [.ref x, .int v, .int t, .ref u] H n (LW9 x bp u H n (opS s (opPush s.1 v t)) ((opPush s.1 v t).1) ((nI (opPush s.1 v t).2.1))) := by
  refine aw_enterW (M := ML_push) (hh := [(0, 10, 13, 21), (0, 10, 17, 13), (0, 10, 21, 15)]) rfl rfl (by decide +kernel) rfl (Nat.le_of_ble_eq_true rfl) ?_
  obtain ⟨h0, ⟨J, B, hst, hS⟩, -, -, -, ⟨T1, hk1⟩, ⟨T4, hk4⟩, -, ⟨Lc, hcd, hcl, hcx⟩, hox, hbx⟩ := id hW
  have hB := hSB.1
  show AW l G ML_push 11 660 12 360 _ n 0 0 0 [(0, .ref x), (1, .int v), (2, .int t), (3, .ref u)] [] _ n
  refine aw_aload_n dL_push_0 rfl rfl ?_
  refine aw_iconst_n 0 dL_push_1 (by decide) ?_
  refine aw_aload_n dL_push_2 rfl rfl ?_
  refine aw_iload_n dL_push_3 rfl rfl ?_
  refine aw_iload_n dL_push_4 rfl rfl ?_
  have hA := g_push (l := l) (G := G) hW hB v t
  refine aw_cC (as := [Value.int v, Value.int t]) (rest := [Value.int (nI 0), Value.ref u]) (MV.c mV_X10_push) hA ml_L_17 (RC.w hW.1 rfl) dL_push_5 rfl rfl (by decide) (Nat.le_of_ble_eq_true rfl) (by decide) (fun E f9 n9 hn h => ?_) (fun r f9 n9 hn h => ?_)
  · obtain ⟨hr, -, bp', hb', hG, hF⟩ := h
    obtain ⟨hc0, hE⟩ := xA_inr hr
    have hcm : (opPush s.1 v t).1 ≤ 3 := by unfold opPush; (repeat' split) <;> exact Nat.le_of_ble_eq_true rfl
    have hu9 := hF u hu hu2 hu3
    rcases (by omega : (opPush s.1 v t).1 = 1 ∨ (opPush s.1 v t).1 = 2 ∨ (opPush s.1 v t).1 = 3) with z | z | z
    · have hE2 : E = eIO := hE.trans (by rw [z]; rfl)
      subst hE2
      refine ax_catch (j := 4) (w := 2) [] ⟨0, 10, 13, 21⟩ [⟨0, 10, 17, 13⟩, ⟨0, 10, 21, 15⟩] rfl (fun z hz => nomatch hz) (by decide) (by decide) cl_L_21 (by simp [lw_nest]) (Or.inr ⟨dL_push_13, rfl⟩) (by decide) (fun q hq => by simp only [List.mem_cons, List.not_mem_nil, or_false] at hq; rcases hq with rfl | rfl | rfl | rfl <;> exact ⟨Nat.ne_of_beq_eq_false rfl, fun _ => Nat.ne_of_beq_eq_false rfl⟩) ?_
      refine aw_iconst_n 1 dL_push_15 (by decide) ?_
      exact aw_iret rfl (by decide) (by decide) dL_push_16 ⟨by rw [z], hn, bp', o, hb', hG, hu9.trans hl, fun y => absurd y hc0, fun a h1 h2 h3 _ => hF a h1 h2 h3⟩
    · have hE2 : E = eIA := hE.trans (by rw [z]; rfl)
      subst hE2
      refine ax_catch (j := 4) (w := 2) [⟨0, 10, 13, 21⟩] ⟨0, 10, 17, 13⟩ [⟨0, 10, 21, 15⟩] rfl (fun z hz => by
        simp only [tableOf, List.mem_cons, List.not_mem_nil, or_false] at hz
        rcases hz with rfl
        · exact ⟨by decide, eIO, cl_L_21, List.mem_of_getElem? (i := 8) rfl⟩) (by decide) (by decide) cl_L_13 (by simp [lw_nest]) (Or.inr ⟨dL_push_17, rfl⟩) (by decide) (fun q hq => by simp only [List.mem_cons, List.not_mem_nil, or_false] at hq; rcases hq with rfl | rfl | rfl | rfl <;> exact ⟨Nat.ne_of_beq_eq_false rfl, fun _ => Nat.ne_of_beq_eq_false rfl⟩) ?_
      refine aw_iconst_n 2 dL_push_19 (by decide) ?_
      exact aw_iret rfl (by decide) (by decide) dL_push_20 ⟨by rw [z], hn, bp', o, hb', hG, hu9.trans hl, fun y => absurd y hc0, fun a h1 h2 h3 _ => hF a h1 h2 h3⟩
    · have hE2 : E = eIS := hE.trans (by rw [z]; rfl)
      subst hE2
      refine ax_catch (j := 4) (w := 2) [⟨0, 10, 13, 21⟩, ⟨0, 10, 17, 13⟩] ⟨0, 10, 21, 15⟩ [] rfl (fun z hz => by
        simp only [tableOf, List.mem_cons, List.not_mem_nil, or_false] at hz
        rcases hz with rfl | rfl
        · exact ⟨by decide, eIO, cl_L_21, List.mem_of_getElem? (i := 9) rfl⟩
        · exact ⟨by decide, eIA, cl_L_13, List.mem_of_getElem? (i := 1) rfl⟩) (by decide) (by decide) cl_L_15 (by simp [lw_nest]) (Or.inr ⟨dL_push_21, rfl⟩) (by decide) (fun q hq => by simp only [List.mem_cons, List.not_mem_nil, or_false] at hq; rcases hq with rfl | rfl | rfl | rfl <;> exact ⟨Nat.ne_of_beq_eq_false rfl, fun _ => Nat.ne_of_beq_eq_false rfl⟩) ?_
      refine aw_iconst_n 3 dL_push_23 (by decide) ?_
      exact aw_iret rfl (by decide) (by decide) dL_push_24 ⟨by rw [z], hn, bp', o, hb', hG, hu9.trans hl, fun y => absurd y hc0, fun a h1 h2 h3 _ => hF a h1 h2 h3⟩
  obtain ⟨hr, -, bp', hb', hG, hF⟩ := h
  obtain ⟨hc0, hrv⟩ := xA_inl hr
  subst hrv
  have hu9 := hF u hu hu2 hu3
  refine aw_i2l dL_push_8 ?_
  refine aw_last (hu9.trans hl) (vp_in_nI (by decide) (by decide)) dL_push_9 ?_
  refine aw_goto (tgt := 25) dL_push_10 (by decide) ?_
  refine aw_iconst_n 0 dL_push_25 (by decide) ?_
  exact aw_iret rfl (by decide) (by decide) dL_push_26 ⟨by rw [hc0], hn, bp', _, hb', hG.fr (fun a h1 h2 => up_ne (by omega)) (up_ne (by omega)) (Nat.le_refl _), up_self, fun _ => updL_0, fun a h1 h2 h3 h4 => (up_ne h4).trans (hF a h1 h2 h3)⟩
abbrev ML_catchPendulum : MT := (RL, cL_catchPendulum, 4, (some .int), tableOf [(0, 9, 12, 21), (0, 9, 15, 15)], "catchPendulum")
set_option maxHeartbeats 4000000 in
theorem w_catchPendulum {l : Launch} {G : GT} {n : Nat} {H : HT} {x bp u K : Nat} {s : SG} {o : Nat → Int64} (hW : GW H x bp n s) (hSB : SB K s) (hK : K + 30500 < 16000000) (hu : u < n) (hu2 : u < x ∨ x + 112 ≤ u) (hu3 : u ≠ bp) (hl : H u = lcell o) (v : Int32) : AM l G yL_catchPendulum (.codeWith yL_catchPendulum cL_catchPendulum 4 (some .int) [(0, 9, 12, 21), (0, 9, 15, 15)]) 11 660 12 360 [.ref x, .int v, .ref u] H n (LW9 x bp u H n (opS s (opCatch s.1 v)) ((opCatch s.1 v).1) ((nI (opCatch s.1 v).2.1))) := by
  refine aw_enterW (M := ML_catchPendulum) (hh := [(0, 9, 12, 21), (0, 9, 15, 15)]) rfl rfl (by decide +kernel) rfl (Nat.le_of_ble_eq_true rfl) ?_
  obtain ⟨h0, ⟨J, B, hst, hS⟩, -, -, -, ⟨T1, hk1⟩, ⟨T4, hk4⟩, -, ⟨Lc, hcd, hcl, hcx⟩, hox, hbx⟩ := id hW
  have hB := hSB.1
  show AW l G ML_catchPendulum 11 660 12 360 _ n 0 0 0 [(0, .ref x), (1, .int v), (2, .ref u)] [] _ n
  refine aw_aload_n dL_catchPendulum_0 rfl rfl ?_
  refine aw_iconst_n 0 dL_catchPendulum_1 (by decide) ?_
  refine aw_aload_n dL_catchPendulum_2 rfl rfl ?_
  refine aw_iload_n dL_catchPendulum_3 rfl rfl ?_
  have hA := g_catchPendulum (l := l) (G := G) hW hB v
  refine aw_cC (as := [Value.int v]) (rest := [Value.int (nI 0), Value.ref u]) (MV.c mV_X10_catchPendulum) hA ml_L_23 (RC.w hW.1 rfl) dL_catchPendulum_4 rfl rfl (by decide) (Nat.le_of_ble_eq_true rfl) (by decide) (fun E f9 n9 hn h => ?_) (fun r f9 n9 hn h => ?_)
  · obtain ⟨hr, -, bp', hb', hG, hF⟩ := h
    obtain ⟨hc0, hE⟩ := xA_inr hr
    have hcm : (opCatch s.1 v).1 ≤ 2 := by unfold opCatch; (repeat' split) <;> exact Nat.le_of_ble_eq_true rfl
    have hu9 := hF u hu hu2 hu3
    rcases (by omega : (opCatch s.1 v).1 = 1 ∨ (opCatch s.1 v).1 = 2) with z | z
    · have hE2 : E = eIO := hE.trans (by rw [z]; rfl)
      subst hE2
      refine ax_catch (j := 3) (w := 1) [] ⟨0, 9, 12, 21⟩ [⟨0, 9, 15, 15⟩] rfl (fun z hz => nomatch hz) (by decide) (by decide) cl_L_21 (by simp [lw_nest]) (Or.inl ⟨3, rfl, dL_catchPendulum_12, rfl⟩) (by decide) (fun q hq => by simp only [List.mem_cons, List.not_mem_nil, or_false] at hq; rcases hq with rfl | rfl | rfl <;> exact ⟨Nat.ne_of_beq_eq_false rfl, fun _ => Nat.ne_of_beq_eq_false rfl⟩) ?_
      refine aw_iconst_n 1 dL_catchPendulum_13 (by decide) ?_
      exact aw_iret rfl (by decide) (by decide) dL_catchPendulum_14 ⟨by rw [z], hn, bp', o, hb', hG, hu9.trans hl, fun y => absurd y hc0, fun a h1 h2 h3 _ => hF a h1 h2 h3⟩
    · have hE2 : E = eIS := hE.trans (by rw [z]; rfl)
      subst hE2
      refine ax_catch (j := 3) (w := 1) [⟨0, 9, 12, 21⟩] ⟨0, 9, 15, 15⟩ [] rfl (fun z hz => by
        simp only [tableOf, List.mem_cons, List.not_mem_nil, or_false] at hz
        rcases hz with rfl
        · exact ⟨by decide, eIO, cl_L_21, List.mem_of_getElem? (i := 9) rfl⟩) (by decide) (by decide) cl_L_15 (by simp [lw_nest]) (Or.inl ⟨3, rfl, dL_catchPendulum_15, rfl⟩) (by decide) (fun q hq => by simp only [List.mem_cons, List.not_mem_nil, or_false] at hq; rcases hq with rfl | rfl | rfl <;> exact ⟨Nat.ne_of_beq_eq_false rfl, fun _ => Nat.ne_of_beq_eq_false rfl⟩) ?_
      refine aw_iconst_n 2 dL_catchPendulum_16 (by decide) ?_
      exact aw_iret rfl (by decide) (by decide) dL_catchPendulum_17 ⟨by rw [z], hn, bp', o, hb', hG, hu9.trans hl, fun y => absurd y hc0, fun a h1 h2 h3 _ => hF a h1 h2 h3⟩
  obtain ⟨hr, -, bp', hb', hG, hF⟩ := h
  obtain ⟨hc0, hrv⟩ := xA_inl hr
  subst hrv
  have hu9 := hF u hu hu2 hu3
  refine aw_i2l dL_catchPendulum_7 ?_
  refine aw_last (hu9.trans hl) (vp_in_nI (by decide) (by decide)) dL_catchPendulum_8 ?_
  refine aw_goto (tgt := 18) dL_catchPendulum_9 (by decide) ?_
  refine aw_iconst_n 0 dL_catchPendulum_18 (by decide) ?_
  exact aw_iret rfl (by decide) (by decide) dL_catchPendulum_19 ⟨by rw [hc0], hn, bp', _, hb', hG.fr (fun a h1 h2 => up_ne (by omega)) (up_ne (by omega)) (Nat.le_refl _), up_self, fun _ => updL_0, fun a h1 h2 h3 h4 => (up_ne h4).trans (hF a h1 h2 h3)⟩
abbrev ML_setFriction : MT := (RL, cL_setFriction, 4, (some .int), tableOf [(0, 9, 12, 13)], "setFriction")
set_option maxHeartbeats 4000000 in
theorem w_setFriction {l : Launch} {G : GT} {n : Nat} {H : HT} {x bp u K : Nat} {s : SG} {o : Nat → Int64} (hW : GW H x bp n s) (hSB : SB K s) (hK : K + 30500 < 16000000) (hu : u < n) (hu2 : u < x ∨ x + 112 ≤ u) (hu3 : u ≠ bp) (hl : H u = lcell o) (v : Int32) : AM l G yL_setFriction (.codeWith yL_setFriction cL_setFriction 4 (some .int) [(0, 9, 12, 13)]) 11 660 12 360 [.ref x, .int v, .ref u] H n (LW9 x bp u H n (opS s (opFric s.1 v)) ((opFric s.1 v).1) ((nI (opFric s.1 v).2.1))) := by
  refine aw_enterW (M := ML_setFriction) (hh := [(0, 9, 12, 13)]) rfl rfl (by decide +kernel) rfl (Nat.le_of_ble_eq_true rfl) ?_
  obtain ⟨h0, ⟨J, B, hst, hS⟩, -, -, -, ⟨T1, hk1⟩, ⟨T4, hk4⟩, -, ⟨Lc, hcd, hcl, hcx⟩, hox, hbx⟩ := id hW
  have hB := hSB.1
  show AW l G ML_setFriction 11 660 12 360 _ n 0 0 0 [(0, .ref x), (1, .int v), (2, .ref u)] [] _ n
  refine aw_aload_n dL_setFriction_0 rfl rfl ?_
  refine aw_iconst_n 0 dL_setFriction_1 (by decide) ?_
  refine aw_aload_n dL_setFriction_2 rfl rfl ?_
  refine aw_iload_n dL_setFriction_3 rfl rfl ?_
  have hA := g_setFriction (l := l) (G := G) hW hB v
  refine aw_cC (as := [Value.int v]) (rest := [Value.int (nI 0), Value.ref u]) (MV.c mV_X10_setFriction) hA ml_L_26 (RC.w hW.1 rfl) dL_setFriction_4 rfl rfl (by decide) (Nat.le_of_ble_eq_true rfl) (by decide) (fun E f9 n9 hn h => ?_) (fun r f9 n9 hn h => ?_)
  · obtain ⟨hr, -, bp', hb', hG, hF⟩ := h
    obtain ⟨hc0, hE⟩ := xA_inr hr
    have hcm : (opFric s.1 v).1 ≤ 1 := by unfold opFric; (repeat' split) <;> exact Nat.le_of_ble_eq_true rfl
    have hu9 := hF u hu hu2 hu3
    have z : (opFric s.1 v).1 = 1 := by omega
    have hE2 : E = eIA := hE.trans (by rw [z]; rfl)
    subst hE2
    refine ax_catch (j := 3) (w := 1) [] ⟨0, 9, 12, 13⟩ [] rfl (fun z hz => nomatch hz) (by decide) (by decide) cl_L_13 (by simp [lw_nest]) (Or.inl ⟨3, rfl, dL_setFriction_12, rfl⟩) (by decide) (fun q hq => by simp only [List.mem_cons, List.not_mem_nil, or_false] at hq; rcases hq with rfl | rfl | rfl <;> exact ⟨Nat.ne_of_beq_eq_false rfl, fun _ => Nat.ne_of_beq_eq_false rfl⟩) ?_
    refine aw_iconst_n 1 dL_setFriction_13 (by decide) ?_
    exact aw_iret rfl (by decide) (by decide) dL_setFriction_14 ⟨by rw [z], hn, bp', o, hb', hG, hu9.trans hl, fun y => absurd y hc0, fun a h1 h2 h3 _ => hF a h1 h2 h3⟩
  obtain ⟨hr, -, bp', hb', hG, hF⟩ := h
  obtain ⟨hc0, hrv⟩ := xA_inl hr
  subst hrv
  have hu9 := hF u hu hu2 hu3
  refine aw_i2l dL_setFriction_7 ?_
  refine aw_last (hu9.trans hl) (vp_in_nI (by decide) (by decide)) dL_setFriction_8 ?_
  refine aw_goto (tgt := 15) dL_setFriction_9 (by decide) ?_
  refine aw_iconst_n 0 dL_setFriction_15 (by decide) ?_
  exact aw_iret rfl (by decide) (by decide) dL_setFriction_16 ⟨by rw [hc0], hn, bp', _, hb', hG.fr (fun a h1 h2 => up_ne (by omega)) (up_ne (by omega)) (Nat.le_refl _), up_self, fun _ => updL_0, fun a h1 h2 h3 h4 => (up_ne h4).trans (hF a h1 h2 h3)⟩
abbrev ML_pass : MT := (RL, cL_pass, 4, (some .int), tableOf [(0, 9, 12, 13)], "pass")
set_option maxHeartbeats 4000000 in
theorem w_pass {l : Launch} {G : GT} {n : Nat} {H : HT} {x bp u K : Nat} {s : SG} {o : Nat → Int64} (hW : GW H x bp n s) (hSB : SB K s) (hK : K + 30500 < 16000000) (hu : u < n) (hu2 : u < x ∨ x + 112 ≤ u) (hu3 : u ≠ bp) (hl : H u = lcell o) (v : Int32) : AM l G yL_pass (.codeWith yL_pass cL_pass 4 (some .int) [(0, 9, 12, 13)]) 11 660 12 360 [.ref x, .int v, .ref u] H n (LW9 x bp u H n (opS s (opPass s.1 v)) ((opPass s.1 v).1) ((nI (opPass s.1 v).2.1))) := by
  refine aw_enterW (M := ML_pass) (hh := [(0, 9, 12, 13)]) rfl rfl (by decide +kernel) rfl (Nat.le_of_ble_eq_true rfl) ?_
  obtain ⟨h0, ⟨J, B, hst, hS⟩, -, -, -, ⟨T1, hk1⟩, ⟨T4, hk4⟩, -, ⟨Lc, hcd, hcl, hcx⟩, hox, hbx⟩ := id hW
  have hB := hSB.1
  show AW l G ML_pass 11 660 12 360 _ n 0 0 0 [(0, .ref x), (1, .int v), (2, .ref u)] [] _ n
  refine aw_aload_n dL_pass_0 rfl rfl ?_
  refine aw_iconst_n 0 dL_pass_1 (by decide) ?_
  refine aw_aload_n dL_pass_2 rfl rfl ?_
  refine aw_iload_n dL_pass_3 rfl rfl ?_
  have hA := g_pass (l := l) (G := G) hW hB (by omega) v
  refine aw_cC (as := [Value.int v]) (rest := [Value.int (nI 0), Value.ref u]) (MV.c mV_X10_pass) hA ml_L_29 (RC.w hW.1 rfl) dL_pass_4 rfl rfl (by decide) (Nat.le_of_ble_eq_true rfl) (by decide) (fun E f9 n9 hn h => ?_) (fun r f9 n9 hn h => ?_)
  · obtain ⟨hr, -, bp', hb', hG, hF⟩ := h
    obtain ⟨hc0, hE⟩ := xA_inr hr
    have hcm : (opPass s.1 v).1 ≤ 1 := by unfold opPass; (repeat' split) <;> exact Nat.le_of_ble_eq_true rfl
    have hu9 := hF u hu hu2 hu3
    have z : (opPass s.1 v).1 = 1 := by omega
    have hE2 : E = eIA := hE.trans (by rw [z]; rfl)
    subst hE2
    refine ax_catch (j := 3) (w := 1) [] ⟨0, 9, 12, 13⟩ [] rfl (fun z hz => nomatch hz) (by decide) (by decide) cl_L_13 (by simp [lw_nest]) (Or.inl ⟨3, rfl, dL_pass_12, rfl⟩) (by decide) (fun q hq => by simp only [List.mem_cons, List.not_mem_nil, or_false] at hq; rcases hq with rfl | rfl | rfl <;> exact ⟨Nat.ne_of_beq_eq_false rfl, fun _ => Nat.ne_of_beq_eq_false rfl⟩) ?_
    refine aw_iconst_n 1 dL_pass_13 (by decide) ?_
    exact aw_iret rfl (by decide) (by decide) dL_pass_14 ⟨by rw [z], hn, bp', o, hb', hG, hu9.trans hl, fun y => absurd y hc0, fun a h1 h2 h3 _ => hF a h1 h2 h3⟩
  obtain ⟨hr, -, bp', hb', hG, hF⟩ := h
  obtain ⟨hc0, hrv⟩ := xA_inl hr
  subst hrv
  have hu9 := hF u hu hu2 hu3
  refine aw_i2l dL_pass_7 ?_
  refine aw_last (hu9.trans hl) (vp_in_nI (by decide) (by decide)) dL_pass_8 ?_
  refine aw_goto (tgt := 15) dL_pass_9 (by decide) ?_
  refine aw_iconst_n 0 dL_pass_15 (by decide) ?_
  exact aw_iret rfl (by decide) (by decide) dL_pass_16 ⟨by rw [hc0], hn, bp', _, hb', hG.fr (fun a h1 h2 => up_ne (by omega)) (up_ne (by omega)) (Nat.le_refl _), up_self, fun _ => updL_0, fun a h1 h2 h3 h4 => (up_ne h4).trans (hF a h1 h2 h3)⟩
abbrev ML_lengthOf : MT := (RL, cL_lengthOf, 4, (some .int), tableOf [(0, 9, 12, 21)], "lengthOf")
set_option maxHeartbeats 4000000 in
theorem w_lengthOf {l : Launch} {G : GT} {n : Nat} {H : HT} {x bp u K : Nat} {s : SG} {o : Nat → Int64} (hW : GW H x bp n s) (hSB : SB K s) (hK : K + 30500 < 16000000) (hu : u < n) (hu2 : u < x ∨ x + 112 ≤ u) (hu3 : u ≠ bp) (hl : H u = lcell o) (v : Int32) : AM l G yL_lengthOf (.codeWith yL_lengthOf cL_lengthOf 4 (some .int) [(0, 9, 12, 21)]) 11 660 12 360 [.ref x, .int v, .ref u] H n (LW9 x bp u H n (s) ((qNum s.1 4 v).1) ((nI (qNum s.1 4 v).2))) := by
  refine aw_enterW (M := ML_lengthOf) (hh := [(0, 9, 12, 21)]) rfl rfl (by decide +kernel) rfl (Nat.le_of_ble_eq_true rfl) ?_
  obtain ⟨h0, ⟨J, B, hst, hS⟩, -, -, -, ⟨T1, hk1⟩, ⟨T4, hk4⟩, -, ⟨Lc, hcd, hcl, hcx⟩, hox, hbx⟩ := id hW
  have hB := hSB.1
  show AW l G ML_lengthOf 11 660 12 360 _ n 0 0 0 [(0, .ref x), (1, .int v), (2, .ref u)] [] _ n
  refine aw_aload_n dL_lengthOf_0 rfl rfl ?_
  refine aw_iconst_n 0 dL_lengthOf_1 (by decide) ?_
  refine aw_aload_n dL_lengthOf_2 rfl rfl ?_
  refine aw_iload_n dL_lengthOf_3 rfl rfl ?_
  have hA := HQ.gx hW (g_lengthOf (l := l) (G := G) h0 hst hS hB v)
  refine aw_cC (as := [Value.int v]) (rest := [Value.int (nI 0), Value.ref u]) (MV.c mV_X10_lengthOf) hA ml_L_32 (RC.w hW.1 rfl) dL_lengthOf_4 rfl rfl (by decide) (Nat.le_of_ble_eq_true rfl) (by decide) (fun E f9 n9 hn h => ?_) (fun r f9 n9 hn h => ?_)
  · obtain ⟨hr, -, bp', hb', hG, hF⟩ := h
    obtain ⟨hc0, hE⟩ := xA_inr hr
    have hcm : (qNum s.1 4 v).1 ≤ 1 := by unfold qNum; (repeat' split) <;> exact Nat.le_of_ble_eq_true rfl
    have hu9 := hF u hu hu2 hu3
    have z : (qNum s.1 4 v).1 = 1 := by omega
    have hE2 : E = eIO := hE.trans (by rw [z]; rfl)
    subst hE2
    refine ax_catch (j := 3) (w := 1) [] ⟨0, 9, 12, 21⟩ [] rfl (fun z hz => nomatch hz) (by decide) (by decide) cl_L_21 (by simp [lw_nest]) (Or.inl ⟨3, rfl, dL_lengthOf_12, rfl⟩) (by decide) (fun q hq => by simp only [List.mem_cons, List.not_mem_nil, or_false] at hq; rcases hq with rfl | rfl | rfl <;> exact ⟨Nat.ne_of_beq_eq_false rfl, fun _ => Nat.ne_of_beq_eq_false rfl⟩) ?_
    refine aw_iconst_n 1 dL_lengthOf_13 (by decide) ?_
    exact aw_iret rfl (by decide) (by decide) dL_lengthOf_14 ⟨by rw [z], hn, bp', o, hb', hG, hu9.trans hl, fun y => absurd y hc0, fun a h1 h2 h3 _ => hF a h1 h2 h3⟩
  obtain ⟨hr, -, bp', hb', hG, hF⟩ := h
  obtain ⟨hc0, hrv⟩ := xA_inl hr
  subst hrv
  have hu9 := hF u hu hu2 hu3
  refine aw_i2l dL_lengthOf_7 ?_
  refine aw_last (hu9.trans hl) (vp_in_nI (by decide) (by decide)) dL_lengthOf_8 ?_
  refine aw_goto (tgt := 15) dL_lengthOf_9 (by decide) ?_
  refine aw_iconst_n 0 dL_lengthOf_15 (by decide) ?_
  exact aw_iret rfl (by decide) (by decide) dL_lengthOf_16 ⟨by rw [hc0], hn, bp', _, hb', hG.fr (fun a h1 h2 => up_ne (by omega)) (up_ne (by omega)) (Nat.le_refl _), up_self, fun _ => updL_0, fun a h1 h2 h3 h4 => (up_ne h4).trans (hF a h1 h2 h3)⟩
abbrev ML_classOf : MT := (RL, cL_classOf, 4, (some .int), tableOf [(0, 9, 12, 21)], "classOf")
set_option maxHeartbeats 4000000 in
theorem w_classOf {l : Launch} {G : GT} {n : Nat} {H : HT} {x bp u K : Nat} {s : SG} {o : Nat → Int64} (hW : GW H x bp n s) (hSB : SB K s) (hK : K + 30500 < 16000000) (hu : u < n) (hu2 : u < x ∨ x + 112 ≤ u) (hu3 : u ≠ bp) (hl : H u = lcell o) (v : Int32) : AM l G yL_classOf (.codeWith yL_classOf cL_classOf 4 (some .int) [(0, 9, 12, 21)]) 11 660 12 360 [.ref x, .int v, .ref u] H n (LW9 x bp u H n (s) ((qClass s.1 v).1) ((nI (qClass s.1 v).2))) := by
  refine aw_enterW (M := ML_classOf) (hh := [(0, 9, 12, 21)]) rfl rfl (by decide +kernel) rfl (Nat.le_of_ble_eq_true rfl) ?_
  obtain ⟨h0, ⟨J, B, hst, hS⟩, -, -, -, ⟨T1, hk1⟩, ⟨T4, hk4⟩, -, ⟨Lc, hcd, hcl, hcx⟩, hox, hbx⟩ := id hW
  have hB := hSB.1
  show AW l G ML_classOf 11 660 12 360 _ n 0 0 0 [(0, .ref x), (1, .int v), (2, .ref u)] [] _ n
  refine aw_aload_n dL_classOf_0 rfl rfl ?_
  refine aw_iconst_n 0 dL_classOf_1 (by decide) ?_
  refine aw_aload_n dL_classOf_2 rfl rfl ?_
  refine aw_iload_n dL_classOf_3 rfl rfl ?_
  have hA := HQ.gx hW (g_classOf (l := l) (G := G) h0 hst hS hB v)
  refine aw_cC (as := [Value.int v]) (rest := [Value.int (nI 0), Value.ref u]) (MV.c mV_X10_classOf) hA ml_L_35 (RC.w hW.1 rfl) dL_classOf_4 rfl rfl (by decide) (Nat.le_of_ble_eq_true rfl) (by decide) (fun E f9 n9 hn h => ?_) (fun r f9 n9 hn h => ?_)
  · obtain ⟨hr, -, bp', hb', hG, hF⟩ := h
    obtain ⟨hc0, hE⟩ := xA_inr hr
    have hcm : (qClass s.1 v).1 ≤ 1 := by unfold qClass; (repeat' split) <;> exact Nat.le_of_ble_eq_true rfl
    have hu9 := hF u hu hu2 hu3
    have z : (qClass s.1 v).1 = 1 := by omega
    have hE2 : E = eIO := hE.trans (by rw [z]; rfl)
    subst hE2
    refine ax_catch (j := 3) (w := 1) [] ⟨0, 9, 12, 21⟩ [] rfl (fun z hz => nomatch hz) (by decide) (by decide) cl_L_21 (by simp [lw_nest]) (Or.inl ⟨3, rfl, dL_classOf_12, rfl⟩) (by decide) (fun q hq => by simp only [List.mem_cons, List.not_mem_nil, or_false] at hq; rcases hq with rfl | rfl | rfl <;> exact ⟨Nat.ne_of_beq_eq_false rfl, fun _ => Nat.ne_of_beq_eq_false rfl⟩) ?_
    refine aw_iconst_n 1 dL_classOf_13 (by decide) ?_
    exact aw_iret rfl (by decide) (by decide) dL_classOf_14 ⟨by rw [z], hn, bp', o, hb', hG, hu9.trans hl, fun y => absurd y hc0, fun a h1 h2 h3 _ => hF a h1 h2 h3⟩
  obtain ⟨hr, -, bp', hb', hG, hF⟩ := h
  obtain ⟨hc0, hrv⟩ := xA_inl hr
  subst hrv
  have hu9 := hF u hu hu2 hu3
  refine aw_i2l dL_classOf_7 ?_
  refine aw_last (hu9.trans hl) (vp_in_nI (by decide) (by decide)) dL_classOf_8 ?_
  refine aw_goto (tgt := 15) dL_classOf_9 (by decide) ?_
  refine aw_iconst_n 0 dL_classOf_15 (by decide) ?_
  exact aw_iret rfl (by decide) (by decide) dL_classOf_16 ⟨by rw [hc0], hn, bp', _, hb', hG.fr (fun a h1 h2 => up_ne (by omega)) (up_ne (by omega)) (Nat.le_refl _), up_self, fun _ => updL_0, fun a h1 h2 h3 h4 => (up_ne h4).trans (hF a h1 h2 h3)⟩
abbrev ML_amplitudeOf : MT := (RL, cL_amplitudeOf, 4, (some .int), tableOf [(0, 9, 12, 21)], "amplitudeOf")
set_option maxHeartbeats 4000000 in
theorem w_amplitudeOf {l : Launch} {G : GT} {n : Nat} {H : HT} {x bp u K : Nat} {s : SG} {o : Nat → Int64} (hW : GW H x bp n s) (hSB : SB K s) (hK : K + 30500 < 16000000) (hu : u < n) (hu2 : u < x ∨ x + 112 ≤ u) (hu3 : u ≠ bp) (hl : H u = lcell o) (v : Int32) : AM l G yL_amplitudeOf (.codeWith yL_amplitudeOf cL_amplitudeOf 4 (some .int) [(0, 9, 12, 21)]) 11 660 12 360 [.ref x, .int v, .ref u] H n (LW9 x bp u H n (s) ((qNum s.1 12 v).1) ((nI (qNum s.1 12 v).2))) := by
  refine aw_enterW (M := ML_amplitudeOf) (hh := [(0, 9, 12, 21)]) rfl rfl (by decide +kernel) rfl (Nat.le_of_ble_eq_true rfl) ?_
  obtain ⟨h0, ⟨J, B, hst, hS⟩, -, -, -, ⟨T1, hk1⟩, ⟨T4, hk4⟩, -, ⟨Lc, hcd, hcl, hcx⟩, hox, hbx⟩ := id hW
  have hB := hSB.1
  show AW l G ML_amplitudeOf 11 660 12 360 _ n 0 0 0 [(0, .ref x), (1, .int v), (2, .ref u)] [] _ n
  refine aw_aload_n dL_amplitudeOf_0 rfl rfl ?_
  refine aw_iconst_n 0 dL_amplitudeOf_1 (by decide) ?_
  refine aw_aload_n dL_amplitudeOf_2 rfl rfl ?_
  refine aw_iload_n dL_amplitudeOf_3 rfl rfl ?_
  have hA := HQ.gx hW (g_amplitudeOf (l := l) (G := G) h0 hst hS hB v)
  refine aw_cC (as := [Value.int v]) (rest := [Value.int (nI 0), Value.ref u]) (MV.c mV_X10_amplitudeOf) hA ml_L_38 (RC.w hW.1 rfl) dL_amplitudeOf_4 rfl rfl (by decide) (Nat.le_of_ble_eq_true rfl) (by decide) (fun E f9 n9 hn h => ?_) (fun r f9 n9 hn h => ?_)
  · obtain ⟨hr, -, bp', hb', hG, hF⟩ := h
    obtain ⟨hc0, hE⟩ := xA_inr hr
    have hcm : (qNum s.1 12 v).1 ≤ 1 := by unfold qNum; (repeat' split) <;> exact Nat.le_of_ble_eq_true rfl
    have hu9 := hF u hu hu2 hu3
    have z : (qNum s.1 12 v).1 = 1 := by omega
    have hE2 : E = eIO := hE.trans (by rw [z]; rfl)
    subst hE2
    refine ax_catch (j := 3) (w := 1) [] ⟨0, 9, 12, 21⟩ [] rfl (fun z hz => nomatch hz) (by decide) (by decide) cl_L_21 (by simp [lw_nest]) (Or.inl ⟨3, rfl, dL_amplitudeOf_12, rfl⟩) (by decide) (fun q hq => by simp only [List.mem_cons, List.not_mem_nil, or_false] at hq; rcases hq with rfl | rfl | rfl <;> exact ⟨Nat.ne_of_beq_eq_false rfl, fun _ => Nat.ne_of_beq_eq_false rfl⟩) ?_
    refine aw_iconst_n 1 dL_amplitudeOf_13 (by decide) ?_
    exact aw_iret rfl (by decide) (by decide) dL_amplitudeOf_14 ⟨by rw [z], hn, bp', o, hb', hG, hu9.trans hl, fun y => absurd y hc0, fun a h1 h2 h3 _ => hF a h1 h2 h3⟩
  obtain ⟨hr, -, bp', hb', hG, hF⟩ := h
  obtain ⟨hc0, hrv⟩ := xA_inl hr
  subst hrv
  have hu9 := hF u hu hu2 hu3
  refine aw_i2l dL_amplitudeOf_7 ?_
  refine aw_last (hu9.trans hl) (vp_in_nI (by decide) (by decide)) dL_amplitudeOf_8 ?_
  refine aw_goto (tgt := 15) dL_amplitudeOf_9 (by decide) ?_
  refine aw_iconst_n 0 dL_amplitudeOf_15 (by decide) ?_
  exact aw_iret rfl (by decide) (by decide) dL_amplitudeOf_16 ⟨by rw [hc0], hn, bp', _, hb', hG.fr (fun a h1 h2 => up_ne (by omega)) (up_ne (by omega)) (Nat.le_refl _), up_self, fun _ => updL_0, fun a h1 h2 h3 h4 => (up_ne h4).trans (hF a h1 h2 h3)⟩
abbrev ML_startOf : MT := (RL, cL_startOf, 4, (some .int), tableOf [(0, 9, 12, 21), (0, 9, 15, 44)], "startOf")
set_option maxHeartbeats 4000000 in
theorem w_startOf {l : Launch} {G : GT} {n : Nat} {H : HT} {x bp u K : Nat} {s : SG} {o : Nat → Int64} (hW : GW H x bp n s) (hSB : SB K s) (hK : K + 30500 < 16000000) (hu : u < n) (hu2 : u < x ∨ x + 112 ≤ u) (hu3 : u ≠ bp) (hl : H u = lcell o) (v : Int32) : AM l G yL_startOf (.codeWith yL_startOf cL_startOf 4 (some .int) [(0, 9, 12, 21), (0, 9, 15, 44)]) 11 660 12 360 [.ref x, .int v, .ref u] H n (LW9 x bp u H n (s) ((qStart s.1 v).1) ((nI (qStart s.1 v).2))) := by
  refine aw_enterW (M := ML_startOf) (hh := [(0, 9, 12, 21), (0, 9, 15, 44)]) rfl rfl (by decide +kernel) rfl (Nat.le_of_ble_eq_true rfl) ?_
  obtain ⟨h0, ⟨J, B, hst, hS⟩, -, -, -, ⟨T1, hk1⟩, ⟨T4, hk4⟩, -, ⟨Lc, hcd, hcl, hcx⟩, hox, hbx⟩ := id hW
  have hB := hSB.1
  show AW l G ML_startOf 11 660 12 360 _ n 0 0 0 [(0, .ref x), (1, .int v), (2, .ref u)] [] _ n
  refine aw_aload_n dL_startOf_0 rfl rfl ?_
  refine aw_iconst_n 0 dL_startOf_1 (by decide) ?_
  refine aw_aload_n dL_startOf_2 rfl rfl ?_
  refine aw_iload_n dL_startOf_3 rfl rfl ?_
  have hA := HQ.gx hW (g_startOf (l := l) (G := G) h0 hst hS hB v)
  refine aw_cC (as := [Value.int v]) (rest := [Value.int (nI 0), Value.ref u]) (MV.c mV_X10_startOf) hA ml_L_41 (RC.w hW.1 rfl) dL_startOf_4 rfl rfl (by decide) (Nat.le_of_ble_eq_true rfl) (by decide) (fun E f9 n9 hn h => ?_) (fun r f9 n9 hn h => ?_)
  · obtain ⟨hr, -, bp', hb', hG, hF⟩ := h
    obtain ⟨hc0, hE⟩ := xA_inr hr
    have hcm : (qStart s.1 v).1 ≤ 2 := by unfold qStart; (repeat' split) <;> exact Nat.le_of_ble_eq_true rfl
    have hu9 := hF u hu hu2 hu3
    rcases (by omega : (qStart s.1 v).1 = 1 ∨ (qStart s.1 v).1 = 2) with z | z
    · have hE2 : E = eIO := hE.trans (by rw [z]; rfl)
      subst hE2
      refine ax_catch (j := 3) (w := 1) [] ⟨0, 9, 12, 21⟩ [⟨0, 9, 15, 44⟩] rfl (fun z hz => nomatch hz) (by decide) (by decide) cl_L_21 (by simp [lw_nest]) (Or.inl ⟨3, rfl, dL_startOf_12, rfl⟩) (by decide) (fun q hq => by simp only [List.mem_cons, List.not_mem_nil, or_false] at hq; rcases hq with rfl | rfl | rfl <;> exact ⟨Nat.ne_of_beq_eq_false rfl, fun _ => Nat.ne_of_beq_eq_false rfl⟩) ?_
      refine aw_iconst_n 1 dL_startOf_13 (by decide) ?_
      exact aw_iret rfl (by decide) (by decide) dL_startOf_14 ⟨by rw [z], hn, bp', o, hb', hG, hu9.trans hl, fun y => absurd y hc0, fun a h1 h2 h3 _ => hF a h1 h2 h3⟩
    · have hE2 : E = eNS := hE.trans (by rw [z]; rfl)
      subst hE2
      refine ax_catch (j := 3) (w := 1) [⟨0, 9, 12, 21⟩] ⟨0, 9, 15, 44⟩ [] rfl (fun z hz => by
        simp only [tableOf, List.mem_cons, List.not_mem_nil, or_false] at hz
        rcases hz with rfl
        · exact ⟨by decide, eIO, cl_L_21, List.mem_of_getElem? (i := 10) rfl⟩) (by decide) (by decide) cl_L_44 (by simp [lw_nest]) (Or.inl ⟨3, rfl, dL_startOf_15, rfl⟩) (by decide) (fun q hq => by simp only [List.mem_cons, List.not_mem_nil, or_false] at hq; rcases hq with rfl | rfl | rfl <;> exact ⟨Nat.ne_of_beq_eq_false rfl, fun _ => Nat.ne_of_beq_eq_false rfl⟩) ?_
      refine aw_iconst_n 2 dL_startOf_16 (by decide) ?_
      exact aw_iret rfl (by decide) (by decide) dL_startOf_17 ⟨by rw [z], hn, bp', o, hb', hG, hu9.trans hl, fun y => absurd y hc0, fun a h1 h2 h3 _ => hF a h1 h2 h3⟩
  obtain ⟨hr, -, bp', hb', hG, hF⟩ := h
  obtain ⟨hc0, hrv⟩ := xA_inl hr
  subst hrv
  have hu9 := hF u hu hu2 hu3
  refine aw_i2l dL_startOf_7 ?_
  refine aw_last (hu9.trans hl) (vp_in_nI (by decide) (by decide)) dL_startOf_8 ?_
  refine aw_goto (tgt := 18) dL_startOf_9 (by decide) ?_
  refine aw_iconst_n 0 dL_startOf_18 (by decide) ?_
  exact aw_iret rfl (by decide) (by decide) dL_startOf_19 ⟨by rw [hc0], hn, bp', _, hb', hG.fr (fun a h1 h2 => up_ne (by omega)) (up_ne (by omega)) (Nat.le_refl _), up_self, fun _ => updL_0, fun a h1 h2 h3 h4 => (up_ne h4).trans (hF a h1 h2 h3)⟩
abbrev ML_periodOf : MT := (RL, cL_periodOf, 4, (some .int), tableOf [(0, 9, 12, 21)], "periodOf")
set_option maxHeartbeats 4000000 in
theorem w_periodOf {l : Launch} {G : GT} {n : Nat} {H : HT} {x bp u K : Nat} {s : SG} {o : Nat → Int64} (hW : GW H x bp n s) (hSB : SB K s) (hK : K + 30500 < 16000000) (hu : u < n) (hu2 : u < x ∨ x + 112 ≤ u) (hu3 : u ≠ bp) (hl : H u = lcell o) (v : Int32) : AM l G yL_periodOf (.codeWith yL_periodOf cL_periodOf 4 (some .int) [(0, 9, 12, 21)]) 11 660 12 360 [.ref x, .int v, .ref u] H n (LW9 x bp u H n (s) ((qPeriod s.1 v).1) ((nI (qPeriod s.1 v).2))) := by
  refine aw_enterW (M := ML_periodOf) (hh := [(0, 9, 12, 21)]) rfl rfl (by decide +kernel) rfl (Nat.le_of_ble_eq_true rfl) ?_
  obtain ⟨h0, ⟨J, B, hst, hS⟩, -, -, -, ⟨T1, hk1⟩, ⟨T4, hk4⟩, -, ⟨Lc, hcd, hcl, hcx⟩, hox, hbx⟩ := id hW
  have hB := hSB.1
  show AW l G ML_periodOf 11 660 12 360 _ n 0 0 0 [(0, .ref x), (1, .int v), (2, .ref u)] [] _ n
  refine aw_aload_n dL_periodOf_0 rfl rfl ?_
  refine aw_iconst_n 0 dL_periodOf_1 (by decide) ?_
  refine aw_aload_n dL_periodOf_2 rfl rfl ?_
  refine aw_iload_n dL_periodOf_3 rfl rfl ?_
  have hA := HQ.gx hW (g_periodOf (l := l) (G := G) h0 hst hS hB v)
  refine aw_cC (as := [Value.int v]) (rest := [Value.int (nI 0), Value.ref u]) (MV.c mV_X10_periodOf) hA ml_L_46 (RC.w hW.1 rfl) dL_periodOf_4 rfl rfl (by decide) (Nat.le_of_ble_eq_true rfl) (by decide) (fun E f9 n9 hn h => ?_) (fun r f9 n9 hn h => ?_)
  · obtain ⟨hr, -, bp', hb', hG, hF⟩ := h
    obtain ⟨hc0, hE⟩ := xA_inr hr
    have hcm : (qPeriod s.1 v).1 ≤ 1 := by unfold qPeriod; (repeat' split) <;> exact Nat.le_of_ble_eq_true rfl
    have hu9 := hF u hu hu2 hu3
    have z : (qPeriod s.1 v).1 = 1 := by omega
    have hE2 : E = eIO := hE.trans (by rw [z]; rfl)
    subst hE2
    refine ax_catch (j := 3) (w := 1) [] ⟨0, 9, 12, 21⟩ [] rfl (fun z hz => nomatch hz) (by decide) (by decide) cl_L_21 (by simp [lw_nest]) (Or.inl ⟨3, rfl, dL_periodOf_12, rfl⟩) (by decide) (fun q hq => by simp only [List.mem_cons, List.not_mem_nil, or_false] at hq; rcases hq with rfl | rfl | rfl <;> exact ⟨Nat.ne_of_beq_eq_false rfl, fun _ => Nat.ne_of_beq_eq_false rfl⟩) ?_
    refine aw_iconst_n 1 dL_periodOf_13 (by decide) ?_
    exact aw_iret rfl (by decide) (by decide) dL_periodOf_14 ⟨by rw [z], hn, bp', o, hb', hG, hu9.trans hl, fun y => absurd y hc0, fun a h1 h2 h3 _ => hF a h1 h2 h3⟩
  obtain ⟨hr, -, bp', hb', hG, hF⟩ := h
  obtain ⟨hc0, hrv⟩ := xA_inl hr
  subst hrv
  have hu9 := hF u hu hu2 hu3
  refine aw_i2l dL_periodOf_7 ?_
  refine aw_last (hu9.trans hl) (vp_in_nI (by decide) (by decide)) dL_periodOf_8 ?_
  refine aw_goto (tgt := 15) dL_periodOf_9 (by decide) ?_
  refine aw_iconst_n 0 dL_periodOf_15 (by decide) ?_
  exact aw_iret rfl (by decide) (by decide) dL_periodOf_16 ⟨by rw [hc0], hn, bp', _, hb', hG.fr (fun a h1 h2 => up_ne (by omega)) (up_ne (by omega)) (Nat.le_refl _), up_self, fun _ => updL_0, fun a h1 h2 h3 h4 => (up_ne h4).trans (hF a h1 h2 h3)⟩
abbrev ML_periodByEstimates : MT := (RL, cL_periodByEstimates, 4, (some .int), tableOf [(0, 9, 12, 21)], "periodByEstimates")
set_option maxHeartbeats 4000000 in
theorem w_periodByEstimates {l : Launch} {G : GT} {n : Nat} {H : HT} {x bp u K : Nat} {s : SG} {o : Nat → Int64} (hW : GW H x bp n s) (hSB : SB K s) (hK : K + 30500 < 16000000) (hu : u < n) (hu2 : u < x ∨ x + 112 ≤ u) (hu3 : u ≠ bp) (hl : H u = lcell o) (v : Int32) : AM l G yL_periodByEstimates (.codeWith yL_periodByEstimates cL_periodByEstimates 4 (some .int) [(0, 9, 12, 21)]) 11 660 12 360 [.ref x, .int v, .ref u] H n (LW9 x bp u H n (s) ((qPeriod s.1 v).1) ((nI (qPeriod s.1 v).2))) := by
  refine aw_enterW (M := ML_periodByEstimates) (hh := [(0, 9, 12, 21)]) rfl rfl (by decide +kernel) rfl (Nat.le_of_ble_eq_true rfl) ?_
  obtain ⟨h0, ⟨J, B, hst, hS⟩, -, -, -, ⟨T1, hk1⟩, ⟨T4, hk4⟩, -, ⟨Lc, hcd, hcl, hcx⟩, hox, hbx⟩ := id hW
  have hB := hSB.1
  show AW l G ML_periodByEstimates 11 660 12 360 _ n 0 0 0 [(0, .ref x), (1, .int v), (2, .ref u)] [] _ n
  refine aw_aload_n dL_periodByEstimates_0 rfl rfl ?_
  refine aw_iconst_n 0 dL_periodByEstimates_1 (by decide) ?_
  refine aw_aload_n dL_periodByEstimates_2 rfl rfl ?_
  refine aw_iload_n dL_periodByEstimates_3 rfl rfl ?_
  have hA := HQ.gx hW (g_periodByEstimates (l := l) (G := G) h0 hst hS hB v)
  refine aw_cC (as := [Value.int v]) (rest := [Value.int (nI 0), Value.ref u]) (MV.c mV_X10_periodByEstimates) hA ml_L_49 (RC.w hW.1 rfl) dL_periodByEstimates_4 rfl rfl (by decide) (Nat.le_of_ble_eq_true rfl) (by decide) (fun E f9 n9 hn h => ?_) (fun r f9 n9 hn h => ?_)
  · obtain ⟨hr, -, bp', hb', hG, hF⟩ := h
    obtain ⟨hc0, hE⟩ := xA_inr hr
    have hcm : (qPeriod s.1 v).1 ≤ 1 := by unfold qPeriod; (repeat' split) <;> exact Nat.le_of_ble_eq_true rfl
    have hu9 := hF u hu hu2 hu3
    have z : (qPeriod s.1 v).1 = 1 := by omega
    have hE2 : E = eIO := hE.trans (by rw [z]; rfl)
    subst hE2
    refine ax_catch (j := 3) (w := 1) [] ⟨0, 9, 12, 21⟩ [] rfl (fun z hz => nomatch hz) (by decide) (by decide) cl_L_21 (by simp [lw_nest]) (Or.inl ⟨3, rfl, dL_periodByEstimates_12, rfl⟩) (by decide) (fun q hq => by simp only [List.mem_cons, List.not_mem_nil, or_false] at hq; rcases hq with rfl | rfl | rfl <;> exact ⟨Nat.ne_of_beq_eq_false rfl, fun _ => Nat.ne_of_beq_eq_false rfl⟩) ?_
    refine aw_iconst_n 1 dL_periodByEstimates_13 (by decide) ?_
    exact aw_iret rfl (by decide) (by decide) dL_periodByEstimates_14 ⟨by rw [z], hn, bp', o, hb', hG, hu9.trans hl, fun y => absurd y hc0, fun a h1 h2 h3 _ => hF a h1 h2 h3⟩
  obtain ⟨hr, -, bp', hb', hG, hF⟩ := h
  obtain ⟨hc0, hrv⟩ := xA_inl hr
  subst hrv
  have hu9 := hF u hu hu2 hu3
  refine aw_i2l dL_periodByEstimates_7 ?_
  refine aw_last (hu9.trans hl) (vp_in_nI (by decide) (by decide)) dL_periodByEstimates_8 ?_
  refine aw_goto (tgt := 15) dL_periodByEstimates_9 (by decide) ?_
  refine aw_iconst_n 0 dL_periodByEstimates_15 (by decide) ?_
  exact aw_iret rfl (by decide) (by decide) dL_periodByEstimates_16 ⟨by rw [hc0], hn, bp', _, hb', hG.fr (fun a h1 h2 => up_ne (by omega)) (up_ne (by omega)) (Nat.le_refl _), up_self, fun _ => updL_0, fun a h1 h2 h3 h4 => (up_ne h4).trans (hF a h1 h2 h3)⟩
abbrev ML_swingsOf : MT := (RL, cL_swingsOf, 4, (some .int), tableOf [(0, 9, 12, 21)], "swingsOf")
set_option maxHeartbeats 4000000 in
theorem w_swingsOf {l : Launch} {G : GT} {n : Nat} {H : HT} {x bp u K : Nat} {s : SG} {o : Nat → Int64} (hW : GW H x bp n s) (hSB : SB K s) (hK : K + 30500 < 16000000) (hu : u < n) (hu2 : u < x ∨ x + 112 ≤ u) (hu3 : u ≠ bp) (hl : H u = lcell o) (v : Int32) : AM l G yL_swingsOf (.codeWith yL_swingsOf cL_swingsOf 4 (some .int) [(0, 9, 12, 21)]) 11 660 12 360 [.ref x, .int v, .ref u] H n (LW9 x bp u H n (s) ((qNum s.1 28 v).1) ((nI (qNum s.1 28 v).2))) := by
  refine aw_enterW (M := ML_swingsOf) (hh := [(0, 9, 12, 21)]) rfl rfl (by decide +kernel) rfl (Nat.le_of_ble_eq_true rfl) ?_
  obtain ⟨h0, ⟨J, B, hst, hS⟩, -, -, -, ⟨T1, hk1⟩, ⟨T4, hk4⟩, -, ⟨Lc, hcd, hcl, hcx⟩, hox, hbx⟩ := id hW
  have hB := hSB.1
  show AW l G ML_swingsOf 11 660 12 360 _ n 0 0 0 [(0, .ref x), (1, .int v), (2, .ref u)] [] _ n
  refine aw_aload_n dL_swingsOf_0 rfl rfl ?_
  refine aw_iconst_n 0 dL_swingsOf_1 (by decide) ?_
  refine aw_aload_n dL_swingsOf_2 rfl rfl ?_
  refine aw_iload_n dL_swingsOf_3 rfl rfl ?_
  have hA := HQ.gx hW (g_swingsOf (l := l) (G := G) h0 hst hS hB v)
  refine aw_cC (as := [Value.int v]) (rest := [Value.int (nI 0), Value.ref u]) (MV.c mV_X10_swingsOf) hA ml_L_52 (RC.w hW.1 rfl) dL_swingsOf_4 rfl rfl (by decide) (Nat.le_of_ble_eq_true rfl) (by decide) (fun E f9 n9 hn h => ?_) (fun r f9 n9 hn h => ?_)
  · obtain ⟨hr, -, bp', hb', hG, hF⟩ := h
    obtain ⟨hc0, hE⟩ := xA_inr hr
    have hcm : (qNum s.1 28 v).1 ≤ 1 := by unfold qNum; (repeat' split) <;> exact Nat.le_of_ble_eq_true rfl
    have hu9 := hF u hu hu2 hu3
    have z : (qNum s.1 28 v).1 = 1 := by omega
    have hE2 : E = eIO := hE.trans (by rw [z]; rfl)
    subst hE2
    refine ax_catch (j := 3) (w := 1) [] ⟨0, 9, 12, 21⟩ [] rfl (fun z hz => nomatch hz) (by decide) (by decide) cl_L_21 (by simp [lw_nest]) (Or.inl ⟨3, rfl, dL_swingsOf_12, rfl⟩) (by decide) (fun q hq => by simp only [List.mem_cons, List.not_mem_nil, or_false] at hq; rcases hq with rfl | rfl | rfl <;> exact ⟨Nat.ne_of_beq_eq_false rfl, fun _ => Nat.ne_of_beq_eq_false rfl⟩) ?_
    refine aw_iconst_n 1 dL_swingsOf_13 (by decide) ?_
    exact aw_iret rfl (by decide) (by decide) dL_swingsOf_14 ⟨by rw [z], hn, bp', o, hb', hG, hu9.trans hl, fun y => absurd y hc0, fun a h1 h2 h3 _ => hF a h1 h2 h3⟩
  obtain ⟨hr, -, bp', hb', hG, hF⟩ := h
  obtain ⟨hc0, hrv⟩ := xA_inl hr
  subst hrv
  have hu9 := hF u hu hu2 hu3
  refine aw_i2l dL_swingsOf_7 ?_
  refine aw_last (hu9.trans hl) (vp_in_nI (by decide) (by decide)) dL_swingsOf_8 ?_
  refine aw_goto (tgt := 15) dL_swingsOf_9 (by decide) ?_
  refine aw_iconst_n 0 dL_swingsOf_15 (by decide) ?_
  exact aw_iret rfl (by decide) (by decide) dL_swingsOf_16 ⟨by rw [hc0], hn, bp', _, hb', hG.fr (fun a h1 h2 => up_ne (by omega)) (up_ne (by omega)) (Nat.le_refl _), up_self, fun _ => updL_0, fun a h1 h2 h3 h4 => (up_ne h4).trans (hF a h1 h2 h3)⟩
abbrev ML_recordOf : MT := (RL, cL_recordOf, 4, (some .int), tableOf [(0, 9, 12, 13), (0, 9, 15, 44)], "recordOf")
set_option maxHeartbeats 4000000 in
theorem w_recordOf {l : Launch} {G : GT} {n : Nat} {H : HT} {x bp u K : Nat} {s : SG} {o : Nat → Int64} (hW : GW H x bp n s) (hSB : SB K s) (hK : K + 30500 < 16000000) (hu : u < n) (hu2 : u < x ∨ x + 112 ≤ u) (hu3 : u ≠ bp) (hl : H u = lcell o) (v : Int32) : AM l G yL_recordOf (.codeWith yL_recordOf cL_recordOf 4 (some .int) [(0, 9, 12, 13), (0, 9, 15, 44)]) 11 660 12 360 [.ref x, .int v, .ref u] H n (LW9 x bp u H n (s) ((qRec s.1 36 v).1) ((nI (qRec s.1 36 v).2))) := by
  refine aw_enterW (M := ML_recordOf) (hh := [(0, 9, 12, 13), (0, 9, 15, 44)]) rfl rfl (by decide +kernel) rfl (Nat.le_of_ble_eq_true rfl) ?_
  obtain ⟨h0, ⟨J, B, hst, hS⟩, -, -, -, ⟨T1, hk1⟩, ⟨T4, hk4⟩, -, ⟨Lc, hcd, hcl, hcx⟩, hox, hbx⟩ := id hW
  have hB := hSB.1
  show AW l G ML_recordOf 11 660 12 360 _ n 0 0 0 [(0, .ref x), (1, .int v), (2, .ref u)] [] _ n
  refine aw_aload_n dL_recordOf_0 rfl rfl ?_
  refine aw_iconst_n 0 dL_recordOf_1 (by decide) ?_
  refine aw_aload_n dL_recordOf_2 rfl rfl ?_
  refine aw_iload_n dL_recordOf_3 rfl rfl ?_
  have hA := HQ.gx hW (g_recordOf (l := l) (G := G) h0 hst hS hB v)
  refine aw_cC (as := [Value.int v]) (rest := [Value.int (nI 0), Value.ref u]) (MV.c mV_X10_recordOf) hA ml_L_55 (RC.w hW.1 rfl) dL_recordOf_4 rfl rfl (by decide) (Nat.le_of_ble_eq_true rfl) (by decide) (fun E f9 n9 hn h => ?_) (fun r f9 n9 hn h => ?_)
  · obtain ⟨hr, -, bp', hb', hG, hF⟩ := h
    obtain ⟨hc0, hE⟩ := xA_inr hr
    have hcm : (qRec s.1 36 v).1 ≤ 2 := rec_le _ _ _
    have hu9 := hF u hu hu2 hu3
    rcases (by omega : (qRec s.1 36 v).1 = 1 ∨ (qRec s.1 36 v).1 = 2) with z | z
    · have hE2 : E = eIA := hE.trans (by rw [z]; rfl)
      subst hE2
      refine ax_catch (j := 3) (w := 1) [] ⟨0, 9, 12, 13⟩ [⟨0, 9, 15, 44⟩] rfl (fun z hz => nomatch hz) (by decide) (by decide) cl_L_13 (by simp [lw_nest]) (Or.inl ⟨3, rfl, dL_recordOf_12, rfl⟩) (by decide) (fun q hq => by simp only [List.mem_cons, List.not_mem_nil, or_false] at hq; rcases hq with rfl | rfl | rfl <;> exact ⟨Nat.ne_of_beq_eq_false rfl, fun _ => Nat.ne_of_beq_eq_false rfl⟩) ?_
      refine aw_iconst_n 1 dL_recordOf_13 (by decide) ?_
      exact aw_iret rfl (by decide) (by decide) dL_recordOf_14 ⟨by rw [z], hn, bp', o, hb', hG, hu9.trans hl, fun y => absurd y hc0, fun a h1 h2 h3 _ => hF a h1 h2 h3⟩
    · have hE2 : E = eNS := hE.trans (by rw [z]; rfl)
      subst hE2
      refine ax_catch (j := 3) (w := 1) [⟨0, 9, 12, 13⟩] ⟨0, 9, 15, 44⟩ [] rfl (fun z hz => by
        simp only [tableOf, List.mem_cons, List.not_mem_nil, or_false] at hz
        rcases hz with rfl
        · exact ⟨by decide, eIA, cl_L_13, List.mem_of_getElem? (i := 2) rfl⟩) (by decide) (by decide) cl_L_44 (by simp [lw_nest]) (Or.inl ⟨3, rfl, dL_recordOf_15, rfl⟩) (by decide) (fun q hq => by simp only [List.mem_cons, List.not_mem_nil, or_false] at hq; rcases hq with rfl | rfl | rfl <;> exact ⟨Nat.ne_of_beq_eq_false rfl, fun _ => Nat.ne_of_beq_eq_false rfl⟩) ?_
      refine aw_iconst_n 2 dL_recordOf_16 (by decide) ?_
      exact aw_iret rfl (by decide) (by decide) dL_recordOf_17 ⟨by rw [z], hn, bp', o, hb', hG, hu9.trans hl, fun y => absurd y hc0, fun a h1 h2 h3 _ => hF a h1 h2 h3⟩
  obtain ⟨hr, -, bp', hb', hG, hF⟩ := h
  obtain ⟨hc0, hrv⟩ := xA_inl hr
  subst hrv
  have hu9 := hF u hu hu2 hu3
  refine aw_i2l dL_recordOf_7 ?_
  refine aw_last (hu9.trans hl) (vp_in_nI (by decide) (by decide)) dL_recordOf_8 ?_
  refine aw_goto (tgt := 18) dL_recordOf_9 (by decide) ?_
  refine aw_iconst_n 0 dL_recordOf_18 (by decide) ?_
  exact aw_iret rfl (by decide) (by decide) dL_recordOf_19 ⟨by rw [hc0], hn, bp', _, hb', hG.fr (fun a h1 h2 => up_ne (by omega)) (up_ne (by omega)) (Nat.le_refl _), up_self, fun _ => updL_0, fun a h1 h2 h3 h4 => (up_ne h4).trans (hF a h1 h2 h3)⟩
abbrev ML_holderOf : MT := (RL, cL_holderOf, 4, (some .int), tableOf [(0, 9, 12, 13), (0, 9, 15, 44)], "holderOf")
set_option maxHeartbeats 4000000 in
theorem w_holderOf {l : Launch} {G : GT} {n : Nat} {H : HT} {x bp u K : Nat} {s : SG} {o : Nat → Int64} (hW : GW H x bp n s) (hSB : SB K s) (hK : K + 30500 < 16000000) (hu : u < n) (hu2 : u < x ∨ x + 112 ≤ u) (hu3 : u ≠ bp) (hl : H u = lcell o) (v : Int32) : AM l G yL_holderOf (.codeWith yL_holderOf cL_holderOf 4 (some .int) [(0, 9, 12, 13), (0, 9, 15, 44)]) 11 660 12 360 [.ref x, .int v, .ref u] H n (LW9 x bp u H n (s) ((qRec s.1 39 v).1) ((nI (qRec s.1 39 v).2))) := by
  refine aw_enterW (M := ML_holderOf) (hh := [(0, 9, 12, 13), (0, 9, 15, 44)]) rfl rfl (by decide +kernel) rfl (Nat.le_of_ble_eq_true rfl) ?_
  obtain ⟨h0, ⟨J, B, hst, hS⟩, -, -, -, ⟨T1, hk1⟩, ⟨T4, hk4⟩, -, ⟨Lc, hcd, hcl, hcx⟩, hox, hbx⟩ := id hW
  have hB := hSB.1
  show AW l G ML_holderOf 11 660 12 360 _ n 0 0 0 [(0, .ref x), (1, .int v), (2, .ref u)] [] _ n
  refine aw_aload_n dL_holderOf_0 rfl rfl ?_
  refine aw_iconst_n 0 dL_holderOf_1 (by decide) ?_
  refine aw_aload_n dL_holderOf_2 rfl rfl ?_
  refine aw_iload_n dL_holderOf_3 rfl rfl ?_
  have hA := HQ.gx hW (g_holderOf (l := l) (G := G) h0 hst hS hB v)
  refine aw_cC (as := [Value.int v]) (rest := [Value.int (nI 0), Value.ref u]) (MV.c mV_X10_holderOf) hA ml_L_58 (RC.w hW.1 rfl) dL_holderOf_4 rfl rfl (by decide) (Nat.le_of_ble_eq_true rfl) (by decide) (fun E f9 n9 hn h => ?_) (fun r f9 n9 hn h => ?_)
  · obtain ⟨hr, -, bp', hb', hG, hF⟩ := h
    obtain ⟨hc0, hE⟩ := xA_inr hr
    have hcm : (qRec s.1 39 v).1 ≤ 2 := rec_le _ _ _
    have hu9 := hF u hu hu2 hu3
    rcases (by omega : (qRec s.1 39 v).1 = 1 ∨ (qRec s.1 39 v).1 = 2) with z | z
    · have hE2 : E = eIA := hE.trans (by rw [z]; rfl)
      subst hE2
      refine ax_catch (j := 3) (w := 1) [] ⟨0, 9, 12, 13⟩ [⟨0, 9, 15, 44⟩] rfl (fun z hz => nomatch hz) (by decide) (by decide) cl_L_13 (by simp [lw_nest]) (Or.inl ⟨3, rfl, dL_holderOf_12, rfl⟩) (by decide) (fun q hq => by simp only [List.mem_cons, List.not_mem_nil, or_false] at hq; rcases hq with rfl | rfl | rfl <;> exact ⟨Nat.ne_of_beq_eq_false rfl, fun _ => Nat.ne_of_beq_eq_false rfl⟩) ?_
      refine aw_iconst_n 1 dL_holderOf_13 (by decide) ?_
      exact aw_iret rfl (by decide) (by decide) dL_holderOf_14 ⟨by rw [z], hn, bp', o, hb', hG, hu9.trans hl, fun y => absurd y hc0, fun a h1 h2 h3 _ => hF a h1 h2 h3⟩
    · have hE2 : E = eNS := hE.trans (by rw [z]; rfl)
      subst hE2
      refine ax_catch (j := 3) (w := 1) [⟨0, 9, 12, 13⟩] ⟨0, 9, 15, 44⟩ [] rfl (fun z hz => by
        simp only [tableOf, List.mem_cons, List.not_mem_nil, or_false] at hz
        rcases hz with rfl
        · exact ⟨by decide, eIA, cl_L_13, List.mem_of_getElem? (i := 2) rfl⟩) (by decide) (by decide) cl_L_44 (by simp [lw_nest]) (Or.inl ⟨3, rfl, dL_holderOf_15, rfl⟩) (by decide) (fun q hq => by simp only [List.mem_cons, List.not_mem_nil, or_false] at hq; rcases hq with rfl | rfl | rfl <;> exact ⟨Nat.ne_of_beq_eq_false rfl, fun _ => Nat.ne_of_beq_eq_false rfl⟩) ?_
      refine aw_iconst_n 2 dL_holderOf_16 (by decide) ?_
      exact aw_iret rfl (by decide) (by decide) dL_holderOf_17 ⟨by rw [z], hn, bp', o, hb', hG, hu9.trans hl, fun y => absurd y hc0, fun a h1 h2 h3 _ => hF a h1 h2 h3⟩
  obtain ⟨hr, -, bp', hb', hG, hF⟩ := h
  obtain ⟨hc0, hrv⟩ := xA_inl hr
  subst hrv
  have hu9 := hF u hu hu2 hu3
  refine aw_i2l dL_holderOf_7 ?_
  refine aw_last (hu9.trans hl) (vp_in_nI (by decide) (by decide)) dL_holderOf_8 ?_
  refine aw_goto (tgt := 18) dL_holderOf_9 (by decide) ?_
  refine aw_iconst_n 0 dL_holderOf_18 (by decide) ?_
  exact aw_iret rfl (by decide) (by decide) dL_holderOf_19 ⟨by rw [hc0], hn, bp', _, hb', hG.fr (fun a h1 h2 => up_ne (by omega)) (up_ne (by omega)) (Nat.le_refl _), up_self, fun _ => updL_0, fun a h1 h2 h3 h4 => (up_ne h4).trans (hF a h1 h2 h3)⟩
abbrev ML_pendulumAtRank : MT := (RL, cL_pendulumAtRank, 4, (some .int), tableOf [(0, 9, 12, 44)], "pendulumAtRank")
set_option maxHeartbeats 4000000 in
theorem w_pendulumAtRank {l : Launch} {G : GT} {n : Nat} {H : HT} {x bp u K : Nat} {s : SG} {o : Nat → Int64} (hW : GW H x bp n s) (hSB : SB K s) (hK : K + 30500 < 16000000) (hu : u < n) (hu2 : u < x ∨ x + 112 ≤ u) (hu3 : u ≠ bp) (hl : H u = lcell o) (v : Int32) : AM l G yL_pendulumAtRank (.codeWith yL_pendulumAtRank cL_pendulumAtRank 4 (some .int) [(0, 9, 12, 44)]) 11 660 12 360 [.ref x, .int v, .ref u] H n (LW9 x bp u H n (s) ((qRank s.1 v).1) ((nI (qRank s.1 v).2))) := by
  refine aw_enterW (M := ML_pendulumAtRank) (hh := [(0, 9, 12, 44)]) rfl rfl (by decide +kernel) rfl (Nat.le_of_ble_eq_true rfl) ?_
  obtain ⟨h0, ⟨J, B, hst, hS⟩, -, -, -, ⟨T1, hk1⟩, ⟨T4, hk4⟩, -, ⟨Lc, hcd, hcl, hcx⟩, hox, hbx⟩ := id hW
  have hB := hSB.1
  show AW l G ML_pendulumAtRank 11 660 12 360 _ n 0 0 0 [(0, .ref x), (1, .int v), (2, .ref u)] [] _ n
  refine aw_aload_n dL_pendulumAtRank_0 rfl rfl ?_
  refine aw_iconst_n 0 dL_pendulumAtRank_1 (by decide) ?_
  refine aw_aload_n dL_pendulumAtRank_2 rfl rfl ?_
  refine aw_iload_n dL_pendulumAtRank_3 rfl rfl ?_
  have hA := HQ.gx hW (g_pendulumAtRank (l := l) (G := G) h0 hst hS hB v)
  refine aw_cC (as := [Value.int v]) (rest := [Value.int (nI 0), Value.ref u]) (MV.c mV_X10_pendulumAtRank) hA ml_L_61 (RC.w hW.1 rfl) dL_pendulumAtRank_4 rfl rfl (by decide) (Nat.le_of_ble_eq_true rfl) (by decide) (fun E f9 n9 hn h => ?_) (fun r f9 n9 hn h => ?_)
  · obtain ⟨hr, -, bp', hb', hG, hF⟩ := h
    obtain ⟨hc0, hE⟩ := xA_inr hr
    have hcm : (qRank s.1 v).1 ≤ 1 := qrank_le _ _
    have hu9 := hF u hu hu2 hu3
    have z : (qRank s.1 v).1 = 1 := by omega
    have hE2 : E = eNS := hE.trans (by rw [z]; rfl)
    subst hE2
    refine ax_catch (j := 3) (w := 1) [] ⟨0, 9, 12, 44⟩ [] rfl (fun z hz => nomatch hz) (by decide) (by decide) cl_L_44 (by simp [lw_nest]) (Or.inl ⟨3, rfl, dL_pendulumAtRank_12, rfl⟩) (by decide) (fun q hq => by simp only [List.mem_cons, List.not_mem_nil, or_false] at hq; rcases hq with rfl | rfl | rfl <;> exact ⟨Nat.ne_of_beq_eq_false rfl, fun _ => Nat.ne_of_beq_eq_false rfl⟩) ?_
    refine aw_iconst_n 1 dL_pendulumAtRank_13 (by decide) ?_
    exact aw_iret rfl (by decide) (by decide) dL_pendulumAtRank_14 ⟨by rw [z], hn, bp', o, hb', hG, hu9.trans hl, fun y => absurd y hc0, fun a h1 h2 h3 _ => hF a h1 h2 h3⟩
  obtain ⟨hr, -, bp', hb', hG, hF⟩ := h
  obtain ⟨hc0, hrv⟩ := xA_inl hr
  subst hrv
  have hu9 := hF u hu hu2 hu3
  refine aw_i2l dL_pendulumAtRank_7 ?_
  refine aw_last (hu9.trans hl) (vp_in_nI (by decide) (by decide)) dL_pendulumAtRank_8 ?_
  refine aw_goto (tgt := 15) dL_pendulumAtRank_9 (by decide) ?_
  refine aw_iconst_n 0 dL_pendulumAtRank_15 (by decide) ?_
  exact aw_iret rfl (by decide) (by decide) dL_pendulumAtRank_16 ⟨by rw [hc0], hn, bp', _, hb', hG.fr (fun a h1 h2 => up_ne (by omega)) (up_ne (by omega)) (Nat.le_refl _), up_self, fun _ => updL_0, fun a h1 h2 h3 h4 => (up_ne h4).trans (hF a h1 h2 h3)⟩
abbrev ML_swingsToRest : MT := (RL, cL_swingsToRest, 4, (some .int), tableOf [(0, 9, 12, 21)], "swingsToRest")
set_option maxHeartbeats 4000000 in
theorem w_swingsToRest {l : Launch} {G : GT} {n : Nat} {H : HT} {x bp u K : Nat} {s : SG} {o : Nat → Int64} (hW : GW H x bp n s) (hSB : SB K s) (hK : K + 30500 < 16000000) (hu : u < n) (hu2 : u < x ∨ x + 112 ≤ u) (hu3 : u ≠ bp) (hl : H u = lcell o) (v : Int32) : AM l G yL_swingsToRest (.codeWith yL_swingsToRest cL_swingsToRest 4 (some .int) [(0, 9, 12, 21)]) 11 660 12 360 [.ref x, .int v, .ref u] H n (LW9 x bp u H n (s) ((qLeft s.1 v).1) ((nI (qLeft s.1 v).2))) := by
  refine aw_enterW (M := ML_swingsToRest) (hh := [(0, 9, 12, 21)]) rfl rfl (by decide +kernel) rfl (Nat.le_of_ble_eq_true rfl) ?_
  obtain ⟨h0, ⟨J, B, hst, hS⟩, -, -, -, ⟨T1, hk1⟩, ⟨T4, hk4⟩, -, ⟨Lc, hcd, hcl, hcx⟩, hox, hbx⟩ := id hW
  have hB := hSB.1
  show AW l G ML_swingsToRest 11 660 12 360 _ n 0 0 0 [(0, .ref x), (1, .int v), (2, .ref u)] [] _ n
  refine aw_aload_n dL_swingsToRest_0 rfl rfl ?_
  refine aw_iconst_n 0 dL_swingsToRest_1 (by decide) ?_
  refine aw_aload_n dL_swingsToRest_2 rfl rfl ?_
  refine aw_iload_n dL_swingsToRest_3 rfl rfl ?_
  have hA := HQ.gx hW (g_swingsToRest (l := l) (G := G) h0 hst hS hB hk1 v)
  refine aw_cC (as := [Value.int v]) (rest := [Value.int (nI 0), Value.ref u]) (MV.c mV_X10_swingsToRest) hA ml_L_64 (RC.w hW.1 rfl) dL_swingsToRest_4 rfl rfl (by decide) (Nat.le_of_ble_eq_true rfl) (by decide) (fun E f9 n9 hn h => ?_) (fun r f9 n9 hn h => ?_)
  · obtain ⟨hr, -, bp', hb', hG, hF⟩ := h
    obtain ⟨hc0, hE⟩ := xA_inr hr
    have hcm : (qLeft s.1 v).1 ≤ 1 := by unfold qLeft; (repeat' split) <;> exact Nat.le_of_ble_eq_true rfl
    have hu9 := hF u hu hu2 hu3
    have z : (qLeft s.1 v).1 = 1 := by omega
    have hE2 : E = eIO := hE.trans (by rw [z]; rfl)
    subst hE2
    refine ax_catch (j := 3) (w := 1) [] ⟨0, 9, 12, 21⟩ [] rfl (fun z hz => nomatch hz) (by decide) (by decide) cl_L_21 (by simp [lw_nest]) (Or.inl ⟨3, rfl, dL_swingsToRest_12, rfl⟩) (by decide) (fun q hq => by simp only [List.mem_cons, List.not_mem_nil, or_false] at hq; rcases hq with rfl | rfl | rfl <;> exact ⟨Nat.ne_of_beq_eq_false rfl, fun _ => Nat.ne_of_beq_eq_false rfl⟩) ?_
    refine aw_iconst_n 1 dL_swingsToRest_13 (by decide) ?_
    exact aw_iret rfl (by decide) (by decide) dL_swingsToRest_14 ⟨by rw [z], hn, bp', o, hb', hG, hu9.trans hl, fun y => absurd y hc0, fun a h1 h2 h3 _ => hF a h1 h2 h3⟩
  obtain ⟨hr, -, bp', hb', hG, hF⟩ := h
  obtain ⟨hc0, hrv⟩ := xA_inl hr
  subst hrv
  have hu9 := hF u hu hu2 hu3
  refine aw_i2l dL_swingsToRest_7 ?_
  refine aw_last (hu9.trans hl) (vp_in_nI (by decide) (by decide)) dL_swingsToRest_8 ?_
  refine aw_goto (tgt := 15) dL_swingsToRest_9 (by decide) ?_
  refine aw_iconst_n 0 dL_swingsToRest_15 (by decide) ?_
  exact aw_iret rfl (by decide) (by decide) dL_swingsToRest_16 ⟨by rw [hc0], hn, bp', _, hb', hG.fr (fun a h1 h2 => up_ne (by omega)) (up_ne (by omega)) (Nat.le_refl _), up_self, fun _ => updL_0, fun a h1 h2 h3 h4 => (up_ne h4).trans (hF a h1 h2 h3)⟩
abbrev ML_swingsToRestByTable : MT := (RL, cL_swingsToRestByTable, 4, (some .int), tableOf [(0, 9, 12, 21)], "swingsToRestByTable")
set_option maxHeartbeats 4000000 in
theorem w_swingsToRestByTable {l : Launch} {G : GT} {n : Nat} {H : HT} {x bp u K : Nat} {s : SG} {o : Nat → Int64} (hW : GW H x bp n s) (hSB : SB K s) (hK : K + 30500 < 16000000) (hu : u < n) (hu2 : u < x ∨ x + 112 ≤ u) (hu3 : u ≠ bp) (hl : H u = lcell o) (v : Int32) : AM l G yL_swingsToRestByTable (.codeWith yL_swingsToRestByTable cL_swingsToRestByTable 4 (some .int) [(0, 9, 12, 21)]) 11 660 12 360 [.ref x, .int v, .ref u] H n (LW9 x bp u H n (s) ((qLeft s.1 v).1) ((nI (qLeft s.1 v).2))) := by
  refine aw_enterW (M := ML_swingsToRestByTable) (hh := [(0, 9, 12, 21)]) rfl rfl (by decide +kernel) rfl (Nat.le_of_ble_eq_true rfl) ?_
  obtain ⟨h0, ⟨J, B, hst, hS⟩, -, -, -, ⟨T1, hk1⟩, ⟨T4, hk4⟩, -, ⟨Lc, hcd, hcl, hcx⟩, hox, hbx⟩ := id hW
  have hB := hSB.1
  show AW l G ML_swingsToRestByTable 11 660 12 360 _ n 0 0 0 [(0, .ref x), (1, .int v), (2, .ref u)] [] _ n
  refine aw_aload_n dL_swingsToRestByTable_0 rfl rfl ?_
  refine aw_iconst_n 0 dL_swingsToRestByTable_1 (by decide) ?_
  refine aw_aload_n dL_swingsToRestByTable_2 rfl rfl ?_
  refine aw_iload_n dL_swingsToRestByTable_3 rfl rfl ?_
  have hA := TQ.gx1 hW (g_swingsToRestByTable (l := l) (G := G) h0 hst hS hB hk1 v)
  refine aw_cC (as := [Value.int v]) (rest := [Value.int (nI 0), Value.ref u]) (MV.c mV_X10_swingsToRestByTable) hA ml_L_67 (RC.w hW.1 rfl) dL_swingsToRestByTable_4 rfl rfl (by decide) (Nat.le_of_ble_eq_true rfl) (by decide) (fun E f9 n9 hn h => ?_) (fun r f9 n9 hn h => ?_)
  · obtain ⟨hr, -, bp', hb', hG, hF⟩ := h
    obtain ⟨hc0, hE⟩ := xA_inr hr
    have hcm : (qLeft s.1 v).1 ≤ 1 := by unfold qLeft; (repeat' split) <;> exact Nat.le_of_ble_eq_true rfl
    have hu9 := hF u hu hu2 hu3
    have z : (qLeft s.1 v).1 = 1 := by omega
    have hE2 : E = eIO := hE.trans (by rw [z]; rfl)
    subst hE2
    refine ax_catch (j := 3) (w := 1) [] ⟨0, 9, 12, 21⟩ [] rfl (fun z hz => nomatch hz) (by decide) (by decide) cl_L_21 (by simp [lw_nest]) (Or.inl ⟨3, rfl, dL_swingsToRestByTable_12, rfl⟩) (by decide) (fun q hq => by simp only [List.mem_cons, List.not_mem_nil, or_false] at hq; rcases hq with rfl | rfl | rfl <;> exact ⟨Nat.ne_of_beq_eq_false rfl, fun _ => Nat.ne_of_beq_eq_false rfl⟩) ?_
    refine aw_iconst_n 1 dL_swingsToRestByTable_13 (by decide) ?_
    exact aw_iret rfl (by decide) (by decide) dL_swingsToRestByTable_14 ⟨by rw [z], hn, bp', o, hb', hG, hu9.trans hl, fun y => absurd y hc0, fun a h1 h2 h3 _ => hF a h1 h2 h3⟩
  obtain ⟨hr, -, bp', hb', hG, hF⟩ := h
  obtain ⟨hc0, hrv⟩ := xA_inl hr
  subst hrv
  have hu9 := hF u hu hu2 hu3
  refine aw_i2l dL_swingsToRestByTable_7 ?_
  refine aw_last (hu9.trans hl) (vp_in_nI (by decide) (by decide)) dL_swingsToRestByTable_8 ?_
  refine aw_goto (tgt := 15) dL_swingsToRestByTable_9 (by decide) ?_
  refine aw_iconst_n 0 dL_swingsToRestByTable_15 (by decide) ?_
  exact aw_iret rfl (by decide) (by decide) dL_swingsToRestByTable_16 ⟨by rw [hc0], hn, bp', _, hb', hG.fr (fun a h1 h2 => up_ne (by omega)) (up_ne (by omega)) (Nat.le_refl _), up_self, fun _ => updL_0, fun a h1 h2 h3 h4 => (up_ne h4).trans (hF a h1 h2 h3)⟩
abbrev ML_restTick : MT := (RL, cL_restTick, 4, (some .int), tableOf [(0, 9, 12, 21), (0, 9, 15, 44)], "restTick")
set_option maxHeartbeats 4000000 in
theorem w_restTick {l : Launch} {G : GT} {n : Nat} {H : HT} {x bp u K : Nat} {s : SG} {o : Nat → Int64} (hW : GW H x bp n s) (hSB : SB K s) (hK : K + 30500 < 16000000) (hu : u < n) (hu2 : u < x ∨ x + 112 ≤ u) (hu3 : u ≠ bp) (hl : H u = lcell o) (v : Int32) : AM l G yL_restTick (.codeWith yL_restTick cL_restTick 4 (some .int) [(0, 9, 12, 21), (0, 9, 15, 44)]) 11 660 12 360 [.ref x, .int v, .ref u] H n (LW9 x bp u H n (s) ((qRest s.1 v).1) ((nI (qRest s.1 v).2))) := by
  refine aw_enterW (M := ML_restTick) (hh := [(0, 9, 12, 21), (0, 9, 15, 44)]) rfl rfl (by decide +kernel) rfl (Nat.le_of_ble_eq_true rfl) ?_
  obtain ⟨h0, ⟨J, B, hst, hS⟩, -, -, -, ⟨T1, hk1⟩, ⟨T4, hk4⟩, -, ⟨Lc, hcd, hcl, hcx⟩, hox, hbx⟩ := id hW
  have hB := hSB.1
  show AW l G ML_restTick 11 660 12 360 _ n 0 0 0 [(0, .ref x), (1, .int v), (2, .ref u)] [] _ n
  refine aw_aload_n dL_restTick_0 rfl rfl ?_
  refine aw_iconst_n 0 dL_restTick_1 (by decide) ?_
  refine aw_aload_n dL_restTick_2 rfl rfl ?_
  refine aw_iload_n dL_restTick_3 rfl rfl ?_
  have hA := HQ.gx hW (g_restTick (l := l) (G := G) h0 hst hS hB hk1 v)
  refine aw_cC (as := [Value.int v]) (rest := [Value.int (nI 0), Value.ref u]) (MV.c mV_X10_restTick) hA ml_L_70 (RC.w hW.1 rfl) dL_restTick_4 rfl rfl (by decide) (Nat.le_of_ble_eq_true rfl) (by decide) (fun E f9 n9 hn h => ?_) (fun r f9 n9 hn h => ?_)
  · obtain ⟨hr, -, bp', hb', hG, hF⟩ := h
    obtain ⟨hc0, hE⟩ := xA_inr hr
    have hcm : (qRest s.1 v).1 ≤ 2 := by unfold qRest; (repeat' split) <;> exact Nat.le_of_ble_eq_true rfl
    have hu9 := hF u hu hu2 hu3
    rcases (by omega : (qRest s.1 v).1 = 1 ∨ (qRest s.1 v).1 = 2) with z | z
    · have hE2 : E = eIO := hE.trans (by rw [z]; rfl)
      subst hE2
      refine ax_catch (j := 3) (w := 1) [] ⟨0, 9, 12, 21⟩ [⟨0, 9, 15, 44⟩] rfl (fun z hz => nomatch hz) (by decide) (by decide) cl_L_21 (by simp [lw_nest]) (Or.inl ⟨3, rfl, dL_restTick_12, rfl⟩) (by decide) (fun q hq => by simp only [List.mem_cons, List.not_mem_nil, or_false] at hq; rcases hq with rfl | rfl | rfl <;> exact ⟨Nat.ne_of_beq_eq_false rfl, fun _ => Nat.ne_of_beq_eq_false rfl⟩) ?_
      refine aw_iconst_n 1 dL_restTick_13 (by decide) ?_
      exact aw_iret rfl (by decide) (by decide) dL_restTick_14 ⟨by rw [z], hn, bp', o, hb', hG, hu9.trans hl, fun y => absurd y hc0, fun a h1 h2 h3 _ => hF a h1 h2 h3⟩
    · have hE2 : E = eNS := hE.trans (by rw [z]; rfl)
      subst hE2
      refine ax_catch (j := 3) (w := 1) [⟨0, 9, 12, 21⟩] ⟨0, 9, 15, 44⟩ [] rfl (fun z hz => by
        simp only [tableOf, List.mem_cons, List.not_mem_nil, or_false] at hz
        rcases hz with rfl
        · exact ⟨by decide, eIO, cl_L_21, List.mem_of_getElem? (i := 10) rfl⟩) (by decide) (by decide) cl_L_44 (by simp [lw_nest]) (Or.inl ⟨3, rfl, dL_restTick_15, rfl⟩) (by decide) (fun q hq => by simp only [List.mem_cons, List.not_mem_nil, or_false] at hq; rcases hq with rfl | rfl | rfl <;> exact ⟨Nat.ne_of_beq_eq_false rfl, fun _ => Nat.ne_of_beq_eq_false rfl⟩) ?_
      refine aw_iconst_n 2 dL_restTick_16 (by decide) ?_
      exact aw_iret rfl (by decide) (by decide) dL_restTick_17 ⟨by rw [z], hn, bp', o, hb', hG, hu9.trans hl, fun y => absurd y hc0, fun a h1 h2 h3 _ => hF a h1 h2 h3⟩
  obtain ⟨hr, -, bp', hb', hG, hF⟩ := h
  obtain ⟨hc0, hrv⟩ := xA_inl hr
  subst hrv
  have hu9 := hF u hu hu2 hu3
  refine aw_i2l dL_restTick_7 ?_
  refine aw_last (hu9.trans hl) (vp_in_nI (by decide) (by decide)) dL_restTick_8 ?_
  refine aw_goto (tgt := 18) dL_restTick_9 (by decide) ?_
  refine aw_iconst_n 0 dL_restTick_18 (by decide) ?_
  exact aw_iret rfl (by decide) (by decide) dL_restTick_19 ⟨by rw [hc0], hn, bp', _, hb', hG.fr (fun a h1 h2 => up_ne (by omega)) (up_ne (by omega)) (Nat.le_refl _), up_self, fun _ => updL_0, fun a h1 h2 h3 h4 => (up_ne h4).trans (hF a h1 h2 h3)⟩
abbrev ML_amplitudeAfter : MT := (RL, cL_amplitudeAfter, 5, (some .int), tableOf [(0, 10, 13, 21), (0, 10, 17, 13)], "amplitudeAfter")
set_option maxHeartbeats 4000000 in
theorem w_amplitudeAfter {l : Launch} {G : GT} {n : Nat} {H : HT} {x bp u K : Nat} {s : SG} {o : Nat → Int64} (hW : GW H x bp n s) (hSB : SB K s) (hK : K + 30500 < 16000000) (hu : u < n) (hu2 : u < x ∨ x + 112 ≤ u) (hu3 : u ≠ bp) (hl : H u = lcell o) (v t : Int32) : AM l G yL_amplitudeAfter (.codeWith yL_amplitudeAfter cL_amplitudeAfter 5 (some .int) [(0, 10, 13, 21), (0, 10, 17, 13)]) 11 660 12 360 [.ref x, .int v, .int t, .ref u] H n (LW9 x bp u H n (s) ((qAfter s.1 v t).1) ((nI (qAfter s.1 v t).2))) := by
  refine aw_enterW (M := ML_amplitudeAfter) (hh := [(0, 10, 13, 21), (0, 10, 17, 13)]) rfl rfl (by decide +kernel) rfl (Nat.le_of_ble_eq_true rfl) ?_
  obtain ⟨h0, ⟨J, B, hst, hS⟩, -, -, -, ⟨T1, hk1⟩, ⟨T4, hk4⟩, -, ⟨Lc, hcd, hcl, hcx⟩, hox, hbx⟩ := id hW
  have hB := hSB.1
  show AW l G ML_amplitudeAfter 11 660 12 360 _ n 0 0 0 [(0, .ref x), (1, .int v), (2, .int t), (3, .ref u)] [] _ n
  refine aw_aload_n dL_amplitudeAfter_0 rfl rfl ?_
  refine aw_iconst_n 0 dL_amplitudeAfter_1 (by decide) ?_
  refine aw_aload_n dL_amplitudeAfter_2 rfl rfl ?_
  refine aw_iload_n dL_amplitudeAfter_3 rfl rfl ?_
  refine aw_iload_n dL_amplitudeAfter_4 rfl rfl ?_
  have hA := HQ.gx hW (g_amplitudeAfter (l := l) (G := G) h0 hst hS hB hk1 v t)
  refine aw_cC (as := [Value.int v, Value.int t]) (rest := [Value.int (nI 0), Value.ref u]) (MV.c mV_X10_amplitudeAfter) hA ml_L_73 (RC.w hW.1 rfl) dL_amplitudeAfter_5 rfl rfl (by decide) (Nat.le_of_ble_eq_true rfl) (by decide) (fun E f9 n9 hn h => ?_) (fun r f9 n9 hn h => ?_)
  · obtain ⟨hr, -, bp', hb', hG, hF⟩ := h
    obtain ⟨hc0, hE⟩ := xA_inr hr
    have hcm : (qAfter s.1 v t).1 ≤ 2 := by unfold qAfter; (repeat' split) <;> exact Nat.le_of_ble_eq_true rfl
    have hu9 := hF u hu hu2 hu3
    rcases (by omega : (qAfter s.1 v t).1 = 1 ∨ (qAfter s.1 v t).1 = 2) with z | z
    · have hE2 : E = eIO := hE.trans (by rw [z]; rfl)
      subst hE2
      refine ax_catch (j := 4) (w := 2) [] ⟨0, 10, 13, 21⟩ [⟨0, 10, 17, 13⟩] rfl (fun z hz => nomatch hz) (by decide) (by decide) cl_L_21 (by simp [lw_nest]) (Or.inr ⟨dL_amplitudeAfter_13, rfl⟩) (by decide) (fun q hq => by simp only [List.mem_cons, List.not_mem_nil, or_false] at hq; rcases hq with rfl | rfl | rfl | rfl <;> exact ⟨Nat.ne_of_beq_eq_false rfl, fun _ => Nat.ne_of_beq_eq_false rfl⟩) ?_
      refine aw_iconst_n 1 dL_amplitudeAfter_15 (by decide) ?_
      exact aw_iret rfl (by decide) (by decide) dL_amplitudeAfter_16 ⟨by rw [z], hn, bp', o, hb', hG, hu9.trans hl, fun y => absurd y hc0, fun a h1 h2 h3 _ => hF a h1 h2 h3⟩
    · have hE2 : E = eIA := hE.trans (by rw [z]; rfl)
      subst hE2
      refine ax_catch (j := 4) (w := 2) [⟨0, 10, 13, 21⟩] ⟨0, 10, 17, 13⟩ [] rfl (fun z hz => by
        simp only [tableOf, List.mem_cons, List.not_mem_nil, or_false] at hz
        rcases hz with rfl
        · exact ⟨by decide, eIO, cl_L_21, List.mem_of_getElem? (i := 8) rfl⟩) (by decide) (by decide) cl_L_13 (by simp [lw_nest]) (Or.inr ⟨dL_amplitudeAfter_17, rfl⟩) (by decide) (fun q hq => by simp only [List.mem_cons, List.not_mem_nil, or_false] at hq; rcases hq with rfl | rfl | rfl | rfl <;> exact ⟨Nat.ne_of_beq_eq_false rfl, fun _ => Nat.ne_of_beq_eq_false rfl⟩) ?_
      refine aw_iconst_n 2 dL_amplitudeAfter_19 (by decide) ?_
      exact aw_iret rfl (by decide) (by decide) dL_amplitudeAfter_20 ⟨by rw [z], hn, bp', o, hb', hG, hu9.trans hl, fun y => absurd y hc0, fun a h1 h2 h3 _ => hF a h1 h2 h3⟩
  obtain ⟨hr, -, bp', hb', hG, hF⟩ := h
  obtain ⟨hc0, hrv⟩ := xA_inl hr
  subst hrv
  have hu9 := hF u hu hu2 hu3
  refine aw_i2l dL_amplitudeAfter_8 ?_
  refine aw_last (hu9.trans hl) (vp_in_nI (by decide) (by decide)) dL_amplitudeAfter_9 ?_
  refine aw_goto (tgt := 21) dL_amplitudeAfter_10 (by decide) ?_
  refine aw_iconst_n 0 dL_amplitudeAfter_21 (by decide) ?_
  exact aw_iret rfl (by decide) (by decide) dL_amplitudeAfter_22 ⟨by rw [hc0], hn, bp', _, hb', hG.fr (fun a h1 h2 => up_ne (by omega)) (up_ne (by omega)) (Nat.le_refl _), up_self, fun _ => updL_0, fun a h1 h2 h3 h4 => (up_ne h4).trans (hF a h1 h2 h3)⟩
abbrev ML_meeting : MT := (RL, cL_meeting, 5, (some .int), tableOf [(0, 10, 13, 21), (0, 10, 17, 15), (0, 10, 21, 44)], "meeting")
set_option maxHeartbeats 4000000 in
theorem w_meeting {l : Launch} {G : GT} {n : Nat} {H : HT} {x bp u K : Nat} {s : SG} {o : Nat → Int64} (hW : GW H x bp n s) (hSB : SB K s) (hK : K + 30500 < 16000000) (hu : u < n) (hu2 : u < x ∨ x + 112 ≤ u) (hu3 : u ≠ bp) (hl : H u = lcell o) (v t : Int32) : AM l G yL_meeting (.codeWith yL_meeting cL_meeting 5 (some .int) [(0, 10, 13, 21), (0, 10, 17, 15), (0, 10, 21, 44)]) 11 660 12 360 [.ref x, .int v, .int t, .ref u] H n (LW9 x bp u H n (s) ((qMeet s.1 v t).1) ((nI (qMeet s.1 v t).2))) := by
  refine aw_enterW (M := ML_meeting) (hh := [(0, 10, 13, 21), (0, 10, 17, 15), (0, 10, 21, 44)]) rfl rfl (by decide +kernel) rfl (Nat.le_of_ble_eq_true rfl) ?_
  obtain ⟨h0, ⟨J, B, hst, hS⟩, -, -, -, ⟨T1, hk1⟩, ⟨T4, hk4⟩, -, ⟨Lc, hcd, hcl, hcx⟩, hox, hbx⟩ := id hW
  have hB := hSB.1
  show AW l G ML_meeting 11 660 12 360 _ n 0 0 0 [(0, .ref x), (1, .int v), (2, .int t), (3, .ref u)] [] _ n
  refine aw_aload_n dL_meeting_0 rfl rfl ?_
  refine aw_iconst_n 0 dL_meeting_1 (by decide) ?_
  refine aw_aload_n dL_meeting_2 rfl rfl ?_
  refine aw_iload_n dL_meeting_3 rfl rfl ?_
  refine aw_iload_n dL_meeting_4 rfl rfl ?_
  have hA := HQ.gx hW (g_meeting (l := l) (G := G) h0 hst hS hB v t)
  refine aw_cC (as := [Value.int v, Value.int t]) (rest := [Value.int (nI 0), Value.ref u]) (MV.c mV_X10_meeting) hA ml_L_76 (RC.w hW.1 rfl) dL_meeting_5 rfl rfl (by decide) (Nat.le_of_ble_eq_true rfl) (by decide) (fun E f9 n9 hn h => ?_) (fun r f9 n9 hn h => ?_)
  · obtain ⟨hr, -, bp', hb', hG, hF⟩ := h
    obtain ⟨hc0, hE⟩ := xA_inr hr
    have hcm : (qMeet s.1 v t).1 ≤ 3 := by unfold qMeet; (repeat' split) <;> exact Nat.le_of_ble_eq_true rfl
    have hu9 := hF u hu hu2 hu3
    rcases (by omega : (qMeet s.1 v t).1 = 1 ∨ (qMeet s.1 v t).1 = 2 ∨ (qMeet s.1 v t).1 = 3) with z | z | z
    · have hE2 : E = eIO := hE.trans (by rw [z]; rfl)
      subst hE2
      refine ax_catch (j := 4) (w := 2) [] ⟨0, 10, 13, 21⟩ [⟨0, 10, 17, 15⟩, ⟨0, 10, 21, 44⟩] rfl (fun z hz => nomatch hz) (by decide) (by decide) cl_L_21 (by simp [lw_nest]) (Or.inr ⟨dL_meeting_13, rfl⟩) (by decide) (fun q hq => by simp only [List.mem_cons, List.not_mem_nil, or_false] at hq; rcases hq with rfl | rfl | rfl | rfl <;> exact ⟨Nat.ne_of_beq_eq_false rfl, fun _ => Nat.ne_of_beq_eq_false rfl⟩) ?_
      refine aw_iconst_n 1 dL_meeting_15 (by decide) ?_
      exact aw_iret rfl (by decide) (by decide) dL_meeting_16 ⟨by rw [z], hn, bp', o, hb', hG, hu9.trans hl, fun y => absurd y hc0, fun a h1 h2 h3 _ => hF a h1 h2 h3⟩
    · have hE2 : E = eIS := hE.trans (by rw [z]; rfl)
      subst hE2
      refine ax_catch (j := 4) (w := 2) [⟨0, 10, 13, 21⟩] ⟨0, 10, 17, 15⟩ [⟨0, 10, 21, 44⟩] rfl (fun z hz => by
        simp only [tableOf, List.mem_cons, List.not_mem_nil, or_false] at hz
        rcases hz with rfl
        · exact ⟨by decide, eIO, cl_L_21, List.mem_of_getElem? (i := 9) rfl⟩) (by decide) (by decide) cl_L_15 (by simp [lw_nest]) (Or.inr ⟨dL_meeting_17, rfl⟩) (by decide) (fun q hq => by simp only [List.mem_cons, List.not_mem_nil, or_false] at hq; rcases hq with rfl | rfl | rfl | rfl <;> exact ⟨Nat.ne_of_beq_eq_false rfl, fun _ => Nat.ne_of_beq_eq_false rfl⟩) ?_
      refine aw_iconst_n 2 dL_meeting_19 (by decide) ?_
      exact aw_iret rfl (by decide) (by decide) dL_meeting_20 ⟨by rw [z], hn, bp', o, hb', hG, hu9.trans hl, fun y => absurd y hc0, fun a h1 h2 h3 _ => hF a h1 h2 h3⟩
    · have hE2 : E = eNS := hE.trans (by rw [z]; rfl)
      subst hE2
      refine ax_catch (j := 4) (w := 2) [⟨0, 10, 13, 21⟩, ⟨0, 10, 17, 15⟩] ⟨0, 10, 21, 44⟩ [] rfl (fun z hz => by
        simp only [tableOf, List.mem_cons, List.not_mem_nil, or_false] at hz
        rcases hz with rfl | rfl
        · exact ⟨by decide, eIO, cl_L_21, List.mem_of_getElem? (i := 10) rfl⟩
        · exact ⟨by decide, eIS, cl_L_15, List.mem_of_getElem? (i := 6) rfl⟩) (by decide) (by decide) cl_L_44 (by simp [lw_nest]) (Or.inr ⟨dL_meeting_21, rfl⟩) (by decide) (fun q hq => by simp only [List.mem_cons, List.not_mem_nil, or_false] at hq; rcases hq with rfl | rfl | rfl | rfl <;> exact ⟨Nat.ne_of_beq_eq_false rfl, fun _ => Nat.ne_of_beq_eq_false rfl⟩) ?_
      refine aw_iconst_n 3 dL_meeting_23 (by decide) ?_
      exact aw_iret rfl (by decide) (by decide) dL_meeting_24 ⟨by rw [z], hn, bp', o, hb', hG, hu9.trans hl, fun y => absurd y hc0, fun a h1 h2 h3 _ => hF a h1 h2 h3⟩
  obtain ⟨hr, -, bp', hb', hG, hF⟩ := h
  obtain ⟨hc0, hrv⟩ := xA_inl hr
  subst hrv
  have hu9 := hF u hu hu2 hu3
  refine aw_i2l dL_meeting_8 ?_
  refine aw_last (hu9.trans hl) (vp_in_nI (by decide) (by decide)) dL_meeting_9 ?_
  refine aw_goto (tgt := 25) dL_meeting_10 (by decide) ?_
  refine aw_iconst_n 0 dL_meeting_25 (by decide) ?_
  exact aw_iret rfl (by decide) (by decide) dL_meeting_26 ⟨by rw [hc0], hn, bp', _, hb', hG.fr (fun a h1 h2 => up_ne (by omega)) (up_ne (by omega)) (Nat.le_refl _), up_self, fun _ => updL_0, fun a h1 h2 h3 h4 => (up_ne h4).trans (hF a h1 h2 h3)⟩
abbrev ML_meetingByDivisors : MT := (RL, cL_meetingByDivisors, 5, (some .int), tableOf [(0, 10, 13, 21), (0, 10, 17, 15), (0, 10, 21, 44)], "meetingByDivisors")
set_option maxHeartbeats 4000000 in
theorem w_meetingByDivisors {l : Launch} {G : GT} {n : Nat} {H : HT} {x bp u K : Nat} {s : SG} {o : Nat → Int64} (hW : GW H x bp n s) (hSB : SB K s) (hK : K + 30500 < 16000000) (hu : u < n) (hu2 : u < x ∨ x + 112 ≤ u) (hu3 : u ≠ bp) (hl : H u = lcell o) (v t : Int32) : AM l G yL_meetingByDivisors (.codeWith yL_meetingByDivisors cL_meetingByDivisors 5 (some .int) [(0, 10, 13, 21), (0, 10, 17, 15), (0, 10, 21, 44)]) 11 660 12 360 [.ref x, .int v, .int t, .ref u] H n (LW9 x bp u H n (s) ((qMeet s.1 v t).1) ((nI (qMeet s.1 v t).2))) := by
  refine aw_enterW (M := ML_meetingByDivisors) (hh := [(0, 10, 13, 21), (0, 10, 17, 15), (0, 10, 21, 44)]) rfl rfl (by decide +kernel) rfl (Nat.le_of_ble_eq_true rfl) ?_
  obtain ⟨h0, ⟨J, B, hst, hS⟩, -, -, -, ⟨T1, hk1⟩, ⟨T4, hk4⟩, -, ⟨Lc, hcd, hcl, hcx⟩, hox, hbx⟩ := id hW
  have hB := hSB.1
  show AW l G ML_meetingByDivisors 11 660 12 360 _ n 0 0 0 [(0, .ref x), (1, .int v), (2, .int t), (3, .ref u)] [] _ n
  refine aw_aload_n dL_meetingByDivisors_0 rfl rfl ?_
  refine aw_iconst_n 0 dL_meetingByDivisors_1 (by decide) ?_
  refine aw_aload_n dL_meetingByDivisors_2 rfl rfl ?_
  refine aw_iload_n dL_meetingByDivisors_3 rfl rfl ?_
  refine aw_iload_n dL_meetingByDivisors_4 rfl rfl ?_
  have hA := HQ.gx hW (g_meetingByDivisors (l := l) (G := G) h0 hst hS hB v t)
  refine aw_cC (as := [Value.int v, Value.int t]) (rest := [Value.int (nI 0), Value.ref u]) (MV.c mV_X10_meetingByDivisors) hA ml_L_79 (RC.w hW.1 rfl) dL_meetingByDivisors_5 rfl rfl (by decide) (Nat.le_of_ble_eq_true rfl) (by decide) (fun E f9 n9 hn h => ?_) (fun r f9 n9 hn h => ?_)
  · obtain ⟨hr, -, bp', hb', hG, hF⟩ := h
    obtain ⟨hc0, hE⟩ := xA_inr hr
    have hcm : (qMeet s.1 v t).1 ≤ 3 := by unfold qMeet; (repeat' split) <;> exact Nat.le_of_ble_eq_true rfl
    have hu9 := hF u hu hu2 hu3
    rcases (by omega : (qMeet s.1 v t).1 = 1 ∨ (qMeet s.1 v t).1 = 2 ∨ (qMeet s.1 v t).1 = 3) with z | z | z
    · have hE2 : E = eIO := hE.trans (by rw [z]; rfl)
      subst hE2
      refine ax_catch (j := 4) (w := 2) [] ⟨0, 10, 13, 21⟩ [⟨0, 10, 17, 15⟩, ⟨0, 10, 21, 44⟩] rfl (fun z hz => nomatch hz) (by decide) (by decide) cl_L_21 (by simp [lw_nest]) (Or.inr ⟨dL_meetingByDivisors_13, rfl⟩) (by decide) (fun q hq => by simp only [List.mem_cons, List.not_mem_nil, or_false] at hq; rcases hq with rfl | rfl | rfl | rfl <;> exact ⟨Nat.ne_of_beq_eq_false rfl, fun _ => Nat.ne_of_beq_eq_false rfl⟩) ?_
      refine aw_iconst_n 1 dL_meetingByDivisors_15 (by decide) ?_
      exact aw_iret rfl (by decide) (by decide) dL_meetingByDivisors_16 ⟨by rw [z], hn, bp', o, hb', hG, hu9.trans hl, fun y => absurd y hc0, fun a h1 h2 h3 _ => hF a h1 h2 h3⟩
    · have hE2 : E = eIS := hE.trans (by rw [z]; rfl)
      subst hE2
      refine ax_catch (j := 4) (w := 2) [⟨0, 10, 13, 21⟩] ⟨0, 10, 17, 15⟩ [⟨0, 10, 21, 44⟩] rfl (fun z hz => by
        simp only [tableOf, List.mem_cons, List.not_mem_nil, or_false] at hz
        rcases hz with rfl
        · exact ⟨by decide, eIO, cl_L_21, List.mem_of_getElem? (i := 9) rfl⟩) (by decide) (by decide) cl_L_15 (by simp [lw_nest]) (Or.inr ⟨dL_meetingByDivisors_17, rfl⟩) (by decide) (fun q hq => by simp only [List.mem_cons, List.not_mem_nil, or_false] at hq; rcases hq with rfl | rfl | rfl | rfl <;> exact ⟨Nat.ne_of_beq_eq_false rfl, fun _ => Nat.ne_of_beq_eq_false rfl⟩) ?_
      refine aw_iconst_n 2 dL_meetingByDivisors_19 (by decide) ?_
      exact aw_iret rfl (by decide) (by decide) dL_meetingByDivisors_20 ⟨by rw [z], hn, bp', o, hb', hG, hu9.trans hl, fun y => absurd y hc0, fun a h1 h2 h3 _ => hF a h1 h2 h3⟩
    · have hE2 : E = eNS := hE.trans (by rw [z]; rfl)
      subst hE2
      refine ax_catch (j := 4) (w := 2) [⟨0, 10, 13, 21⟩, ⟨0, 10, 17, 15⟩] ⟨0, 10, 21, 44⟩ [] rfl (fun z hz => by
        simp only [tableOf, List.mem_cons, List.not_mem_nil, or_false] at hz
        rcases hz with rfl | rfl
        · exact ⟨by decide, eIO, cl_L_21, List.mem_of_getElem? (i := 10) rfl⟩
        · exact ⟨by decide, eIS, cl_L_15, List.mem_of_getElem? (i := 6) rfl⟩) (by decide) (by decide) cl_L_44 (by simp [lw_nest]) (Or.inr ⟨dL_meetingByDivisors_21, rfl⟩) (by decide) (fun q hq => by simp only [List.mem_cons, List.not_mem_nil, or_false] at hq; rcases hq with rfl | rfl | rfl | rfl <;> exact ⟨Nat.ne_of_beq_eq_false rfl, fun _ => Nat.ne_of_beq_eq_false rfl⟩) ?_
      refine aw_iconst_n 3 dL_meetingByDivisors_23 (by decide) ?_
      exact aw_iret rfl (by decide) (by decide) dL_meetingByDivisors_24 ⟨by rw [z], hn, bp', o, hb', hG, hu9.trans hl, fun y => absurd y hc0, fun a h1 h2 h3 _ => hF a h1 h2 h3⟩
  obtain ⟨hr, -, bp', hb', hG, hF⟩ := h
  obtain ⟨hc0, hrv⟩ := xA_inl hr
  subst hrv
  have hu9 := hF u hu hu2 hu3
  refine aw_i2l dL_meetingByDivisors_8 ?_
  refine aw_last (hu9.trans hl) (vp_in_nI (by decide) (by decide)) dL_meetingByDivisors_9 ?_
  refine aw_goto (tgt := 25) dL_meetingByDivisors_10 (by decide) ?_
  refine aw_iconst_n 0 dL_meetingByDivisors_25 (by decide) ?_
  exact aw_iret rfl (by decide) (by decide) dL_meetingByDivisors_26 ⟨by rw [hc0], hn, bp', _, hb', hG.fr (fun a h1 h2 => up_ne (by omega)) (up_ne (by omega)) (Nat.le_refl _), up_self, fun _ => updL_0, fun a h1 h2 h3 h4 => (up_ne h4).trans (hF a h1 h2 h3)⟩
abbrev ML_cycleOf : MT := (RL, cL_cycleOf, 5, (some .int), tableOf [(0, 10, 13, 21)], "cycleOf")
set_option maxHeartbeats 4000000 in
theorem w_cycleOf {l : Launch} {G : GT} {n : Nat} {H : HT} {x bp u K : Nat} {s : SG} {o : Nat → Int64} (hW : GW H x bp n s) (hSB : SB K s) (hK : K + 30500 < 16000000) (hu : u < n) (hu2 : u < x ∨ x + 112 ≤ u) (hu3 : u ≠ bp) (hl : H u = lcell o) (v t : Int32) : AM l G yL_cycleOf (.codeWith yL_cycleOf cL_cycleOf 5 (some .int) [(0, 10, 13, 21)]) 11 660 12 360 [.ref x, .int v, .int t, .ref u] H n (LW9 x bp u H n (s) ((qCycle s.1 v t).1) ((nI (qCycle s.1 v t).2))) := by
  refine aw_enterW (M := ML_cycleOf) (hh := [(0, 10, 13, 21)]) rfl rfl (by decide +kernel) rfl (Nat.le_of_ble_eq_true rfl) ?_
  obtain ⟨h0, ⟨J, B, hst, hS⟩, -, -, -, ⟨T1, hk1⟩, ⟨T4, hk4⟩, -, ⟨Lc, hcd, hcl, hcx⟩, hox, hbx⟩ := id hW
  have hB := hSB.1
  show AW l G ML_cycleOf 11 660 12 360 _ n 0 0 0 [(0, .ref x), (1, .int v), (2, .int t), (3, .ref u)] [] _ n
  refine aw_aload_n dL_cycleOf_0 rfl rfl ?_
  refine aw_iconst_n 0 dL_cycleOf_1 (by decide) ?_
  refine aw_aload_n dL_cycleOf_2 rfl rfl ?_
  refine aw_iload_n dL_cycleOf_3 rfl rfl ?_
  refine aw_iload_n dL_cycleOf_4 rfl rfl ?_
  have hA := HQ.gx hW (g_cycleOf (l := l) (G := G) h0 hst hS hB v t)
  refine aw_cC (as := [Value.int v, Value.int t]) (rest := [Value.int (nI 0), Value.ref u]) (MV.c mV_X10_cycleOf) hA ml_L_82 (RC.w hW.1 rfl) dL_cycleOf_5 rfl rfl (by decide) (Nat.le_of_ble_eq_true rfl) (by decide) (fun E f9 n9 hn h => ?_) (fun r f9 n9 hn h => ?_)
  · obtain ⟨hr, -, bp', hb', hG, hF⟩ := h
    obtain ⟨hc0, hE⟩ := xA_inr hr
    have hcm : (qCycle s.1 v t).1 ≤ 1 := by unfold qCycle; (repeat' split) <;> exact Nat.le_of_ble_eq_true rfl
    have hu9 := hF u hu hu2 hu3
    have z : (qCycle s.1 v t).1 = 1 := by omega
    have hE2 : E = eIO := hE.trans (by rw [z]; rfl)
    subst hE2
    refine ax_catch (j := 4) (w := 2) [] ⟨0, 10, 13, 21⟩ [] rfl (fun z hz => nomatch hz) (by decide) (by decide) cl_L_21 (by simp [lw_nest]) (Or.inr ⟨dL_cycleOf_13, rfl⟩) (by decide) (fun q hq => by simp only [List.mem_cons, List.not_mem_nil, or_false] at hq; rcases hq with rfl | rfl | rfl | rfl <;> exact ⟨Nat.ne_of_beq_eq_false rfl, fun _ => Nat.ne_of_beq_eq_false rfl⟩) ?_
    refine aw_iconst_n 1 dL_cycleOf_15 (by decide) ?_
    exact aw_iret rfl (by decide) (by decide) dL_cycleOf_16 ⟨by rw [z], hn, bp', o, hb', hG, hu9.trans hl, fun y => absurd y hc0, fun a h1 h2 h3 _ => hF a h1 h2 h3⟩
  obtain ⟨hr, -, bp', hb', hG, hF⟩ := h
  obtain ⟨hc0, hrv⟩ := xA_inl hr
  subst hrv
  have hu9 := hF u hu hu2 hu3
  refine aw_i2l dL_cycleOf_8 ?_
  refine aw_last (hu9.trans hl) (vp_in_nI (by decide) (by decide)) dL_cycleOf_9 ?_
  refine aw_goto (tgt := 17) dL_cycleOf_10 (by decide) ?_
  refine aw_iconst_n 0 dL_cycleOf_17 (by decide) ?_
  exact aw_iret rfl (by decide) (by decide) dL_cycleOf_18 ⟨by rw [hc0], hn, bp', _, hb', hG.fr (fun a h1 h2 => up_ne (by omega)) (up_ne (by omega)) (Nat.le_refl _), up_self, fun _ => updL_0, fun a h1 h2 h3 h4 => (up_ne h4).trans (hF a h1 h2 h3)⟩
abbrev ML_addLeg : MT := (RL, cL_addLeg, 4, (some .int), tableOf [(0, 9, 12, 13), (0, 9, 15, 15)], "addLeg")
set_option maxHeartbeats 4000000 in
theorem w_addLeg {l : Launch} {G : GT} {n : Nat} {H : HT} {x bp u K : Nat} {s : SG} {o : Nat → Int64} (hW : GW H x bp n s) (hSB : SB K s) (hK : K + 30500 < 16000000) (hu : u < n) (hu2 : u < x ∨ x + 112 ≤ u) (hu3 : u ≠ bp) (hl : H u = lcell o) (v : Int32) : AM l G yL_addLeg (.codeWith yL_addLeg cL_addLeg 4 (some .int) [(0, 9, 12, 13), (0, 9, 15, 15)]) 11 660 12 360 [.ref x, .int v, .ref u] H n (LW9 x bp u H n (opS s (opLeg s.1 v)) ((opLeg s.1 v).1) ((nI (opLeg s.1 v).2.1))) := by
  refine aw_enterW (M := ML_addLeg) (hh := [(0, 9, 12, 13), (0, 9, 15, 15)]) rfl rfl (by decide +kernel) rfl (Nat.le_of_ble_eq_true rfl) ?_
  obtain ⟨h0, ⟨J, B, hst, hS⟩, -, -, -, ⟨T1, hk1⟩, ⟨T4, hk4⟩, -, ⟨Lc, hcd, hcl, hcx⟩, hox, hbx⟩ := id hW
  have hB := hSB.1
  show AW l G ML_addLeg 11 660 12 360 _ n 0 0 0 [(0, .ref x), (1, .int v), (2, .ref u)] [] _ n
  refine aw_aload_n dL_addLeg_0 rfl rfl ?_
  refine aw_iconst_n 0 dL_addLeg_1 (by decide) ?_
  refine aw_aload_n dL_addLeg_2 rfl rfl ?_
  refine aw_iload_n dL_addLeg_3 rfl rfl ?_
  have hA := g_addLeg (l := l) (G := G) hW hB v
  refine aw_cC (as := [Value.int v]) (rest := [Value.int (nI 0), Value.ref u]) (MV.c mV_X10_addLeg) hA ml_L_85 (RC.w hW.1 rfl) dL_addLeg_4 rfl rfl (by decide) (Nat.le_of_ble_eq_true rfl) (by decide) (fun E f9 n9 hn h => ?_) (fun r f9 n9 hn h => ?_)
  · obtain ⟨hr, -, bp', hb', hG, hF⟩ := h
    obtain ⟨hc0, hE⟩ := xA_inr hr
    have hcm : (opLeg s.1 v).1 ≤ 2 := by unfold opLeg; (repeat' split) <;> exact Nat.le_of_ble_eq_true rfl
    have hu9 := hF u hu hu2 hu3
    rcases (by omega : (opLeg s.1 v).1 = 1 ∨ (opLeg s.1 v).1 = 2) with z | z
    · have hE2 : E = eIA := hE.trans (by rw [z]; rfl)
      subst hE2
      refine ax_catch (j := 3) (w := 1) [] ⟨0, 9, 12, 13⟩ [⟨0, 9, 15, 15⟩] rfl (fun z hz => nomatch hz) (by decide) (by decide) cl_L_13 (by simp [lw_nest]) (Or.inl ⟨3, rfl, dL_addLeg_12, rfl⟩) (by decide) (fun q hq => by simp only [List.mem_cons, List.not_mem_nil, or_false] at hq; rcases hq with rfl | rfl | rfl <;> exact ⟨Nat.ne_of_beq_eq_false rfl, fun _ => Nat.ne_of_beq_eq_false rfl⟩) ?_
      refine aw_iconst_n 1 dL_addLeg_13 (by decide) ?_
      exact aw_iret rfl (by decide) (by decide) dL_addLeg_14 ⟨by rw [z], hn, bp', o, hb', hG, hu9.trans hl, fun y => absurd y hc0, fun a h1 h2 h3 _ => hF a h1 h2 h3⟩
    · have hE2 : E = eIS := hE.trans (by rw [z]; rfl)
      subst hE2
      refine ax_catch (j := 3) (w := 1) [⟨0, 9, 12, 13⟩] ⟨0, 9, 15, 15⟩ [] rfl (fun z hz => by
        simp only [tableOf, List.mem_cons, List.not_mem_nil, or_false] at hz
        rcases hz with rfl
        · exact ⟨by decide, eIA, cl_L_13, List.mem_of_getElem? (i := 1) rfl⟩) (by decide) (by decide) cl_L_15 (by simp [lw_nest]) (Or.inl ⟨3, rfl, dL_addLeg_15, rfl⟩) (by decide) (fun q hq => by simp only [List.mem_cons, List.not_mem_nil, or_false] at hq; rcases hq with rfl | rfl | rfl <;> exact ⟨Nat.ne_of_beq_eq_false rfl, fun _ => Nat.ne_of_beq_eq_false rfl⟩) ?_
      refine aw_iconst_n 2 dL_addLeg_16 (by decide) ?_
      exact aw_iret rfl (by decide) (by decide) dL_addLeg_17 ⟨by rw [z], hn, bp', o, hb', hG, hu9.trans hl, fun y => absurd y hc0, fun a h1 h2 h3 _ => hF a h1 h2 h3⟩
  obtain ⟨hr, -, bp', hb', hG, hF⟩ := h
  obtain ⟨hc0, hrv⟩ := xA_inl hr
  subst hrv
  have hu9 := hF u hu hu2 hu3
  refine aw_i2l dL_addLeg_7 ?_
  refine aw_last (hu9.trans hl) (vp_in_nI (by decide) (by decide)) dL_addLeg_8 ?_
  refine aw_goto (tgt := 18) dL_addLeg_9 (by decide) ?_
  refine aw_iconst_n 0 dL_addLeg_18 (by decide) ?_
  exact aw_iret rfl (by decide) (by decide) dL_addLeg_19 ⟨by rw [hc0], hn, bp', _, hb', hG.fr (fun a h1 h2 => up_ne (by omega)) (up_ne (by omega)) (Nat.le_refl _), up_self, fun _ => updL_0, fun a h1 h2 h3 h4 => (up_ne h4).trans (hF a h1 h2 h3)⟩
abbrev ML_removeLeg : MT := (RL, cL_removeLeg, 4, (some .int), tableOf [(0, 9, 12, 21)], "removeLeg")
set_option maxHeartbeats 4000000 in
theorem w_removeLeg {l : Launch} {G : GT} {n : Nat} {H : HT} {x bp u K : Nat} {s : SG} {o : Nat → Int64} (hW : GW H x bp n s) (hSB : SB K s) (hK : K + 30500 < 16000000) (hu : u < n) (hu2 : u < x ∨ x + 112 ≤ u) (hu3 : u ≠ bp) (hl : H u = lcell o) (v : Int32) : AM l G yL_removeLeg (.codeWith yL_removeLeg cL_removeLeg 4 (some .int) [(0, 9, 12, 21)]) 11 660 12 360 [.ref x, .int v, .ref u] H n (LW9 x bp u H n (opS s (opCut s.1 v)) ((opCut s.1 v).1) ((nI (opCut s.1 v).2.1))) := by
  refine aw_enterW (M := ML_removeLeg) (hh := [(0, 9, 12, 21)]) rfl rfl (by decide +kernel) rfl (Nat.le_of_ble_eq_true rfl) ?_
  obtain ⟨h0, ⟨J, B, hst, hS⟩, -, -, -, ⟨T1, hk1⟩, ⟨T4, hk4⟩, -, ⟨Lc, hcd, hcl, hcx⟩, hox, hbx⟩ := id hW
  have hB := hSB.1
  show AW l G ML_removeLeg 11 660 12 360 _ n 0 0 0 [(0, .ref x), (1, .int v), (2, .ref u)] [] _ n
  refine aw_aload_n dL_removeLeg_0 rfl rfl ?_
  refine aw_iconst_n 0 dL_removeLeg_1 (by decide) ?_
  refine aw_aload_n dL_removeLeg_2 rfl rfl ?_
  refine aw_iload_n dL_removeLeg_3 rfl rfl ?_
  have hA := g_removeLeg (l := l) (G := G) hW hB v
  refine aw_cC (as := [Value.int v]) (rest := [Value.int (nI 0), Value.ref u]) (MV.c mV_X10_removeLeg) hA ml_L_88 (RC.w hW.1 rfl) dL_removeLeg_4 rfl rfl (by decide) (Nat.le_of_ble_eq_true rfl) (by decide) (fun E f9 n9 hn h => ?_) (fun r f9 n9 hn h => ?_)
  · obtain ⟨hr, -, bp', hb', hG, hF⟩ := h
    obtain ⟨hc0, hE⟩ := xA_inr hr
    have hcm : (opCut s.1 v).1 ≤ 1 := by unfold opCut; (repeat' split) <;> exact Nat.le_of_ble_eq_true rfl
    have hu9 := hF u hu hu2 hu3
    have z : (opCut s.1 v).1 = 1 := by omega
    have hE2 : E = eIO := hE.trans (by rw [z]; rfl)
    subst hE2
    refine ax_catch (j := 3) (w := 1) [] ⟨0, 9, 12, 21⟩ [] rfl (fun z hz => nomatch hz) (by decide) (by decide) cl_L_21 (by simp [lw_nest]) (Or.inl ⟨3, rfl, dL_removeLeg_12, rfl⟩) (by decide) (fun q hq => by simp only [List.mem_cons, List.not_mem_nil, or_false] at hq; rcases hq with rfl | rfl | rfl <;> exact ⟨Nat.ne_of_beq_eq_false rfl, fun _ => Nat.ne_of_beq_eq_false rfl⟩) ?_
    refine aw_iconst_n 1 dL_removeLeg_13 (by decide) ?_
    exact aw_iret rfl (by decide) (by decide) dL_removeLeg_14 ⟨by rw [z], hn, bp', o, hb', hG, hu9.trans hl, fun y => absurd y hc0, fun a h1 h2 h3 _ => hF a h1 h2 h3⟩
  obtain ⟨hr, -, bp', hb', hG, hF⟩ := h
  obtain ⟨hc0, hrv⟩ := xA_inl hr
  subst hrv
  have hu9 := hF u hu hu2 hu3
  refine aw_i2l dL_removeLeg_7 ?_
  refine aw_last (hu9.trans hl) (vp_in_nI (by decide) (by decide)) dL_removeLeg_8 ?_
  refine aw_goto (tgt := 15) dL_removeLeg_9 (by decide) ?_
  refine aw_iconst_n 0 dL_removeLeg_15 (by decide) ?_
  exact aw_iret rfl (by decide) (by decide) dL_removeLeg_16 ⟨by rw [hc0], hn, bp', _, hb', hG.fr (fun a h1 h2 => up_ne (by omega)) (up_ne (by omega)) (Nat.le_refl _), up_self, fun _ => updL_0, fun a h1 h2 h3 h4 => (up_ne h4).trans (hF a h1 h2 h3)⟩
abbrev ML_wishOf : MT := (RL, cL_wishOf, 4, (some .int), tableOf [(0, 9, 12, 21)], "wishOf")
set_option maxHeartbeats 4000000 in
theorem w_wishOf {l : Launch} {G : GT} {n : Nat} {H : HT} {x bp u K : Nat} {s : SG} {o : Nat → Int64} (hW : GW H x bp n s) (hSB : SB K s) (hK : K + 30500 < 16000000) (hu : u < n) (hu2 : u < x ∨ x + 112 ≤ u) (hu3 : u ≠ bp) (hl : H u = lcell o) (v : Int32) : AM l G yL_wishOf (.codeWith yL_wishOf cL_wishOf 4 (some .int) [(0, 9, 12, 21)]) 11 660 12 360 [.ref x, .int v, .ref u] H n (LW9 x bp u H n (s) ((qWish s.1 v).1) ((nI (qWish s.1 v).2))) := by
  refine aw_enterW (M := ML_wishOf) (hh := [(0, 9, 12, 21)]) rfl rfl (by decide +kernel) rfl (Nat.le_of_ble_eq_true rfl) ?_
  obtain ⟨h0, ⟨J, B, hst, hS⟩, -, -, -, ⟨T1, hk1⟩, ⟨T4, hk4⟩, -, ⟨Lc, hcd, hcl, hcx⟩, hox, hbx⟩ := id hW
  have hB := hSB.1
  show AW l G ML_wishOf 11 660 12 360 _ n 0 0 0 [(0, .ref x), (1, .int v), (2, .ref u)] [] _ n
  refine aw_aload_n dL_wishOf_0 rfl rfl ?_
  refine aw_iconst_n 0 dL_wishOf_1 (by decide) ?_
  refine aw_aload_n dL_wishOf_2 rfl rfl ?_
  refine aw_iload_n dL_wishOf_3 rfl rfl ?_
  have hA := HQ.gx hW (g_wishOf (l := l) (G := G) h0 hst hS hB v)
  refine aw_cC (as := [Value.int v]) (rest := [Value.int (nI 0), Value.ref u]) (MV.c mV_X10_wishOf) hA ml_L_91 (RC.w hW.1 rfl) dL_wishOf_4 rfl rfl (by decide) (Nat.le_of_ble_eq_true rfl) (by decide) (fun E f9 n9 hn h => ?_) (fun r f9 n9 hn h => ?_)
  · obtain ⟨hr, -, bp', hb', hG, hF⟩ := h
    obtain ⟨hc0, hE⟩ := xA_inr hr
    have hcm : (qWish s.1 v).1 ≤ 1 := by unfold qWish; (repeat' split) <;> exact Nat.le_of_ble_eq_true rfl
    have hu9 := hF u hu hu2 hu3
    have z : (qWish s.1 v).1 = 1 := by omega
    have hE2 : E = eIO := hE.trans (by rw [z]; rfl)
    subst hE2
    refine ax_catch (j := 3) (w := 1) [] ⟨0, 9, 12, 21⟩ [] rfl (fun z hz => nomatch hz) (by decide) (by decide) cl_L_21 (by simp [lw_nest]) (Or.inl ⟨3, rfl, dL_wishOf_12, rfl⟩) (by decide) (fun q hq => by simp only [List.mem_cons, List.not_mem_nil, or_false] at hq; rcases hq with rfl | rfl | rfl <;> exact ⟨Nat.ne_of_beq_eq_false rfl, fun _ => Nat.ne_of_beq_eq_false rfl⟩) ?_
    refine aw_iconst_n 1 dL_wishOf_13 (by decide) ?_
    exact aw_iret rfl (by decide) (by decide) dL_wishOf_14 ⟨by rw [z], hn, bp', o, hb', hG, hu9.trans hl, fun y => absurd y hc0, fun a h1 h2 h3 _ => hF a h1 h2 h3⟩
  obtain ⟨hr, -, bp', hb', hG, hF⟩ := h
  obtain ⟨hc0, hrv⟩ := xA_inl hr
  subst hrv
  have hu9 := hF u hu hu2 hu3
  refine aw_i2l dL_wishOf_7 ?_
  refine aw_last (hu9.trans hl) (vp_in_nI (by decide) (by decide)) dL_wishOf_8 ?_
  refine aw_goto (tgt := 15) dL_wishOf_9 (by decide) ?_
  refine aw_iconst_n 0 dL_wishOf_15 (by decide) ?_
  exact aw_iret rfl (by decide) (by decide) dL_wishOf_16 ⟨by rw [hc0], hn, bp', _, hb', hG.fr (fun a h1 h2 => up_ne (by omega)) (up_ne (by omega)) (Nat.le_refl _), up_self, fun _ => updL_0, fun a h1 h2 h3 h4 => (up_ne h4).trans (hF a h1 h2 h3)⟩
abbrev ML_leastRelay : MT := (RL, cL_leastRelay, 3, (some .int), tableOf [(0, 8, 11, 15)], "leastRelay")
set_option maxHeartbeats 4000000 in
theorem w_leastRelay {l : Launch} {G : GT} {n : Nat} {H : HT} {x bp u K : Nat} {s : SG} {o : Nat → Int64} (hW : GW H x bp n s) (hSB : SB K s) (hK : K + 30500 < 16000000) (hu : u < n) (hu2 : u < x ∨ x + 112 ≤ u) (hu3 : u ≠ bp) (hl : H u = lcell o)  : AM l G yL_leastRelay (.codeWith yL_leastRelay cL_leastRelay 3 (some .int) [(0, 8, 11, 15)]) 11 660 12 360 [.ref x, .ref u] H n (LW9 x bp u H n (s) ((qRelay s.1).1) ((nI (qRelay s.1).2))) := by
  refine aw_enterW (M := ML_leastRelay) (hh := [(0, 8, 11, 15)]) rfl rfl (by decide +kernel) rfl (Nat.le_of_ble_eq_true rfl) ?_
  obtain ⟨h0, ⟨J, B, hst, hS⟩, -, -, -, ⟨T1, hk1⟩, ⟨T4, hk4⟩, -, ⟨Lc, hcd, hcl, hcx⟩, hox, hbx⟩ := id hW
  have hB := hSB.1
  show AW l G ML_leastRelay 11 660 12 360 _ n 0 0 0 [(0, .ref x), (1, .ref u)] [] _ n
  refine aw_aload_n dL_leastRelay_0 rfl rfl ?_
  refine aw_iconst_n 0 dL_leastRelay_1 (by decide) ?_
  refine aw_aload_n dL_leastRelay_2 rfl rfl ?_
  have hA := TQ.gx4 hW (g_leastRelay (l := l) (G := G) h0 hst hS hB hk4)
  refine aw_cC (as := []) (rest := [Value.int (nI 0), Value.ref u]) (MV.c mV_X10_leastRelay) hA ml_L_94 (RC.w hW.1 rfl) dL_leastRelay_3 rfl rfl (by decide) (Nat.le_of_ble_eq_true rfl) (by decide) (fun E f9 n9 hn h => ?_) (fun r f9 n9 hn h => ?_)
  · obtain ⟨hr, -, bp', hb', hG, hF⟩ := h
    obtain ⟨hc0, hE⟩ := xA_inr hr
    have hcm : (qRelay s.1).1 ≤ 1 := by unfold qRelay; (repeat' split) <;> exact Nat.le_of_ble_eq_true rfl
    have hu9 := hF u hu hu2 hu3
    have z : (qRelay s.1).1 = 1 := by omega
    have hE2 : E = eIS := hE.trans (by rw [z]; rfl)
    subst hE2
    refine ax_catch (j := 2) (w := 1) [] ⟨0, 8, 11, 15⟩ [] rfl (fun z hz => nomatch hz) (by decide) (by decide) cl_L_15 (by simp [lw_nest]) (Or.inl ⟨2, rfl, dL_leastRelay_11, rfl⟩) (by decide) (fun q hq => by simp only [List.mem_cons, List.not_mem_nil, or_false] at hq; rcases hq with rfl | rfl <;> exact ⟨Nat.ne_of_beq_eq_false rfl, fun _ => Nat.ne_of_beq_eq_false rfl⟩) ?_
    refine aw_iconst_n 1 dL_leastRelay_12 (by decide) ?_
    exact aw_iret rfl (by decide) (by decide) dL_leastRelay_13 ⟨by rw [z], hn, bp', o, hb', hG, hu9.trans hl, fun y => absurd y hc0, fun a h1 h2 h3 _ => hF a h1 h2 h3⟩
  obtain ⟨hr, -, bp', hb', hG, hF⟩ := h
  obtain ⟨hc0, hrv⟩ := xA_inl hr
  subst hrv
  have hu9 := hF u hu hu2 hu3
  refine aw_i2l dL_leastRelay_6 ?_
  refine aw_last (hu9.trans hl) (vp_in_nI (by decide) (by decide)) dL_leastRelay_7 ?_
  refine aw_goto (tgt := 14) dL_leastRelay_8 (by decide) ?_
  refine aw_iconst_n 0 dL_leastRelay_14 (by decide) ?_
  exact aw_iret rfl (by decide) (by decide) dL_leastRelay_15 ⟨by rw [hc0], hn, bp', _, hb', hG.fr (fun a h1 h2 => up_ne (by omega)) (up_ne (by omega)) (Nat.le_refl _), up_self, fun _ => updL_0, fun a h1 h2 h3 h4 => (up_ne h4).trans (hF a h1 h2 h3)⟩
abbrev ML_leastRelayByTrying : MT := (RL, cL_leastRelayByTrying, 3, (some .int), tableOf [(0, 8, 11, 15)], "leastRelayByTrying")
set_option maxHeartbeats 4000000 in
theorem w_leastRelayByTrying {l : Launch} {G : GT} {n : Nat} {H : HT} {x bp u K : Nat} {s : SG} {o : Nat → Int64} (hW : GW H x bp n s) (hSB : SB K s) (hK : K + 30500 < 16000000) (hu : u < n) (hu2 : u < x ∨ x + 112 ≤ u) (hu3 : u ≠ bp) (hl : H u = lcell o)  : AM l G yL_leastRelayByTrying (.codeWith yL_leastRelayByTrying cL_leastRelayByTrying 3 (some .int) [(0, 8, 11, 15)]) 11 660 12 360 [.ref x, .ref u] H n (LW9 x bp u H n (s) ((qRelay s.1).1) ((nI (qRelay s.1).2))) := by
  refine aw_enterW (M := ML_leastRelayByTrying) (hh := [(0, 8, 11, 15)]) rfl rfl (by decide +kernel) rfl (Nat.le_of_ble_eq_true rfl) ?_
  obtain ⟨h0, ⟨J, B, hst, hS⟩, -, -, -, ⟨T1, hk1⟩, ⟨T4, hk4⟩, -, ⟨Lc, hcd, hcl, hcx⟩, hox, hbx⟩ := id hW
  have hB := hSB.1
  show AW l G ML_leastRelayByTrying 11 660 12 360 _ n 0 0 0 [(0, .ref x), (1, .ref u)] [] _ n
  refine aw_aload_n dL_leastRelayByTrying_0 rfl rfl ?_
  refine aw_iconst_n 0 dL_leastRelayByTrying_1 (by decide) ?_
  refine aw_aload_n dL_leastRelayByTrying_2 rfl rfl ?_
  have hA := HQ.gx hW (g_leastRelayByTrying (l := l) (G := G) h0 hst hS hB )
  refine aw_cC (as := []) (rest := [Value.int (nI 0), Value.ref u]) (MV.c mV_X10_leastRelayByTrying) hA ml_L_98 (RC.w hW.1 rfl) dL_leastRelayByTrying_3 rfl rfl (by decide) (Nat.le_of_ble_eq_true rfl) (by decide) (fun E f9 n9 hn h => ?_) (fun r f9 n9 hn h => ?_)
  · obtain ⟨hr, -, bp', hb', hG, hF⟩ := h
    obtain ⟨hc0, hE⟩ := xA_inr hr
    have hcm : (qRelay s.1).1 ≤ 1 := by unfold qRelay; (repeat' split) <;> exact Nat.le_of_ble_eq_true rfl
    have hu9 := hF u hu hu2 hu3
    have z : (qRelay s.1).1 = 1 := by omega
    have hE2 : E = eIS := hE.trans (by rw [z]; rfl)
    subst hE2
    refine ax_catch (j := 2) (w := 1) [] ⟨0, 8, 11, 15⟩ [] rfl (fun z hz => nomatch hz) (by decide) (by decide) cl_L_15 (by simp [lw_nest]) (Or.inl ⟨2, rfl, dL_leastRelayByTrying_11, rfl⟩) (by decide) (fun q hq => by simp only [List.mem_cons, List.not_mem_nil, or_false] at hq; rcases hq with rfl | rfl <;> exact ⟨Nat.ne_of_beq_eq_false rfl, fun _ => Nat.ne_of_beq_eq_false rfl⟩) ?_
    refine aw_iconst_n 1 dL_leastRelayByTrying_12 (by decide) ?_
    exact aw_iret rfl (by decide) (by decide) dL_leastRelayByTrying_13 ⟨by rw [z], hn, bp', o, hb', hG, hu9.trans hl, fun y => absurd y hc0, fun a h1 h2 h3 _ => hF a h1 h2 h3⟩
  obtain ⟨hr, -, bp', hb', hG, hF⟩ := h
  obtain ⟨hc0, hrv⟩ := xA_inl hr
  subst hrv
  have hu9 := hF u hu hu2 hu3
  refine aw_i2l dL_leastRelayByTrying_6 ?_
  refine aw_last (hu9.trans hl) (vp_in_nI (by decide) (by decide)) dL_leastRelayByTrying_7 ?_
  refine aw_goto (tgt := 14) dL_leastRelayByTrying_8 (by decide) ?_
  refine aw_iconst_n 0 dL_leastRelayByTrying_14 (by decide) ?_
  exact aw_iret rfl (by decide) (by decide) dL_leastRelayByTrying_15 ⟨by rw [hc0], hn, bp', _, hb', hG.fr (fun a h1 h2 => up_ne (by omega)) (up_ne (by omega)) (Nat.le_refl _), up_self, fun _ => updL_0, fun a h1 h2 h3 h4 => (up_ne h4).trans (hF a h1 h2 h3)⟩
abbrev ML_runnerOf : MT := (RL, cL_runnerOf, 4, (some .int), tableOf [(0, 9, 12, 21), (0, 9, 15, 15)], "runnerOf")
set_option maxHeartbeats 4000000 in
theorem w_runnerOf {l : Launch} {G : GT} {n : Nat} {H : HT} {x bp u K : Nat} {s : SG} {o : Nat → Int64} (hW : GW H x bp n s) (hSB : SB K s) (hK : K + 30500 < 16000000) (hu : u < n) (hu2 : u < x ∨ x + 112 ≤ u) (hu3 : u ≠ bp) (hl : H u = lcell o) (v : Int32) : AM l G yL_runnerOf (.codeWith yL_runnerOf cL_runnerOf 4 (some .int) [(0, 9, 12, 21), (0, 9, 15, 15)]) 11 660 12 360 [.ref x, .int v, .ref u] H n (LW9 x bp u H n (s) ((qRunner s.1 v).1) ((nI (qRunner s.1 v).2))) := by
  refine aw_enterW (M := ML_runnerOf) (hh := [(0, 9, 12, 21), (0, 9, 15, 15)]) rfl rfl (by decide +kernel) rfl (Nat.le_of_ble_eq_true rfl) ?_
  obtain ⟨h0, ⟨J, B, hst, hS⟩, -, -, -, ⟨T1, hk1⟩, ⟨T4, hk4⟩, -, ⟨Lc, hcd, hcl, hcx⟩, hox, hbx⟩ := id hW
  have hB := hSB.1
  show AW l G ML_runnerOf 11 660 12 360 _ n 0 0 0 [(0, .ref x), (1, .int v), (2, .ref u)] [] _ n
  refine aw_aload_n dL_runnerOf_0 rfl rfl ?_
  refine aw_iconst_n 0 dL_runnerOf_1 (by decide) ?_
  refine aw_aload_n dL_runnerOf_2 rfl rfl ?_
  refine aw_iload_n dL_runnerOf_3 rfl rfl ?_
  have hA := TQ.gx4 hW (g_runnerOf (l := l) (G := G) h0 hst hS hB hk4 v)
  refine aw_cC (as := [Value.int v]) (rest := [Value.int (nI 0), Value.ref u]) (MV.c mV_X10_runnerOf) hA ml_L_101 (RC.w hW.1 rfl) dL_runnerOf_4 rfl rfl (by decide) (Nat.le_of_ble_eq_true rfl) (by decide) (fun E f9 n9 hn h => ?_) (fun r f9 n9 hn h => ?_)
  · obtain ⟨hr, -, bp', hb', hG, hF⟩ := h
    obtain ⟨hc0, hE⟩ := xA_inr hr
    have hcm : (qRunner s.1 v).1 ≤ 2 := by unfold qRunner; (repeat' split) <;> exact Nat.le_of_ble_eq_true rfl
    have hu9 := hF u hu hu2 hu3
    rcases (by omega : (qRunner s.1 v).1 = 1 ∨ (qRunner s.1 v).1 = 2) with z | z
    · have hE2 : E = eIO := hE.trans (by rw [z]; rfl)
      subst hE2
      refine ax_catch (j := 3) (w := 1) [] ⟨0, 9, 12, 21⟩ [⟨0, 9, 15, 15⟩] rfl (fun z hz => nomatch hz) (by decide) (by decide) cl_L_21 (by simp [lw_nest]) (Or.inl ⟨3, rfl, dL_runnerOf_12, rfl⟩) (by decide) (fun q hq => by simp only [List.mem_cons, List.not_mem_nil, or_false] at hq; rcases hq with rfl | rfl | rfl <;> exact ⟨Nat.ne_of_beq_eq_false rfl, fun _ => Nat.ne_of_beq_eq_false rfl⟩) ?_
      refine aw_iconst_n 1 dL_runnerOf_13 (by decide) ?_
      exact aw_iret rfl (by decide) (by decide) dL_runnerOf_14 ⟨by rw [z], hn, bp', o, hb', hG, hu9.trans hl, fun y => absurd y hc0, fun a h1 h2 h3 _ => hF a h1 h2 h3⟩
    · have hE2 : E = eIS := hE.trans (by rw [z]; rfl)
      subst hE2
      refine ax_catch (j := 3) (w := 1) [⟨0, 9, 12, 21⟩] ⟨0, 9, 15, 15⟩ [] rfl (fun z hz => by
        simp only [tableOf, List.mem_cons, List.not_mem_nil, or_false] at hz
        rcases hz with rfl
        · exact ⟨by decide, eIO, cl_L_21, List.mem_of_getElem? (i := 9) rfl⟩) (by decide) (by decide) cl_L_15 (by simp [lw_nest]) (Or.inl ⟨3, rfl, dL_runnerOf_15, rfl⟩) (by decide) (fun q hq => by simp only [List.mem_cons, List.not_mem_nil, or_false] at hq; rcases hq with rfl | rfl | rfl <;> exact ⟨Nat.ne_of_beq_eq_false rfl, fun _ => Nat.ne_of_beq_eq_false rfl⟩) ?_
      refine aw_iconst_n 2 dL_runnerOf_16 (by decide) ?_
      exact aw_iret rfl (by decide) (by decide) dL_runnerOf_17 ⟨by rw [z], hn, bp', o, hb', hG, hu9.trans hl, fun y => absurd y hc0, fun a h1 h2 h3 _ => hF a h1 h2 h3⟩
  obtain ⟨hr, -, bp', hb', hG, hF⟩ := h
  obtain ⟨hc0, hrv⟩ := xA_inl hr
  subst hrv
  have hu9 := hF u hu hu2 hu3
  refine aw_i2l dL_runnerOf_7 ?_
  refine aw_last (hu9.trans hl) (vp_in_nI (by decide) (by decide)) dL_runnerOf_8 ?_
  refine aw_goto (tgt := 18) dL_runnerOf_9 (by decide) ?_
  refine aw_iconst_n 0 dL_runnerOf_18 (by decide) ?_
  exact aw_iret rfl (by decide) (by decide) dL_runnerOf_19 ⟨by rw [hc0], hn, bp', _, hb', hG.fr (fun a h1 h2 => up_ne (by omega)) (up_ne (by omega)) (Nat.le_refl _), up_self, fun _ => updL_0, fun a h1 h2 h3 h4 => (up_ne h4).trans (hF a h1 h2 h3)⟩
abbrev ML_fewestFor : MT := (RL, cL_fewestFor, 4, (some .int), tableOf [(0, 9, 12, 13), (0, 9, 15, 44)], "fewestFor")
set_option maxHeartbeats 4000000 in
theorem w_fewestFor {l : Launch} {G : GT} {n : Nat} {H : HT} {x bp u K : Nat} {s : SG} {o : Nat → Int64} (hW : GW H x bp n s) (hSB : SB K s) (hK : K + 30500 < 16000000) (hu : u < n) (hu2 : u < x ∨ x + 112 ≤ u) (hu3 : u ≠ bp) (hl : H u = lcell o) (v : Int32) : AM l G yL_fewestFor (.codeWith yL_fewestFor cL_fewestFor 4 (some .int) [(0, 9, 12, 13), (0, 9, 15, 44)]) 11 660 12 360 [.ref x, .int v, .ref u] H n (LW9 x bp u H n (s) ((qFew s.1 v).1) ((nI (qFew s.1 v).2))) := by
  refine aw_enterW (M := ML_fewestFor) (hh := [(0, 9, 12, 13), (0, 9, 15, 44)]) rfl rfl (by decide +kernel) rfl (Nat.le_of_ble_eq_true rfl) ?_
  obtain ⟨h0, ⟨J, B, hst, hS⟩, -, -, -, ⟨T1, hk1⟩, ⟨T4, hk4⟩, -, ⟨Lc, hcd, hcl, hcx⟩, hox, hbx⟩ := id hW
  have hB := hSB.1
  show AW l G ML_fewestFor 11 660 12 360 _ n 0 0 0 [(0, .ref x), (1, .int v), (2, .ref u)] [] _ n
  refine aw_aload_n dL_fewestFor_0 rfl rfl ?_
  refine aw_iconst_n 0 dL_fewestFor_1 (by decide) ?_
  refine aw_aload_n dL_fewestFor_2 rfl rfl ?_
  refine aw_iload_n dL_fewestFor_3 rfl rfl ?_
  have hA := HQ.gx hW (g_fewestFor (l := l) (G := G) h0 hst hS hB v)
  refine aw_cC (as := [Value.int v]) (rest := [Value.int (nI 0), Value.ref u]) (MV.c mV_X10_fewestFor) hA ml_L_104 (RC.w hW.1 rfl) dL_fewestFor_4 rfl rfl (by decide) (Nat.le_of_ble_eq_true rfl) (by decide) (fun E f9 n9 hn h => ?_) (fun r f9 n9 hn h => ?_)
  · obtain ⟨hr, -, bp', hb', hG, hF⟩ := h
    obtain ⟨hc0, hE⟩ := xA_inr hr
    have hcm : (qFew s.1 v).1 ≤ 2 := by unfold qFew; (repeat' split) <;> exact Nat.le_of_ble_eq_true rfl
    have hu9 := hF u hu hu2 hu3
    rcases (by omega : (qFew s.1 v).1 = 1 ∨ (qFew s.1 v).1 = 2) with z | z
    · have hE2 : E = eIA := hE.trans (by rw [z]; rfl)
      subst hE2
      refine ax_catch (j := 3) (w := 1) [] ⟨0, 9, 12, 13⟩ [⟨0, 9, 15, 44⟩] rfl (fun z hz => nomatch hz) (by decide) (by decide) cl_L_13 (by simp [lw_nest]) (Or.inl ⟨3, rfl, dL_fewestFor_12, rfl⟩) (by decide) (fun q hq => by simp only [List.mem_cons, List.not_mem_nil, or_false] at hq; rcases hq with rfl | rfl | rfl <;> exact ⟨Nat.ne_of_beq_eq_false rfl, fun _ => Nat.ne_of_beq_eq_false rfl⟩) ?_
      refine aw_iconst_n 1 dL_fewestFor_13 (by decide) ?_
      exact aw_iret rfl (by decide) (by decide) dL_fewestFor_14 ⟨by rw [z], hn, bp', o, hb', hG, hu9.trans hl, fun y => absurd y hc0, fun a h1 h2 h3 _ => hF a h1 h2 h3⟩
    · have hE2 : E = eNS := hE.trans (by rw [z]; rfl)
      subst hE2
      refine ax_catch (j := 3) (w := 1) [⟨0, 9, 12, 13⟩] ⟨0, 9, 15, 44⟩ [] rfl (fun z hz => by
        simp only [tableOf, List.mem_cons, List.not_mem_nil, or_false] at hz
        rcases hz with rfl
        · exact ⟨by decide, eIA, cl_L_13, List.mem_of_getElem? (i := 2) rfl⟩) (by decide) (by decide) cl_L_44 (by simp [lw_nest]) (Or.inl ⟨3, rfl, dL_fewestFor_15, rfl⟩) (by decide) (fun q hq => by simp only [List.mem_cons, List.not_mem_nil, or_false] at hq; rcases hq with rfl | rfl | rfl <;> exact ⟨Nat.ne_of_beq_eq_false rfl, fun _ => Nat.ne_of_beq_eq_false rfl⟩) ?_
      refine aw_iconst_n 2 dL_fewestFor_16 (by decide) ?_
      exact aw_iret rfl (by decide) (by decide) dL_fewestFor_17 ⟨by rw [z], hn, bp', o, hb', hG, hu9.trans hl, fun y => absurd y hc0, fun a h1 h2 h3 _ => hF a h1 h2 h3⟩
  obtain ⟨hr, -, bp', hb', hG, hF⟩ := h
  obtain ⟨hc0, hrv⟩ := xA_inl hr
  subst hrv
  have hu9 := hF u hu hu2 hu3
  refine aw_i2l dL_fewestFor_7 ?_
  refine aw_last (hu9.trans hl) (vp_in_nI (by decide) (by decide)) dL_fewestFor_8 ?_
  refine aw_goto (tgt := 18) dL_fewestFor_9 (by decide) ?_
  refine aw_iconst_n 0 dL_fewestFor_18 (by decide) ?_
  exact aw_iret rfl (by decide) (by decide) dL_fewestFor_19 ⟨by rw [hc0], hn, bp', _, hb', hG.fr (fun a h1 h2 => up_ne (by omega)) (up_ne (by omega)) (Nat.le_refl _), up_self, fun _ => updL_0, fun a h1 h2 h3 h4 => (up_ne h4).trans (hF a h1 h2 h3)⟩
abbrev ML_fewestForBySets : MT := (RL, cL_fewestForBySets, 4, (some .int), tableOf [(0, 9, 12, 13), (0, 9, 15, 44)], "fewestForBySets")
set_option maxHeartbeats 4000000 in
theorem w_fewestForBySets {l : Launch} {G : GT} {n : Nat} {H : HT} {x bp u K : Nat} {s : SG} {o : Nat → Int64} (hW : GW H x bp n s) (hSB : SB K s) (hK : K + 30500 < 16000000) (hu : u < n) (hu2 : u < x ∨ x + 112 ≤ u) (hu3 : u ≠ bp) (hl : H u = lcell o) (v : Int32) : AM l G yL_fewestForBySets (.codeWith yL_fewestForBySets cL_fewestForBySets 4 (some .int) [(0, 9, 12, 13), (0, 9, 15, 44)]) 11 660 12 360 [.ref x, .int v, .ref u] H n (LW9 x bp u H n (s) ((qFew s.1 v).1) ((nI (qFew s.1 v).2))) := by
  refine aw_enterW (M := ML_fewestForBySets) (hh := [(0, 9, 12, 13), (0, 9, 15, 44)]) rfl rfl (by decide +kernel) rfl (Nat.le_of_ble_eq_true rfl) ?_
  obtain ⟨h0, ⟨J, B, hst, hS⟩, -, -, -, ⟨T1, hk1⟩, ⟨T4, hk4⟩, -, ⟨Lc, hcd, hcl, hcx⟩, hox, hbx⟩ := id hW
  have hB := hSB.1
  show AW l G ML_fewestForBySets 11 660 12 360 _ n 0 0 0 [(0, .ref x), (1, .int v), (2, .ref u)] [] _ n
  refine aw_aload_n dL_fewestForBySets_0 rfl rfl ?_
  refine aw_iconst_n 0 dL_fewestForBySets_1 (by decide) ?_
  refine aw_aload_n dL_fewestForBySets_2 rfl rfl ?_
  refine aw_iload_n dL_fewestForBySets_3 rfl rfl ?_
  have hA := HQ.gx hW (g_fewestForBySets (l := l) (G := G) h0 hst hS hB v)
  refine aw_cC (as := [Value.int v]) (rest := [Value.int (nI 0), Value.ref u]) (MV.c mV_X10_fewestForBySets) hA ml_L_107 (RC.w hW.1 rfl) dL_fewestForBySets_4 rfl rfl (by decide) (Nat.le_of_ble_eq_true rfl) (by decide) (fun E f9 n9 hn h => ?_) (fun r f9 n9 hn h => ?_)
  · obtain ⟨hr, -, bp', hb', hG, hF⟩ := h
    obtain ⟨hc0, hE⟩ := xA_inr hr
    have hcm : (qFew s.1 v).1 ≤ 2 := by unfold qFew; (repeat' split) <;> exact Nat.le_of_ble_eq_true rfl
    have hu9 := hF u hu hu2 hu3
    rcases (by omega : (qFew s.1 v).1 = 1 ∨ (qFew s.1 v).1 = 2) with z | z
    · have hE2 : E = eIA := hE.trans (by rw [z]; rfl)
      subst hE2
      refine ax_catch (j := 3) (w := 1) [] ⟨0, 9, 12, 13⟩ [⟨0, 9, 15, 44⟩] rfl (fun z hz => nomatch hz) (by decide) (by decide) cl_L_13 (by simp [lw_nest]) (Or.inl ⟨3, rfl, dL_fewestForBySets_12, rfl⟩) (by decide) (fun q hq => by simp only [List.mem_cons, List.not_mem_nil, or_false] at hq; rcases hq with rfl | rfl | rfl <;> exact ⟨Nat.ne_of_beq_eq_false rfl, fun _ => Nat.ne_of_beq_eq_false rfl⟩) ?_
      refine aw_iconst_n 1 dL_fewestForBySets_13 (by decide) ?_
      exact aw_iret rfl (by decide) (by decide) dL_fewestForBySets_14 ⟨by rw [z], hn, bp', o, hb', hG, hu9.trans hl, fun y => absurd y hc0, fun a h1 h2 h3 _ => hF a h1 h2 h3⟩
    · have hE2 : E = eNS := hE.trans (by rw [z]; rfl)
      subst hE2
      refine ax_catch (j := 3) (w := 1) [⟨0, 9, 12, 13⟩] ⟨0, 9, 15, 44⟩ [] rfl (fun z hz => by
        simp only [tableOf, List.mem_cons, List.not_mem_nil, or_false] at hz
        rcases hz with rfl
        · exact ⟨by decide, eIA, cl_L_13, List.mem_of_getElem? (i := 2) rfl⟩) (by decide) (by decide) cl_L_44 (by simp [lw_nest]) (Or.inl ⟨3, rfl, dL_fewestForBySets_15, rfl⟩) (by decide) (fun q hq => by simp only [List.mem_cons, List.not_mem_nil, or_false] at hq; rcases hq with rfl | rfl | rfl <;> exact ⟨Nat.ne_of_beq_eq_false rfl, fun _ => Nat.ne_of_beq_eq_false rfl⟩) ?_
      refine aw_iconst_n 2 dL_fewestForBySets_16 (by decide) ?_
      exact aw_iret rfl (by decide) (by decide) dL_fewestForBySets_17 ⟨by rw [z], hn, bp', o, hb', hG, hu9.trans hl, fun y => absurd y hc0, fun a h1 h2 h3 _ => hF a h1 h2 h3⟩
  obtain ⟨hr, -, bp', hb', hG, hF⟩ := h
  obtain ⟨hc0, hrv⟩ := xA_inl hr
  subst hrv
  have hu9 := hF u hu hu2 hu3
  refine aw_i2l dL_fewestForBySets_7 ?_
  refine aw_last (hu9.trans hl) (vp_in_nI (by decide) (by decide)) dL_fewestForBySets_8 ?_
  refine aw_goto (tgt := 18) dL_fewestForBySets_9 (by decide) ?_
  refine aw_iconst_n 0 dL_fewestForBySets_18 (by decide) ?_
  exact aw_iret rfl (by decide) (by decide) dL_fewestForBySets_19 ⟨by rw [hc0], hn, bp', _, hb', hG.fr (fun a h1 h2 => up_ne (by omega)) (up_ne (by omega)) (Nat.le_refl _), up_self, fun _ => updL_0, fun a h1 h2 h3 h4 => (up_ne h4).trans (hF a h1 h2 h3)⟩
abbrev ML_exactSets : MT := (RL, cL_exactSets, 4, (some .int), tableOf [(0, 9, 12, 13)], "exactSets")
set_option maxHeartbeats 4000000 in
theorem w_exactSets {l : Launch} {G : GT} {n : Nat} {H : HT} {x bp u K : Nat} {s : SG} {o : Nat → Int64} (hW : GW H x bp n s) (hSB : SB K s) (hK : K + 30500 < 16000000) (hu : u < n) (hu2 : u < x ∨ x + 112 ≤ u) (hu3 : u ≠ bp) (hl : H u = lcell o) (v : Int32) : AM l G yL_exactSets (.codeWith yL_exactSets cL_exactSets 4 (some .int) [(0, 9, 12, 13)]) 11 660 12 360 [.ref x, .int v, .ref u] H n (LW9 x bp u H n (s) ((qExa s.1 v).1) ((nI (qExa s.1 v).2))) := by
  refine aw_enterW (M := ML_exactSets) (hh := [(0, 9, 12, 13)]) rfl rfl (by decide +kernel) rfl (Nat.le_of_ble_eq_true rfl) ?_
  obtain ⟨h0, ⟨J, B, hst, hS⟩, -, -, -, ⟨T1, hk1⟩, ⟨T4, hk4⟩, -, ⟨Lc, hcd, hcl, hcx⟩, hox, hbx⟩ := id hW
  have hB := hSB.1
  show AW l G ML_exactSets 11 660 12 360 _ n 0 0 0 [(0, .ref x), (1, .int v), (2, .ref u)] [] _ n
  refine aw_aload_n dL_exactSets_0 rfl rfl ?_
  refine aw_iconst_n 0 dL_exactSets_1 (by decide) ?_
  refine aw_aload_n dL_exactSets_2 rfl rfl ?_
  refine aw_iload_n dL_exactSets_3 rfl rfl ?_
  have hA := HQ.gx hW (g_exactSets (l := l) (G := G) h0 hst hS hB v)
  refine aw_cC (as := [Value.int v]) (rest := [Value.int (nI 0), Value.ref u]) (MV.c mV_X10_exactSets) hA ml_L_110 (RC.w hW.1 rfl) dL_exactSets_4 rfl rfl (by decide) (Nat.le_of_ble_eq_true rfl) (by decide) (fun E f9 n9 hn h => ?_) (fun r f9 n9 hn h => ?_)
  · obtain ⟨hr, -, bp', hb', hG, hF⟩ := h
    obtain ⟨hc0, hE⟩ := xA_inr hr
    have hcm : (qExa s.1 v).1 ≤ 1 := by unfold qExa; (repeat' split) <;> exact Nat.le_of_ble_eq_true rfl
    have hu9 := hF u hu hu2 hu3
    have z : (qExa s.1 v).1 = 1 := by omega
    have hE2 : E = eIA := hE.trans (by rw [z]; rfl)
    subst hE2
    refine ax_catch (j := 3) (w := 1) [] ⟨0, 9, 12, 13⟩ [] rfl (fun z hz => nomatch hz) (by decide) (by decide) cl_L_13 (by simp [lw_nest]) (Or.inl ⟨3, rfl, dL_exactSets_12, rfl⟩) (by decide) (fun q hq => by simp only [List.mem_cons, List.not_mem_nil, or_false] at hq; rcases hq with rfl | rfl | rfl <;> exact ⟨Nat.ne_of_beq_eq_false rfl, fun _ => Nat.ne_of_beq_eq_false rfl⟩) ?_
    refine aw_iconst_n 1 dL_exactSets_13 (by decide) ?_
    exact aw_iret rfl (by decide) (by decide) dL_exactSets_14 ⟨by rw [z], hn, bp', o, hb', hG, hu9.trans hl, fun y => absurd y hc0, fun a h1 h2 h3 _ => hF a h1 h2 h3⟩
  obtain ⟨hr, -, bp', hb', hG, hF⟩ := h
  obtain ⟨hc0, hrv⟩ := xA_inl hr
  subst hrv
  have hu9 := hF u hu hu2 hu3
  refine aw_i2l dL_exactSets_7 ?_
  refine aw_last (hu9.trans hl) (vp_in_nI (by decide) (by decide)) dL_exactSets_8 ?_
  refine aw_goto (tgt := 15) dL_exactSets_9 (by decide) ?_
  refine aw_iconst_n 0 dL_exactSets_15 (by decide) ?_
  exact aw_iret rfl (by decide) (by decide) dL_exactSets_16 ⟨by rw [hc0], hn, bp', _, hb', hG.fr (fun a h1 h2 => up_ne (by omega)) (up_ne (by omega)) (Nat.le_refl _), up_self, fun _ => updL_0, fun a h1 h2 h3 h4 => (up_ne h4).trans (hF a h1 h2 h3)⟩
abbrev ML_meanAmplitude : MT := (RL, cL_meanAmplitude, 3, (some .int), tableOf [(0, 7, 10, 117)], "meanAmplitude")
set_option maxHeartbeats 4000000 in
theorem w_meanAmplitude {l : Launch} {G : GT} {n : Nat} {H : HT} {x bp u K : Nat} {s : SG} {o : Nat → UInt64} (hW : GW H x bp n s) (hSB : SB K s) (hK : K + 30500 < 16000000) (hu : u < n) (hu2 : u < x ∨ x + 112 ≤ u) (hu3 : u ≠ bp) (hl : H u = dcell o)  : AM l G yL_meanAmplitude (.codeWith yL_meanAmplitude cL_meanAmplitude 3 (some .int) [(0, 7, 10, 117)]) 11 660 12 360 [.ref x, .ref u] H n (DW9 x bp u H n (s) ((qMean s.1).1) (((qMean s.1).2))) := by
  refine aw_enterW (M := ML_meanAmplitude) (hh := [(0, 7, 10, 117)]) rfl rfl (by decide +kernel) rfl (Nat.le_of_ble_eq_true rfl) ?_
  obtain ⟨h0, ⟨J, B, hst, hS⟩, -, -, -, ⟨T1, hk1⟩, ⟨T4, hk4⟩, -, ⟨Lc, hcd, hcl, hcx⟩, hox, hbx⟩ := id hW
  have hB := hSB.1
  show AW l G ML_meanAmplitude 11 660 12 360 _ n 0 0 0 [(0, .ref x), (1, .ref u)] [] _ n
  refine aw_aload_n dL_meanAmplitude_0 rfl rfl ?_
  refine aw_iconst_n 0 dL_meanAmplitude_1 (by decide) ?_
  refine aw_aload_n dL_meanAmplitude_2 rfl rfl ?_
  have hA := HQ.gx hW (g_meanAmplitude (l := l) (G := G) h0 hst hS hB)
  refine aw_cC (as := []) (rest := [Value.int (nI 0), Value.ref u]) (MV.c mV_X10_meanAmplitude) hA ml_L_113 (RC.w hW.1 rfl) dL_meanAmplitude_3 rfl rfl (by decide) (Nat.le_of_ble_eq_true rfl) (by decide) (fun E f9 n9 hn h => ?_) (fun r f9 n9 hn h => ?_)
  · obtain ⟨hr, -, bp', hb', hG, hF⟩ := h
    obtain ⟨hc0, hE⟩ := xA_inr hr
    have hcm : (qMean s.1).1 ≤ 1 := by unfold qMean; (repeat' split) <;> exact Nat.le_of_ble_eq_true rfl
    have hu9 := hF u hu hu2 hu3
    have z : (qMean s.1).1 = 1 := by omega
    have hE2 : E = eAR := hE.trans (by rw [z]; rfl)
    subst hE2
    refine ax_catch (j := 2) (w := 1) [] ⟨0, 7, 10, 117⟩ [] rfl (fun z hz => nomatch hz) (by decide) (by decide) cl_L_117 (by simp [lw_nest]) (Or.inl ⟨2, rfl, dL_meanAmplitude_10, rfl⟩) (by decide) (fun q hq => by simp only [List.mem_cons, List.not_mem_nil, or_false] at hq; rcases hq with rfl | rfl <;> exact ⟨Nat.ne_of_beq_eq_false rfl, fun _ => Nat.ne_of_beq_eq_false rfl⟩) ?_
    refine aw_iconst_n 1 dL_meanAmplitude_11 (by decide) ?_
    exact aw_iret rfl (by decide) (by decide) dL_meanAmplitude_12 ⟨by rw [z], hn, bp', o, hb', hG, hu9.trans hl, fun y => absurd y hc0, fun a h1 h2 h3 _ => hF a h1 h2 h3⟩
  obtain ⟨hr, -, bp', hb', hG, hF⟩ := h
  obtain ⟨hc0, hrv⟩ := xA_inl hr
  subst hrv
  have hu9 := hF u hu hu2 hu3
  refine aw_dast (hu9.trans hl) (vp_in_nI (by decide) (by decide)) dL_meanAmplitude_6 ?_
  refine aw_goto (tgt := 13) dL_meanAmplitude_7 (by decide) ?_
  refine aw_iconst_n 0 dL_meanAmplitude_13 (by decide) ?_
  exact aw_iret rfl (by decide) (by decide) dL_meanAmplitude_14 ⟨by rw [hc0], hn, bp', _, hb', hG.fr (fun a h1 h2 => up_ne (by omega)) (up_ne (by omega)) (Nat.le_refl _), up_self, fun _ => updD_0, fun a h1 h2 h3 h4 => (up_ne h4).trans (hF a h1 h2 h3)⟩
abbrev ML_writeCard : MT := (RL, cL_writeCard, 4, (some .int), tableOf [(0, 9, 12, 21)], "writeCard")
set_option maxHeartbeats 4000000 in
theorem w_writeCard {l : Launch} {G : GT} {n : Nat} {H : HT} {x bp u K : Nat} {s : SG} {o : Nat → Int64} (hW : GW H x bp n s) (hSB : SB K s) (hK : K + 30500 < 16000000) (hu : u < n) (hu2 : u < x ∨ x + 112 ≤ u) (hu3 : u ≠ bp) (hl : H u = lcell o) (v : Int32) : AM l G yL_writeCard (.codeWith yL_writeCard cL_writeCard 4 (some .int) [(0, 9, 12, 21)]) 11 660 12 360 [.ref x, .int v, .ref u] H n (LW9 x bp u H n (cardS s (qCard s.1 v)) ((qCard s.1 v).1) ((nI (qCard s.1 v).2.length))) := by
  refine aw_enterW (M := ML_writeCard) (hh := [(0, 9, 12, 21)]) rfl rfl (by decide +kernel) rfl (Nat.le_of_ble_eq_true rfl) ?_
  obtain ⟨h0, ⟨J, B, hst, hS⟩, -, -, -, ⟨T1, hk1⟩, ⟨T4, hk4⟩, -, ⟨Lc, hcd, hcl, hcx⟩, hox, hbx⟩ := id hW
  have hB := hSB.1
  show AW l G ML_writeCard 11 660 12 360 _ n 0 0 0 [(0, .ref x), (1, .int v), (2, .ref u)] [] _ n
  refine aw_aload_n dL_writeCard_0 rfl rfl ?_
  refine aw_iconst_n 0 dL_writeCard_1 (by decide) ?_
  refine aw_aload_n dL_writeCard_2 rfl rfl ?_
  refine aw_iload_n dL_writeCard_3 rfl rfl ?_
  have hA := g_writeCard (l := l) (G := G) hW hSB v
  refine aw_cC (as := [Value.int v]) (rest := [Value.int (nI 0), Value.ref u]) (MV.c mV_X10_writeCard) hA ml_L_119 (RC.w hW.1 rfl) dL_writeCard_4 rfl rfl (by decide) (Nat.le_of_ble_eq_true rfl) (by decide) (fun E f9 n9 hn h => ?_) (fun r f9 n9 hn h => ?_)
  · obtain ⟨hr, -, bp', hb', hG, hF⟩ := h
    obtain ⟨hc0, hE⟩ := xA_inr hr
    have hcm : (qCard s.1 v).1 ≤ 1 := by unfold qCard; (repeat' split) <;> exact Nat.le_of_ble_eq_true rfl
    have hu9 := hF u hu hu2 hu3
    have z : (qCard s.1 v).1 = 1 := by omega
    have hE2 : E = eIO := hE.trans (by rw [z]; rfl)
    subst hE2
    refine ax_catch (j := 3) (w := 1) [] ⟨0, 9, 12, 21⟩ [] rfl (fun z hz => nomatch hz) (by decide) (by decide) cl_L_21 (by simp [lw_nest]) (Or.inl ⟨3, rfl, dL_writeCard_12, rfl⟩) (by decide) (fun q hq => by simp only [List.mem_cons, List.not_mem_nil, or_false] at hq; rcases hq with rfl | rfl | rfl <;> exact ⟨Nat.ne_of_beq_eq_false rfl, fun _ => Nat.ne_of_beq_eq_false rfl⟩) ?_
    refine aw_iconst_n 1 dL_writeCard_13 (by decide) ?_
    exact aw_iret rfl (by decide) (by decide) dL_writeCard_14 ⟨by rw [z], hn, bp', o, hb', hG, hu9.trans hl, fun y => absurd y hc0, fun a h1 h2 h3 _ => hF a h1 h2 h3⟩
  obtain ⟨hr, -, bp', hb', hG, hF⟩ := h
  obtain ⟨hc0, hrv⟩ := xA_inl hr
  subst hrv
  have hu9 := hF u hu hu2 hu3
  refine aw_i2l dL_writeCard_7 ?_
  refine aw_last (hu9.trans hl) (vp_in_nI (by decide) (by decide)) dL_writeCard_8 ?_
  refine aw_goto (tgt := 15) dL_writeCard_9 (by decide) ?_
  refine aw_iconst_n 0 dL_writeCard_15 (by decide) ?_
  exact aw_iret rfl (by decide) (by decide) dL_writeCard_16 ⟨by rw [hc0], hn, bp', _, hb', hG.fr (fun a h1 h2 => up_ne (by omega)) (up_ne (by omega)) (Nat.le_refl _), up_self, fun _ => updL_0, fun a h1 h2 h3 h4 => (up_ne h4).trans (hF a h1 h2 h3)⟩
abbrev ML_cardAt : MT := (RL, cL_cardAt, 4, (some .int), tableOf [(0, 9, 12, 21)], "cardAt")
set_option maxHeartbeats 4000000 in
theorem w_cardAt {l : Launch} {G : GT} {n : Nat} {H : HT} {x bp u K : Nat} {s : SG} {o : Nat → Int64} (hW : GW H x bp n s) (hSB : SB K s) (hK : K + 30500 < 16000000) (hu : u < n) (hu2 : u < x ∨ x + 112 ≤ u) (hu3 : u ≠ bp) (hl : H u = lcell o) (v : Int32) : AM l G yL_cardAt (.codeWith yL_cardAt cL_cardAt 4 (some .int) [(0, 9, 12, 21)]) 11 660 12 360 [.ref x, .int v, .ref u] H n (LW9 x bp u H n (s) ((qAt s v).1) ((nI (qAt s v).2))) := by
  refine aw_enterW (M := ML_cardAt) (hh := [(0, 9, 12, 21)]) rfl rfl (by decide +kernel) rfl (Nat.le_of_ble_eq_true rfl) ?_
  obtain ⟨h0, ⟨J, B, hst, hS⟩, -, -, -, ⟨T1, hk1⟩, ⟨T4, hk4⟩, -, ⟨Lc, hcd, hcl, hcx⟩, hox, hbx⟩ := id hW
  have hB := hSB.1
  have hc60 := hSB.2.2.2.2.2.2.1
  have hA9 := HQ.gx hW (g_cardAt (l := l) (G := G) h0 hst hS hB hcd v)
  rw [at_eq hcl hcx (by omega) v] at hA9
  show AW l G ML_cardAt 11 660 12 360 _ n 0 0 0 [(0, .ref x), (1, .int v), (2, .ref u)] [] _ n
  refine aw_aload_n dL_cardAt_0 rfl rfl ?_
  refine aw_iconst_n 0 dL_cardAt_1 (by decide) ?_
  refine aw_aload_n dL_cardAt_2 rfl rfl ?_
  refine aw_iload_n dL_cardAt_3 rfl rfl ?_
  have hA := hA9
  refine aw_cC (as := [Value.int v]) (rest := [Value.int (nI 0), Value.ref u]) (MV.c mV_X10_cardAt) hA ml_L_122 (RC.w hW.1 rfl) dL_cardAt_4 rfl rfl (by decide) (Nat.le_of_ble_eq_true rfl) (by decide) (fun E f9 n9 hn h => ?_) (fun r f9 n9 hn h => ?_)
  · obtain ⟨hr, -, bp', hb', hG, hF⟩ := h
    obtain ⟨hc0, hE⟩ := xA_inr hr
    have hcm : (qAt s v).1 ≤ 1 := by unfold qAt; (repeat' split) <;> exact Nat.le_of_ble_eq_true rfl
    have hu9 := hF u hu hu2 hu3
    have z : (qAt s v).1 = 1 := by omega
    have hE2 : E = eIO := hE.trans (by rw [z]; rfl)
    subst hE2
    refine ax_catch (j := 3) (w := 1) [] ⟨0, 9, 12, 21⟩ [] rfl (fun z hz => nomatch hz) (by decide) (by decide) cl_L_21 (by simp [lw_nest]) (Or.inl ⟨3, rfl, dL_cardAt_12, rfl⟩) (by decide) (fun q hq => by simp only [List.mem_cons, List.not_mem_nil, or_false] at hq; rcases hq with rfl | rfl | rfl <;> exact ⟨Nat.ne_of_beq_eq_false rfl, fun _ => Nat.ne_of_beq_eq_false rfl⟩) ?_
    refine aw_iconst_n 1 dL_cardAt_13 (by decide) ?_
    exact aw_iret rfl (by decide) (by decide) dL_cardAt_14 ⟨by rw [z], hn, bp', o, hb', hG, hu9.trans hl, fun y => absurd y hc0, fun a h1 h2 h3 _ => hF a h1 h2 h3⟩
  obtain ⟨hr, -, bp', hb', hG, hF⟩ := h
  obtain ⟨hc0, hrv⟩ := xA_inl hr
  subst hrv
  have hu9 := hF u hu hu2 hu3
  refine aw_i2l dL_cardAt_7 ?_
  refine aw_last (hu9.trans hl) (vp_in_nI (by decide) (by decide)) dL_cardAt_8 ?_
  refine aw_goto (tgt := 15) dL_cardAt_9 (by decide) ?_
  refine aw_iconst_n 0 dL_cardAt_15 (by decide) ?_
  exact aw_iret rfl (by decide) (by decide) dL_cardAt_16 ⟨by rw [hc0], hn, bp', _, hb', hG.fr (fun a h1 h2 => up_ne (by omega)) (up_ne (by omega)) (Nat.le_refl _), up_self, fun _ => updL_0, fun a h1 h2 h3 h4 => (up_ne h4).trans (hF a h1 h2 h3)⟩
abbrev ML_type : MT := (RL, cL_type, 4, (some .int), tableOf [(0, 9, 12, 13), (0, 9, 15, 15)], "type")
set_option maxHeartbeats 4000000 in
theorem w_type {l : Launch} {G : GT} {n : Nat} {H : HT} {x bp u K : Nat} {s : SG} {o : Nat → Int64} (hW : GW H x bp n s) (hSB : SB K s) (hK : K + 30500 < 16000000) (hu : u < n) (hu2 : u < x ∨ x + 112 ≤ u) (hu3 : u ≠ bp) (hl : H u = lcell o) (v : Int32) : AM l G yL_type (.codeWith yL_type cL_type 4 (some .int) [(0, 9, 12, 13), (0, 9, 15, 15)]) 11 660 12 360 [.ref x, .int v, .ref u] H n (LW9 x bp u H n (typS s v) ((qType s v).1) ((nI (qType s v).2))) := by
  refine aw_enterW (M := ML_type) (hh := [(0, 9, 12, 13), (0, 9, 15, 15)]) rfl rfl (by decide +kernel) rfl (Nat.le_of_ble_eq_true rfl) ?_
  obtain ⟨h0, ⟨J, B, hst, hS⟩, -, -, -, ⟨T1, hk1⟩, ⟨T4, hk4⟩, -, ⟨Lc, hcd, hcl, hcx⟩, hox, hbx⟩ := id hW
  have hB := hSB.1
  show AW l G ML_type 11 660 12 360 _ n 0 0 0 [(0, .ref x), (1, .int v), (2, .ref u)] [] _ n
  refine aw_aload_n dL_type_0 rfl rfl ?_
  refine aw_iconst_n 0 dL_type_1 (by decide) ?_
  refine aw_aload_n dL_type_2 rfl rfl ?_
  refine aw_iload_n dL_type_3 rfl rfl ?_
  have hA := g_type (l := l) (G := G) hW hSB v
  refine aw_cC (as := [Value.int v]) (rest := [Value.int (nI 0), Value.ref u]) (MV.c mV_X10_type) hA ml_L_126 (RC.w hW.1 rfl) dL_type_4 rfl rfl (by decide) (Nat.le_of_ble_eq_true rfl) (by decide) (fun E f9 n9 hn h => ?_) (fun r f9 n9 hn h => ?_)
  · obtain ⟨hr, -, bp', hb', hG, hF⟩ := h
    obtain ⟨hc0, hE⟩ := xA_inr hr
    have hcm : (qType s v).1 ≤ 2 := by unfold qType; (repeat' split) <;> exact Nat.le_of_ble_eq_true rfl
    have hu9 := hF u hu hu2 hu3
    rcases (by omega : (qType s v).1 = 1 ∨ (qType s v).1 = 2) with z | z
    · have hE2 : E = eIA := hE.trans (by rw [z]; rfl)
      subst hE2
      refine ax_catch (j := 3) (w := 1) [] ⟨0, 9, 12, 13⟩ [⟨0, 9, 15, 15⟩] rfl (fun z hz => nomatch hz) (by decide) (by decide) cl_L_13 (by simp [lw_nest]) (Or.inl ⟨3, rfl, dL_type_12, rfl⟩) (by decide) (fun q hq => by simp only [List.mem_cons, List.not_mem_nil, or_false] at hq; rcases hq with rfl | rfl | rfl <;> exact ⟨Nat.ne_of_beq_eq_false rfl, fun _ => Nat.ne_of_beq_eq_false rfl⟩) ?_
      refine aw_iconst_n 1 dL_type_13 (by decide) ?_
      exact aw_iret rfl (by decide) (by decide) dL_type_14 ⟨by rw [z], hn, bp', o, hb', hG, hu9.trans hl, fun y => absurd y hc0, fun a h1 h2 h3 _ => hF a h1 h2 h3⟩
    · have hE2 : E = eIS := hE.trans (by rw [z]; rfl)
      subst hE2
      refine ax_catch (j := 3) (w := 1) [⟨0, 9, 12, 13⟩] ⟨0, 9, 15, 15⟩ [] rfl (fun z hz => by
        simp only [tableOf, List.mem_cons, List.not_mem_nil, or_false] at hz
        rcases hz with rfl
        · exact ⟨by decide, eIA, cl_L_13, List.mem_of_getElem? (i := 1) rfl⟩) (by decide) (by decide) cl_L_15 (by simp [lw_nest]) (Or.inl ⟨3, rfl, dL_type_15, rfl⟩) (by decide) (fun q hq => by simp only [List.mem_cons, List.not_mem_nil, or_false] at hq; rcases hq with rfl | rfl | rfl <;> exact ⟨Nat.ne_of_beq_eq_false rfl, fun _ => Nat.ne_of_beq_eq_false rfl⟩) ?_
      refine aw_iconst_n 2 dL_type_16 (by decide) ?_
      exact aw_iret rfl (by decide) (by decide) dL_type_17 ⟨by rw [z], hn, bp', o, hb', hG, hu9.trans hl, fun y => absurd y hc0, fun a h1 h2 h3 _ => hF a h1 h2 h3⟩
  obtain ⟨hr, -, bp', hb', hG, hF⟩ := h
  obtain ⟨hc0, hrv⟩ := xA_inl hr
  subst hrv
  have hu9 := hF u hu hu2 hu3
  refine aw_i2l dL_type_7 ?_
  refine aw_last (hu9.trans hl) (vp_in_nI (by decide) (by decide)) dL_type_8 ?_
  refine aw_goto (tgt := 18) dL_type_9 (by decide) ?_
  refine aw_iconst_n 0 dL_type_18 (by decide) ?_
  exact aw_iret rfl (by decide) (by decide) dL_type_19 ⟨by rw [hc0], hn, bp', _, hb', hG.fr (fun a h1 h2 => up_ne (by omega)) (up_ne (by omega)) (Nat.le_refl _), up_self, fun _ => updL_0, fun a h1 h2 h3 h4 => (up_ne h4).trans (hF a h1 h2 h3)⟩
abbrev ML_execute : MT := (RL, cL_execute, 3, (some .int), tableOf [(0, 8, 11, 13), (0, 8, 14, 15)], "execute")
set_option maxHeartbeats 4000000 in
theorem w_execute {l : Launch} {G : GT} {n : Nat} {H : HT} {x bp u K : Nat} {s : SG} {o : Nat → Int64} (hW : GW H x bp n s) (hSB : SB K s) (hK : K + 30500 < 16000000) (hu : u < n) (hu2 : u < x ∨ x + 112 ≤ u) (hu3 : u ≠ bp) (hl : H u = lcell o)  : AM l G yL_execute (.codeWith yL_execute cL_execute 3 (some .int) [(0, 8, 11, 13), (0, 8, 14, 15)]) 11 660 12 360 [.ref x, .ref u] H n (LW9 x bp u H n ((qExe s).2.2) ((qExe s).1) ((nI (qExe s).2.1))) := by
  refine aw_enterW (M := ML_execute) (hh := [(0, 8, 11, 13), (0, 8, 14, 15)]) rfl rfl (by decide +kernel) rfl (Nat.le_of_ble_eq_true rfl) ?_
  obtain ⟨h0, ⟨J, B, hst, hS⟩, -, -, -, ⟨T1, hk1⟩, ⟨T4, hk4⟩, -, ⟨Lc, hcd, hcl, hcx⟩, hox, hbx⟩ := id hW
  have hB := hSB.1
  show AW l G ML_execute 11 660 12 360 _ n 0 0 0 [(0, .ref x), (1, .ref u)] [] _ n
  refine aw_aload_n dL_execute_0 rfl rfl ?_
  refine aw_iconst_n 0 dL_execute_1 (by decide) ?_
  refine aw_aload_n dL_execute_2 rfl rfl ?_
  have hA := g_execute (l := l) (G := G) hW hSB hK
  refine aw_cC (as := []) (rest := [Value.int (nI 0), Value.ref u]) (MV.c mV_X10_execute) hA ml_L_130 (RC.w hW.1 rfl) dL_execute_3 rfl rfl (by decide) (Nat.le_of_ble_eq_true rfl) (by decide) (fun E f9 n9 hn h => ?_) (fun r f9 n9 hn h => ?_)
  · obtain ⟨hr, -, bp', hb', hG, hF⟩ := h
    obtain ⟨hc0, hE⟩ := xA_inr hr
    have hcm : (qExe s).1 ≤ 2 := by unfold qExe exT exR; (repeat' split) <;> exact Nat.le_of_ble_eq_true rfl
    have hu9 := hF u hu hu2 hu3
    rcases (by omega : (qExe s).1 = 1 ∨ (qExe s).1 = 2) with z | z
    · have hE2 : E = eIA := hE.trans (by rw [z]; rfl)
      subst hE2
      refine ax_catch (j := 2) (w := 1) [] ⟨0, 8, 11, 13⟩ [⟨0, 8, 14, 15⟩] rfl (fun z hz => nomatch hz) (by decide) (by decide) cl_L_13 (by simp [lw_nest]) (Or.inl ⟨2, rfl, dL_execute_11, rfl⟩) (by decide) (fun q hq => by simp only [List.mem_cons, List.not_mem_nil, or_false] at hq; rcases hq with rfl | rfl <;> exact ⟨Nat.ne_of_beq_eq_false rfl, fun _ => Nat.ne_of_beq_eq_false rfl⟩) ?_
      refine aw_iconst_n 1 dL_execute_12 (by decide) ?_
      exact aw_iret rfl (by decide) (by decide) dL_execute_13 ⟨by rw [z], hn, bp', o, hb', hG, hu9.trans hl, fun y => absurd y hc0, fun a h1 h2 h3 _ => hF a h1 h2 h3⟩
    · have hE2 : E = eIS := hE.trans (by rw [z]; rfl)
      subst hE2
      refine ax_catch (j := 2) (w := 1) [⟨0, 8, 11, 13⟩] ⟨0, 8, 14, 15⟩ [] rfl (fun z hz => by
        simp only [tableOf, List.mem_cons, List.not_mem_nil, or_false] at hz
        rcases hz with rfl
        · exact ⟨by decide, eIA, cl_L_13, List.mem_of_getElem? (i := 1) rfl⟩) (by decide) (by decide) cl_L_15 (by simp [lw_nest]) (Or.inl ⟨2, rfl, dL_execute_14, rfl⟩) (by decide) (fun q hq => by simp only [List.mem_cons, List.not_mem_nil, or_false] at hq; rcases hq with rfl | rfl <;> exact ⟨Nat.ne_of_beq_eq_false rfl, fun _ => Nat.ne_of_beq_eq_false rfl⟩) ?_
      refine aw_iconst_n 2 dL_execute_15 (by decide) ?_
      exact aw_iret rfl (by decide) (by decide) dL_execute_16 ⟨by rw [z], hn, bp', o, hb', hG, hu9.trans hl, fun y => absurd y hc0, fun a h1 h2 h3 _ => hF a h1 h2 h3⟩
  obtain ⟨hr, -, bp', hb', hG, hF⟩ := h
  obtain ⟨hc0, hrv⟩ := xA_inl hr
  subst hrv
  have hu9 := hF u hu hu2 hu3
  refine aw_i2l dL_execute_6 ?_
  refine aw_last (hu9.trans hl) (vp_in_nI (by decide) (by decide)) dL_execute_7 ?_
  refine aw_goto (tgt := 17) dL_execute_8 (by decide) ?_
  refine aw_iconst_n 0 dL_execute_17 (by decide) ?_
  exact aw_iret rfl (by decide) (by decide) dL_execute_18 ⟨by rw [hc0], hn, bp', _, hb', hG.fr (fun a h1 h2 => up_ne (by omega)) (up_ne (by omega)) (Nat.le_refl _), up_self, fun _ => updL_0, fun a h1 h2 h3 h4 => (up_ne h4).trans (hF a h1 h2 h3)⟩
abbrev ML_errorPosition : MT := (RL, cL_errorPosition, 3, (some .int), tableOf [(0, 8, 11, 44)], "errorPosition")
set_option maxHeartbeats 4000000 in
theorem w_errorPosition {l : Launch} {G : GT} {n : Nat} {H : HT} {x bp u K : Nat} {s : SG} {o : Nat → Int64} (hW : GW H x bp n s) (hSB : SB K s) (hK : K + 30500 < 16000000) (hu : u < n) (hu2 : u < x ∨ x + 112 ≤ u) (hu3 : u ≠ bp) (hl : H u = lcell o)  : AM l G yL_errorPosition (.codeWith yL_errorPosition cL_errorPosition 3 (some .int) [(0, 8, 11, 44)]) 11 660 12 360 [.ref x, .ref u] H n (LW9 x bp u H n (s) ((qE s.2.2.2.2.1.1).1) (((qE s.2.2.2.2.1.1).2))) := by
  refine aw_enterW (M := ML_errorPosition) (hh := [(0, 8, 11, 44)]) rfl rfl (by decide +kernel) rfl (Nat.le_of_ble_eq_true rfl) ?_
  obtain ⟨h0, ⟨J, B, hst, hS⟩, -, -, -, ⟨T1, hk1⟩, ⟨T4, hk4⟩, -, ⟨Lc, hcd, hcl, hcx⟩, hox, hbx⟩ := id hW
  have hB := hSB.1
  show AW l G ML_errorPosition 11 660 12 360 _ n 0 0 0 [(0, .ref x), (1, .ref u)] [] _ n
  refine aw_aload_n dL_errorPosition_0 rfl rfl ?_
  refine aw_iconst_n 0 dL_errorPosition_1 (by decide) ?_
  refine aw_aload_n dL_errorPosition_2 rfl rfl ?_
  have hA := HQ.gx hW (g_errorPosition (l := l) (G := G) h0 hst hS hB )
  refine aw_cC (as := []) (rest := [Value.int (nI 0), Value.ref u]) (MV.c mV_X10_errorPosition) hA ml_L_133 (RC.w hW.1 rfl) dL_errorPosition_3 rfl rfl (by decide) (Nat.le_of_ble_eq_true rfl) (by decide) (fun E f9 n9 hn h => ?_) (fun r f9 n9 hn h => ?_)
  · obtain ⟨hr, -, bp', hb', hG, hF⟩ := h
    obtain ⟨hc0, hE⟩ := xA_inr hr
    have hcm : (qE s.2.2.2.2.1.1).1 ≤ 1 := by unfold qE; (repeat' split) <;> exact Nat.le_of_ble_eq_true rfl
    have hu9 := hF u hu hu2 hu3
    have z : (qE s.2.2.2.2.1.1).1 = 1 := by omega
    have hE2 : E = eNS := hE.trans (by rw [z]; rfl)
    subst hE2
    refine ax_catch (j := 2) (w := 1) [] ⟨0, 8, 11, 44⟩ [] rfl (fun z hz => nomatch hz) (by decide) (by decide) cl_L_44 (by simp [lw_nest]) (Or.inl ⟨2, rfl, dL_errorPosition_11, rfl⟩) (by decide) (fun q hq => by simp only [List.mem_cons, List.not_mem_nil, or_false] at hq; rcases hq with rfl | rfl <;> exact ⟨Nat.ne_of_beq_eq_false rfl, fun _ => Nat.ne_of_beq_eq_false rfl⟩) ?_
    refine aw_iconst_n 1 dL_errorPosition_12 (by decide) ?_
    exact aw_iret rfl (by decide) (by decide) dL_errorPosition_13 ⟨by rw [z], hn, bp', o, hb', hG, hu9.trans hl, fun y => absurd y hc0, fun a h1 h2 h3 _ => hF a h1 h2 h3⟩
  obtain ⟨hr, -, bp', hb', hG, hF⟩ := h
  obtain ⟨hc0, hrv⟩ := xA_inl hr
  subst hrv
  have hu9 := hF u hu hu2 hu3
  refine aw_i2l dL_errorPosition_6 ?_
  refine aw_last (hu9.trans hl) (vp_in_nI (by decide) (by decide)) dL_errorPosition_7 ?_
  refine aw_goto (tgt := 14) dL_errorPosition_8 (by decide) ?_
  refine aw_iconst_n 0 dL_errorPosition_14 (by decide) ?_
  exact aw_iret rfl (by decide) (by decide) dL_errorPosition_15 ⟨by rw [hc0], hn, bp', _, hb', hG.fr (fun a h1 h2 => up_ne (by omega)) (up_ne (by omega)) (Nat.le_refl _), up_self, fun _ => updL_0, fun a h1 h2 h3 h4 => (up_ne h4).trans (hF a h1 h2 h3)⟩
abbrev ML_failedCommand : MT := (RL, cL_failedCommand, 3, (some .int), tableOf [(0, 8, 11, 44)], "failedCommand")
set_option maxHeartbeats 4000000 in
theorem w_failedCommand {l : Launch} {G : GT} {n : Nat} {H : HT} {x bp u K : Nat} {s : SG} {o : Nat → Int64} (hW : GW H x bp n s) (hSB : SB K s) (hK : K + 30500 < 16000000) (hu : u < n) (hu2 : u < x ∨ x + 112 ≤ u) (hu3 : u ≠ bp) (hl : H u = lcell o)  : AM l G yL_failedCommand (.codeWith yL_failedCommand cL_failedCommand 3 (some .int) [(0, 8, 11, 44)]) 11 660 12 360 [.ref x, .ref u] H n (LW9 x bp u H n (s) ((qE s.2.2.2.2.1.2).1) (((qE s.2.2.2.2.1.2).2))) := by
  refine aw_enterW (M := ML_failedCommand) (hh := [(0, 8, 11, 44)]) rfl rfl (by decide +kernel) rfl (Nat.le_of_ble_eq_true rfl) ?_
  obtain ⟨h0, ⟨J, B, hst, hS⟩, -, -, -, ⟨T1, hk1⟩, ⟨T4, hk4⟩, -, ⟨Lc, hcd, hcl, hcx⟩, hox, hbx⟩ := id hW
  have hB := hSB.1
  show AW l G ML_failedCommand 11 660 12 360 _ n 0 0 0 [(0, .ref x), (1, .ref u)] [] _ n
  refine aw_aload_n dL_failedCommand_0 rfl rfl ?_
  refine aw_iconst_n 0 dL_failedCommand_1 (by decide) ?_
  refine aw_aload_n dL_failedCommand_2 rfl rfl ?_
  have hA := HQ.gx hW (g_failedCommand (l := l) (G := G) h0 hst hS hB )
  refine aw_cC (as := []) (rest := [Value.int (nI 0), Value.ref u]) (MV.c mV_X10_failedCommand) hA ml_L_136 (RC.w hW.1 rfl) dL_failedCommand_3 rfl rfl (by decide) (Nat.le_of_ble_eq_true rfl) (by decide) (fun E f9 n9 hn h => ?_) (fun r f9 n9 hn h => ?_)
  · obtain ⟨hr, -, bp', hb', hG, hF⟩ := h
    obtain ⟨hc0, hE⟩ := xA_inr hr
    have hcm : (qE s.2.2.2.2.1.2).1 ≤ 1 := by unfold qE; (repeat' split) <;> exact Nat.le_of_ble_eq_true rfl
    have hu9 := hF u hu hu2 hu3
    have z : (qE s.2.2.2.2.1.2).1 = 1 := by omega
    have hE2 : E = eNS := hE.trans (by rw [z]; rfl)
    subst hE2
    refine ax_catch (j := 2) (w := 1) [] ⟨0, 8, 11, 44⟩ [] rfl (fun z hz => nomatch hz) (by decide) (by decide) cl_L_44 (by simp [lw_nest]) (Or.inl ⟨2, rfl, dL_failedCommand_11, rfl⟩) (by decide) (fun q hq => by simp only [List.mem_cons, List.not_mem_nil, or_false] at hq; rcases hq with rfl | rfl <;> exact ⟨Nat.ne_of_beq_eq_false rfl, fun _ => Nat.ne_of_beq_eq_false rfl⟩) ?_
    refine aw_iconst_n 1 dL_failedCommand_12 (by decide) ?_
    exact aw_iret rfl (by decide) (by decide) dL_failedCommand_13 ⟨by rw [z], hn, bp', o, hb', hG, hu9.trans hl, fun y => absurd y hc0, fun a h1 h2 h3 _ => hF a h1 h2 h3⟩
  obtain ⟨hr, -, bp', hb', hG, hF⟩ := h
  obtain ⟨hc0, hrv⟩ := xA_inl hr
  subst hrv
  have hu9 := hF u hu hu2 hu3
  refine aw_i2l dL_failedCommand_6 ?_
  refine aw_last (hu9.trans hl) (vp_in_nI (by decide) (by decide)) dL_failedCommand_7 ?_
  refine aw_goto (tgt := 14) dL_failedCommand_8 (by decide) ?_
  refine aw_iconst_n 0 dL_failedCommand_14 (by decide) ?_
  exact aw_iret rfl (by decide) (by decide) dL_failedCommand_15 ⟨by rw [hc0], hn, bp', _, hb', hG.fr (fun a h1 h2 => up_ne (by omega)) (up_ne (by omega)) (Nat.le_refl _), up_self, fun _ => updL_0, fun a h1 h2 h3 h4 => (up_ne h4).trans (hF a h1 h2 h3)⟩
abbrev ML_undo : MT := (RL, cL_undo, 3, (some .int), tableOf [(0, 8, 11, 15)], "undo")
set_option maxHeartbeats 4000000 in
theorem w_undo {l : Launch} {G : GT} {n : Nat} {H : HT} {x bp u K : Nat} {s : SG} {o : Nat → Int64} (hW : GW H x bp n s) (hSB : SB K s) (hK : K + 30500 < 16000000) (hu : u < n) (hu2 : u < x ∨ x + 112 ≤ u) (hu3 : u ≠ bp) (hl : H u = lcell o)  : AM l G yL_undo (.codeWith yL_undo cL_undo 3 (some .int) [(0, 8, 11, 15)]) 11 660 12 360 [.ref x, .ref u] H n (LW9 x bp u H n (undS s) ((qUndo s).1) ((nI (qUndo s).2))) := by
  refine aw_enterW (M := ML_undo) (hh := [(0, 8, 11, 15)]) rfl rfl (by decide +kernel) rfl (Nat.le_of_ble_eq_true rfl) ?_
  obtain ⟨h0, ⟨J, B, hst, hS⟩, -, -, -, ⟨T1, hk1⟩, ⟨T4, hk4⟩, -, ⟨Lc, hcd, hcl, hcx⟩, hox, hbx⟩ := id hW
  have hB := hSB.1
  show AW l G ML_undo 11 660 12 360 _ n 0 0 0 [(0, .ref x), (1, .ref u)] [] _ n
  refine aw_aload_n dL_undo_0 rfl rfl ?_
  refine aw_iconst_n 0 dL_undo_1 (by decide) ?_
  refine aw_aload_n dL_undo_2 rfl rfl ?_
  have hA := g_undo (l := l) (G := G) hW hSB
  refine aw_cC (as := []) (rest := [Value.int (nI 0), Value.ref u]) (MV.c mV_X10_undo) hA ml_L_139 (RC.w hW.1 rfl) dL_undo_3 rfl rfl (by decide) (Nat.le_of_ble_eq_true rfl) (by decide) (fun E f9 n9 hn h => ?_) (fun r f9 n9 hn h => ?_)
  · obtain ⟨hr, -, bp', hb', hG, hF⟩ := h
    obtain ⟨hc0, hE⟩ := xA_inr hr
    have hcm : (qUndo s).1 ≤ 1 := by unfold qUndo; (repeat' split) <;> exact Nat.le_of_ble_eq_true rfl
    have hu9 := hF u hu hu2 hu3
    have z : (qUndo s).1 = 1 := by omega
    have hE2 : E = eIS := hE.trans (by rw [z]; rfl)
    subst hE2
    refine ax_catch (j := 2) (w := 1) [] ⟨0, 8, 11, 15⟩ [] rfl (fun z hz => nomatch hz) (by decide) (by decide) cl_L_15 (by simp [lw_nest]) (Or.inl ⟨2, rfl, dL_undo_11, rfl⟩) (by decide) (fun q hq => by simp only [List.mem_cons, List.not_mem_nil, or_false] at hq; rcases hq with rfl | rfl <;> exact ⟨Nat.ne_of_beq_eq_false rfl, fun _ => Nat.ne_of_beq_eq_false rfl⟩) ?_
    refine aw_iconst_n 1 dL_undo_12 (by decide) ?_
    exact aw_iret rfl (by decide) (by decide) dL_undo_13 ⟨by rw [z], hn, bp', o, hb', hG, hu9.trans hl, fun y => absurd y hc0, fun a h1 h2 h3 _ => hF a h1 h2 h3⟩
  obtain ⟨hr, -, bp', hb', hG, hF⟩ := h
  obtain ⟨hc0, hrv⟩ := xA_inl hr
  subst hrv
  have hu9 := hF u hu hu2 hu3
  refine aw_i2l dL_undo_6 ?_
  refine aw_last (hu9.trans hl) (vp_in_nI (by decide) (by decide)) dL_undo_7 ?_
  refine aw_goto (tgt := 14) dL_undo_8 (by decide) ?_
  refine aw_iconst_n 0 dL_undo_14 (by decide) ?_
  exact aw_iret rfl (by decide) (by decide) dL_undo_15 ⟨by rw [hc0], hn, bp', _, hb', hG.fr (fun a h1 h2 => up_ne (by omega)) (up_ne (by omega)) (Nat.le_refl _), up_self, fun _ => updL_0, fun a h1 h2 h3 h4 => (up_ne h4).trans (hF a h1 h2 h3)⟩
abbrev ML_restore : MT := (RL, cL_restore, 3, (some .int), tableOf [(0, 8, 11, 15)], "restore")
set_option maxHeartbeats 4000000 in
theorem w_restore {l : Launch} {G : GT} {n : Nat} {H : HT} {x bp u K : Nat} {s : SG} {o : Nat → Int64} (hW : GW H x bp n s) (hSB : SB K s) (hK : K + 30500 < 16000000) (hu : u < n) (hu2 : u < x ∨ x + 112 ≤ u) (hu3 : u ≠ bp) (hl : H u = lcell o)  : AM l G yL_restore (.codeWith yL_restore cL_restore 3 (some .int) [(0, 8, 11, 15)]) 11 660 12 360 [.ref x, .ref u] H n (LW9 x bp u H n (resS s) ((qRes s).1) ((nI (qRes s).2))) := by
  refine aw_enterW (M := ML_restore) (hh := [(0, 8, 11, 15)]) rfl rfl (by decide +kernel) rfl (Nat.le_of_ble_eq_true rfl) ?_
  obtain ⟨h0, ⟨J, B, hst, hS⟩, -, -, -, ⟨T1, hk1⟩, ⟨T4, hk4⟩, -, ⟨Lc, hcd, hcl, hcx⟩, hox, hbx⟩ := id hW
  have hB := hSB.1
  show AW l G ML_restore 11 660 12 360 _ n 0 0 0 [(0, .ref x), (1, .ref u)] [] _ n
  refine aw_aload_n dL_restore_0 rfl rfl ?_
  refine aw_iconst_n 0 dL_restore_1 (by decide) ?_
  refine aw_aload_n dL_restore_2 rfl rfl ?_
  have hA := g_restore (l := l) (G := G) hW hSB
  refine aw_cC (as := []) (rest := [Value.int (nI 0), Value.ref u]) (MV.c mV_X10_restore) hA ml_L_142 (RC.w hW.1 rfl) dL_restore_3 rfl rfl (by decide) (Nat.le_of_ble_eq_true rfl) (by decide) (fun E f9 n9 hn h => ?_) (fun r f9 n9 hn h => ?_)
  · obtain ⟨hr, -, bp', hb', hG, hF⟩ := h
    obtain ⟨hc0, hE⟩ := xA_inr hr
    have hcm : (qRes s).1 ≤ 1 := by unfold qRes; (repeat' split) <;> exact Nat.le_of_ble_eq_true rfl
    have hu9 := hF u hu hu2 hu3
    have z : (qRes s).1 = 1 := by omega
    have hE2 : E = eIS := hE.trans (by rw [z]; rfl)
    subst hE2
    refine ax_catch (j := 2) (w := 1) [] ⟨0, 8, 11, 15⟩ [] rfl (fun z hz => nomatch hz) (by decide) (by decide) cl_L_15 (by simp [lw_nest]) (Or.inl ⟨2, rfl, dL_restore_11, rfl⟩) (by decide) (fun q hq => by simp only [List.mem_cons, List.not_mem_nil, or_false] at hq; rcases hq with rfl | rfl <;> exact ⟨Nat.ne_of_beq_eq_false rfl, fun _ => Nat.ne_of_beq_eq_false rfl⟩) ?_
    refine aw_iconst_n 1 dL_restore_12 (by decide) ?_
    exact aw_iret rfl (by decide) (by decide) dL_restore_13 ⟨by rw [z], hn, bp', o, hb', hG, hu9.trans hl, fun y => absurd y hc0, fun a h1 h2 h3 _ => hF a h1 h2 h3⟩
  obtain ⟨hr, -, bp', hb', hG, hF⟩ := h
  obtain ⟨hc0, hrv⟩ := xA_inl hr
  subst hrv
  have hu9 := hF u hu hu2 hu3
  refine aw_i2l dL_restore_6 ?_
  refine aw_last (hu9.trans hl) (vp_in_nI (by decide) (by decide)) dL_restore_7 ?_
  refine aw_goto (tgt := 14) dL_restore_8 (by decide) ?_
  refine aw_iconst_n 0 dL_restore_14 (by decide) ?_
  exact aw_iret rfl (by decide) (by decide) dL_restore_15 ⟨by rw [hc0], hn, bp', _, hb', hG.fr (fun a h1 h2 => up_ne (by omega)) (up_ne (by omega)) (Nat.le_refl _), up_self, fun _ => updL_0, fun a h1 h2 h3 h4 => (up_ne h4).trans (hF a h1 h2 h3)⟩
