abbrev MX10_undo : MT := (RX10, cX10_undo, 1, (some .int), [], "undo")
set_option maxHeartbeats 4000000 in
theorem g_undo {l : Launch} {G : GT} {n : Nat} {H : HT} {x bp K : Nat} {s : SG} (hW : GW H x bp n s) (hSB : SB K s)  : AM l G yX10_undo (.code yX10_undo cX10_undo 1 (some .int)) 10 600 4 24 [.ref x] (H) n (GX [eIS] ((qUndo s).1) (.int (nI (qUndo s).2)) x bp H n (undS s)) := by
  refine aw_enter (M := MX10_undo) rfl rfl (by decide +kernel) rfl (Nat.le_of_ble_eq_true rfl) ?_
  obtain ⟨h0, ⟨J, B, hst, hS⟩, ⟨Jb, Bb, hbp⟩, ⟨Js, Bs, hsn, hSs⟩, ⟨a9, g9, ha9, hk9, q0, q1, qg, qs, qr⟩, ⟨T1, hk1⟩, ⟨T4, hk4⟩, ⟨Ip, Ap, gp, hpp, hTP⟩, ⟨Lc, hcd, hcl, hcx⟩, hox, hbx⟩ := id hW
  have hB := hSB.1
  show AW l G MX10_undo 10 600 4 24 _ n 0 0 0 [(0, .ref x)] [] _ n
  refine aw_aload_n dX10_undo_0 rfl rfl ?_
  refine aw_get (v := .ref (x + 28)) fl_X10_25 (h0) rfl dX10_undo_1 ?_
  refine aw_cI (as := []) (rest := []) (MV.c mV_X2_size) (h_size (q0) (q1)) ml_X10_349 (RC.w (q0) rfl) dX10_undo_4 rfl rfl (by decide) (Nat.le_of_ble_eq_true rfl) (by decide) ?_
  refine aw_if_ne_n (by omega) (tgt := 21) dX10_undo_7 (by decide) (fun c_1 => ?_) (fun c_1 => ?_)
  · refine aw_aload_n dX10_undo_21 rfl rfl ?_
    refine aw_get (v := .ref (x + 28)) fl_X10_25 (h0) rfl dX10_undo_22 ?_
    refine aw_aload_n dX10_undo_25 rfl rfl ?_
    refine aw_get (v := .ref (x + 1)) fl_X10_10 (h0) rfl dX10_undo_26 ?_
    obtain ⟨Jt, Bt, hsl, hSl⟩ := qr (s.2.1.1 - 1) (by omega)
    have ei : (a9 + 8 - s.2.1.1 + (s.2.1.1 - 1)) % 8 = (if 0 < a9 then a9 - 1 else 7) := by split <;> omega
    rw [ei] at hsl
    have hU := hSB.2.2.1 (s.2.1.1 - 1) (by omega)
    refine aw_cV (as := [Value.ref (x + 1)]) (rest := []) (MV.c mV_X2_takeBackInto) (h_take q0 q1 qg ha9 (by omega) hk9 hst (by omega) rfl hsl) ml_X10_354 (RC.w q0 rfl) dX10_undo_29 rfl rfl (by decide) (Nat.le_of_ble_eq_true rfl) (by decide) ?_
    refine aw_aload_n dX10_undo_32 rfl rfl ?_
    refine aw_get (v := .ref (x + 28)) fl_X10_25 ((up_ne (by omega)).trans ((rU_out (by omega)).trans h0)) rfl dX10_undo_33 ?_
    refine aw_cI (as := []) (rest := []) (MV.c mV_X2_size) (h_size (up_self) ((up_ne (by omega)).trans ((rU_out (by omega)).trans q1))) ml_X10_349 (RC.w (up_self) rfl) dX10_undo_36 rfl rfl (by decide) (Nat.le_of_ble_eq_true rfl) (by decide) ?_
    have hS2 : SV (cpJ Jt J) (cpB Bt B) (s.2.1.2 (s.2.1.1 - 1)) := hSl.copy9 hU.cnt hU.legs
    have hG := (hW.st hS2).hist (p := (s.2.1.1 - 1, s.2.1.2)) (fun a h => up_ne (by omega)) (hAt.pop (f := va_up (sU H (x + 1) (cpJ Jt J) (cpB Bt B)) (x + 28) (hcell (x + 28) (if 0 < a9 then a9 - 1 else 7) (s.2.1.1 - 1))) ha9 (by omega) hk9 rfl up_self q1 qg qs qr (fun a h1 h2 => (up_ne (by omega)).trans (rU_out (by omega))))
    refine aw_iret rfl (by decide) (by decide) dX10_undo_39 ⟨?_, Nat.le_refl _, bp, Or.inl rfl, ?_, fun a h1 h2 h3 => (up_ne (by omega)).trans (rU_out (by omega))⟩
    · have hq : qUndo s = (0, s.2.1.1 - 1) := if_neg (by omega)
      rw [hq]; rfl
    · have hu : undS s = (s.2.1.2 (s.2.1.1 - 1), (s.2.1.1 - 1, s.2.1.2), s.2.2) := if_neg (by omega)
      rw [hu]; exact hG
  · refine aw_throwX (is := 352) tw_ISE rfl (List.mem_of_getElem? (i := 19) rfl) dX10_undo_10 dX10_undo_13 (Or.inr ⟨dX10_undo_14, rfl⟩) dX10_undo_17 dX10_undo_20 (Nat.le_of_ble_eq_true rfl) (Nat.le_of_ble_eq_true rfl) (by decide) (by decide) ?_
    have hq : qUndo s = (1, 0) := if_pos (by omega)
    have hu : undS s = s := if_pos (by omega)
    rw [hq, hu]
    exact GX.bad hW rfl
abbrev MX10_save : MT := (RX10, cX10_save, 1, (some .int), [], "save")
set_option maxHeartbeats 4000000 in
theorem g_save {l : Launch} {G : GT} {n : Nat} {H : HT} {x bp K : Nat} {s : SG} (hW : GW H x bp n s) (hSB : SB K s)  : AM l G yX10_save (.code yX10_save cX10_save 1 (some .int)) 10 600 4 24 [.ref x] (H) n (GX [] (0) (.int (nI (s.1 0))) x bp H n (savS s)) := by
  refine aw_enter (M := MX10_save) rfl rfl (by decide +kernel) rfl (Nat.le_of_ble_eq_true rfl) ?_
  obtain ⟨h0, ⟨J, B, hst, hS⟩, ⟨Jb, Bb, hbp⟩, ⟨Js, Bs, hsn, hSs⟩, ⟨a9, g9, ha9, hk9, q0, q1, qg, qs, qr⟩, ⟨T1, hk1⟩, ⟨T4, hk4⟩, ⟨Ip, Ap, gp, hpp, hTP⟩, ⟨Lc, hcd, hcl, hcx⟩, hox, hbx⟩ := id hW
  have hB := hSB.1
  show AW l G MX10_save 10 600 4 24 _ n 0 0 0 [(0, .ref x)] [] _ n
  refine aw_aload_n dX10_save_0 rfl rfl ?_
  refine aw_get (v := .ref (x + 19)) fl_X10_19 (h0) rfl dX10_save_1 ?_
  refine aw_aload_n dX10_save_4 rfl rfl ?_
  refine aw_get (v := .ref (x + 1)) fl_X10_10 (h0) rfl dX10_save_5 ?_
  refine aw_cV (as := [Value.ref (x + 1)]) (rest := []) (MV.c mV_X8_copyFrom) (s_copyH hsn hst (by omega)) ml_X10_334 (RC.w hsn.obj rfl) dX10_save_8 rfl rfl (by decide) (Nat.le_of_ble_eq_true rfl) (by decide) ?_
  refine aw_aload_n dX10_save_11 rfl rfl ?_
  refine aw_iconst_n 1 dX10_save_12 (by decide) ?_
  refine aw_put fp_X10_57 ((rU_out (by omega)).trans (h0)) (fun _ => rfl) (fun _ => rfl) (Nat.le_of_ble_eq_true rfl) dX10_save_13 ?_
  refine aw_aload_n dX10_save_16 rfl rfl ?_
  refine aw_get (v := .ref (x + 1)) fl_X10_10 (up_self) rfl dX10_save_17 ?_
  refine aw_get (v := .int (J 10)) fl_X10_143 ((up_ne (by omega)).trans ((rU_out (by omega)).trans hst.obj)) rfl dX10_save_20 ?_
  rw [hS.now]
  have hS2 : SV (cpJ J Js) (cpB B Bs) s.1 := hS.copy9 hB.cnt hB.legs
  have e9 : ∀ a (c : va_E), a ≠ x → (a < x + 19 ∨ x + 28 ≤ a) → va_up (sU H (x + 19) (cpJ J Js) (cpB B Bs)) x c a = H a := fun a c h1 h2 => (up_ne h1).trans (rU_out (by omega))
  refine aw_iret rfl (by decide) (by decide) dX10_save_23 ⟨rfl, Nat.le_refl _, bp, Or.inl rfl, ?_, fun a h1 h2 h3 => e9 a _ (by omega) (by omega)⟩
  refine hW.mk9 (s' := savS s) (lo := x) (hi := x + 28) (by omega) (by omega) (fun a h => e9 a _ (by omega) (by omega)) up_self (Or.inl ⟨J, B, hst.fr (fun a _ _ => e9 a _ (by omega) (by omega)), hS⟩) (Or.inl ⟨Jb, Bb, hbp.fr (fun a _ _ => e9 a _ (by omega) (by omega))⟩) (Or.inl ⟨_, _, sAt.new.up (by omega), fun _ => hS2⟩) (Or.inr ⟨rfl, by omega⟩) (Or.inr (by omega)) (Or.inr (by omega)) (Or.inr ⟨rfl, by omega⟩) ⟨rfl, by omega⟩
abbrev MX10_restore : MT := (RX10, cX10_restore, 1, (some .int), [], "restore")
set_option maxHeartbeats 4000000 in
theorem g_restore {l : Launch} {G : GT} {n : Nat} {H : HT} {x bp K : Nat} {s : SG} (hW : GW H x bp n s) (hSB : SB K s)  : AM l G yX10_restore (.code yX10_restore cX10_restore 1 (some .int)) 10 600 4 24 [.ref x] (H) n (GX [eIS] ((qRes s).1) (.int (nI (qRes s).2)) x bp H n (resS s)) := by
  refine aw_enter (M := MX10_restore) rfl rfl (by decide +kernel) rfl (Nat.le_of_ble_eq_true rfl) ?_
  obtain ⟨h0, ⟨J, B, hst, hS⟩, ⟨Jb, Bb, hbp⟩, ⟨Js, Bs, hsn, hSs⟩, ⟨a9, g9, ha9, hk9, q0, q1, qg, qs, qr⟩, ⟨T1, hk1⟩, ⟨T4, hk4⟩, ⟨Ip, Ap, gp, hpp, hTP⟩, ⟨Lc, hcd, hcl, hcx⟩, hox, hbx⟩ := id hW
  have hB := hSB.1
  show AW l G MX10_restore 10 600 4 24 _ n 0 0 0 [(0, .ref x)] [] _ n
  refine aw_aload_n dX10_restore_0 rfl rfl ?_
  refine aw_get (v := .int (bI s.2.2.1.1)) fl_X10_57 (h0) rfl dX10_restore_1 ?_
  refine aw_if_ne_b (tgt := 18) dX10_restore_4 (by decide) (fun c_1 => ?_) (fun c_1 => ?_)
  · refine aw_aload_n dX10_restore_18 rfl rfl ?_
    refine aw_get (v := .ref (x + 1)) fl_X10_10 (h0) rfl dX10_restore_19 ?_
    refine aw_aload_n dX10_restore_22 rfl rfl ?_
    refine aw_get (v := .ref (x + 19)) fl_X10_19 (h0) rfl dX10_restore_23 ?_
    refine aw_cV (as := [Value.ref (x + 19)]) (rest := []) (MV.c mV_X8_copyFrom) (s_copyH hst hsn (by omega)) ml_X10_334 (RC.w hst.obj rfl) dX10_restore_26 rfl rfl (by decide) (Nat.le_of_ble_eq_true rfl) (by decide) ?_
    refine aw_aload_n dX10_restore_29 rfl rfl ?_
    refine aw_get (v := .ref (x + 28)) fl_X10_25 ((rU_out (by omega)).trans (h0)) rfl dX10_restore_30 ?_
    refine aw_cV (as := []) (rest := []) (MV.c mV_X2_forget) (h_forget ((rU_out (by omega)).trans q0) ((rU_out (by omega)).trans q1)) ml_X10_359 (RC.w ((rU_out (by omega)).trans q0) rfl) dX10_restore_33 rfl rfl (by decide) (Nat.le_of_ble_eq_true rfl) (by decide) ?_
    have hV := hSB.2.2.2.1 c_1
    have hS2 : SV (cpJ Js J) (cpB Bs B) s.2.2.1.2 := (hSs c_1).copy9 hV.cnt hV.legs
    have hst3 : sAt (va_up (sU H (x + 1) (cpJ Js J) (cpB Bs B)) (x + 28) (hcell (x + 28) a9 0)) (x + 1) (cpJ Js J) (cpB Bs B) := sAt.new.up (by omega)
    refine aw_aload_n dX10_restore_36 rfl rfl ?_
    refine aw_get (v := .ref (x + 1)) fl_X10_10 ((up_ne (by omega)).trans ((rU_out (by omega)).trans (h0))) rfl dX10_restore_37 ?_
    refine aw_get (v := .int (cpJ Js J 10)) fl_X10_143 (hst3.obj) rfl dX10_restore_40 ?_
    rw [hS2.now]
    have hG := (hW.st hS2).hist (f := va_up (sU H (x + 1) (cpJ Js J) (cpB Bs B)) (x + 28) (hcell (x + 28) a9 0)) (p := (0, s.2.1.2)) (fun a h => up_ne (by omega)) ⟨a9, g9, ha9, by omega, up_self, (up_ne (by omega)).trans ((rU_out (by omega)).trans q1), qg, fun i hi => by
      obtain ⟨Jt, Bt, h9⟩ := qs i hi
      exact ⟨Jt, Bt, h9.fr fun a h1 h2 => (up_ne (by omega)).trans (rU_out (by omega))⟩, fun j hj => absurd hj (Nat.not_lt_zero _)⟩
    refine aw_iret rfl (by decide) (by decide) dX10_restore_43 ⟨?_, Nat.le_refl _, bp, Or.inl rfl, ?_, fun a h1 h2 h3 => (up_ne (by omega)).trans (rU_out (by omega))⟩
    · have hq : qRes s = (0, s.2.2.1.2 0) := if_pos c_1
      rw [hq]; rfl
    · have hu : resS s = (s.2.2.1.2, (0, s.2.1.2), s.2.2) := if_pos c_1
      rw [hu]; exact hG
  · refine aw_throwX (is := 357) tw_ISE rfl (List.mem_of_getElem? (i := 20) rfl) dX10_restore_7 dX10_restore_10 (Or.inr ⟨dX10_restore_11, rfl⟩) dX10_restore_14 dX10_restore_17 (Nat.le_of_ble_eq_true rfl) (Nat.le_of_ble_eq_true rfl) (by decide) (by decide) ?_
    have z : ¬ s.2.2.1.1 = true := by rw [c_1]; decide
    have hq : qRes s = (1, 0) := if_neg z
    have hu : resS s = s := if_neg z
    rw [hq, hu]
    exact GX.bad hW rfl
abbrev MX10_type : MT := (RX10, cX10_type, 2, (some .int), [], "type")
set_option maxHeartbeats 4000000 in
theorem g_type {l : Launch} {G : GT} {n : Nat} {H : HT} {x bp K : Nat} {s : SG} (hW : GW H x bp n s) (hSB : SB K s) (v : Int32) : AM l G yX10_type (.code yX10_type cX10_type 2 (some .int)) 10 600 4 24 [.ref x, .int v] (H) n (GX [eIA, eIS] ((qType s v).1) (.int (nI (qType s v).2)) x bp H n (typS s v)) := by
  refine aw_enter (M := MX10_type) rfl rfl (by decide +kernel) rfl (Nat.le_of_ble_eq_true rfl) ?_
  obtain ⟨h0, ⟨J, B, hst, hS⟩, ⟨Jb, Bb, hbp⟩, ⟨Js, Bs, hsn, hSs⟩, ⟨a9, g9, ha9, hk9, q0, q1, qg, qs, qr⟩, ⟨T1, hk1⟩, ⟨T4, hk4⟩, ⟨Ip, Ap, gp, hpp, hTP⟩, ⟨Lc, hcd, hcl, hcx⟩, hox, hbx⟩ := id hW
  have hB := hSB.1
  show AW l G MX10_type 10 600 4 24 _ n 0 0 0 [(0, .ref x), (1, .int v)] [] _ n
  refine aw_iload_n dX10_type_0 rfl rfl ?_
  refine aw_bipush_n 32 dX10_type_1 (by decide) ?_
  refine aw_icmp_lt (tgt := 12) dX10_type_3 (by decide) (fun c_1 => ?_) (fun c_1 => ?_)
  · refine aw_throwX (is := 309) tw_IAE rfl (List.mem_of_getElem? (i := 21) rfl) dX10_type_12 dX10_type_15 (Or.inr ⟨dX10_type_16, rfl⟩) dX10_type_19 dX10_type_22 (Nat.le_of_ble_eq_true rfl) (Nat.le_of_ble_eq_true rfl) (by decide) (by decide) ?_
    have hin : ¬ inB v (nI 32) (nI 126) = true := fun z => by
      simp only [inB, Bool.and_eq_true, decide_eq_true_eq] at z
      first | exact absurd z.1 (Int32.not_le.mpr c_1) | exact c_2 z.2 | exact absurd z.2 (Int32.not_le.mpr c_2)
    have hq : qType s v = (1, 0) := if_neg hin
    have hu : typS s v = s := by unfold typS; rw [hq]; rfl
    rw [hq, hu]
    exact GX.bad hW rfl
  · refine aw_iload_n dX10_type_6 rfl rfl ?_
    refine aw_bipush_n 126 dX10_type_7 (by decide) ?_
    refine aw_icmp_le (tgt := 23) dX10_type_9 (by decide) (fun c_2 => ?_) (fun c_2 => ?_)
    · have hin : inB v (nI 32) (nI 126) = true := by simp only [inB, Bool.and_eq_true, decide_eq_true_eq]; exact ⟨Int32.not_lt.mp c_1, c_2⟩
      obtain ⟨c, hc1, hc2, rfl⟩ := inB_of (by decide) (by decide) hin
      have nc9 := nIc (show c < 2 ^ 31 by omega)
      refine aw_aload_n dX10_type_23 rfl rfl ?_
      refine aw_get (v := .ref (x + 106)) fl_X10_46 (h0) rfl dX10_type_24 ?_
      have hq := p_full (l := l) (G := G) (n := n) (f := H) (o := x + 106) (g := gp) hTP
      rw [hpp.self] at hq
      refine aw_cI (as := []) (rest := []) (MV.c mV_X5_isFull) hq ml_X10_311 (RC.w hpp.obj rfl) dX10_type_27 rfl rfl (by decide) (Nat.le_of_ble_eq_true rfl) (by decide) ?_
      refine aw_if_eq_b (tgt := 44) dX10_type_30 (by decide) (fun c_3 => ?_) (fun c_3 => ?_)
      · refine aw_aload_n dX10_type_44 rfl rfl ?_
        refine aw_get (v := .ref (x + 106)) fl_X10_46 (h0) rfl dX10_type_45 ?_
        refine aw_iload_n dX10_type_48 rfl rfl ?_
        have h60 : s.2.2.2.1.1 < 60 := by have := of_decide_eq_false c_3; omega
        have hq := p_append (l := l) (G := G) (n := n) (f := H) (o := x + 106) (g := gp) hTP (c := c) (by omega) h60
        rw [hpp.self] at hq
        refine aw_cI (as := [Value.int (nI c)]) (rest := []) (MV.c mV_X5_append) hq ml_X10_320 (RC.w hpp.obj rfl) dX10_type_49 rfl rfl (by decide) (Nat.le_of_ble_eq_true rfl) (by decide) ?_
        have hq : qType s (nI c) = (0, s.2.2.2.1.1 + 1) := by unfold qType; rw [if_pos hin, if_neg (by omega)]
        have hu : typS s (nI c) = (s.1, s.2.1, s.2.2.1, (s.2.2.2.1.1 + 1, va_up s.2.2.2.1.2 s.2.2.2.1.1 c), s.2.2.2.2) := by unfold typS; rw [hq, nc9]; rfl
        refine aw_iret rfl (by decide) (by decide) dX10_type_52 ⟨by rw [hq]; rfl, Nat.le_refl _, bp, Or.inl rfl, ?_, fun a h1 h2 h3 => rU_out (by omega)⟩
        rw [hu]
        refine hW.mk9 (lo := x + 106) (hi := x + 111) (by omega) (by omega) (fun a h => rU_out (by omega)) ((rU_out (by omega)).trans h0) (Or.inr ⟨rfl, by omega⟩) (Or.inr (by omega)) (Or.inr ⟨rfl, by omega⟩) (Or.inr ⟨rfl, by omega⟩) (Or.inr (by omega)) (Or.inr (by omega)) (Or.inl ⟨_, _, _, pAt.new, up_self, h60, fun i hi => ?_, fun i hi => ?_⟩) ⟨rfl, by omega⟩
        · have hi : i < s.2.2.2.1.1 + 1 := hi
          rw [up_self]
          by_cases z : i = s.2.2.2.1.1
          · show upd (Ap 0) _ _ i = nI (va_up s.2.2.2.1.2 _ c i); rw [z, pk_us, up_self]
          · show upd (Ap 0) _ _ i = nI (va_up s.2.2.2.1.2 _ c i); rw [pk_un z, up_ne z]; exact hTP.2.2.1 i (by omega)
        · have hi : i < s.2.2.2.1.1 + 1 := hi
          by_cases z : i = s.2.2.2.1.1
          · show 32 ≤ va_up s.2.2.2.1.2 _ c i ∧ va_up s.2.2.2.1.2 _ c i ≤ 126; rw [z, up_self]; exact ⟨hc1, hc2⟩
          · show 32 ≤ va_up s.2.2.2.1.2 _ c i ∧ va_up s.2.2.2.1.2 _ c i ≤ 126; rw [up_ne z]; exact hTP.2.2.2 i (by omega)
      · refine aw_throwX (is := 317) tw_ISE rfl (List.mem_of_getElem? (i := 22) rfl) dX10_type_33 dX10_type_36 (Or.inr ⟨dX10_type_37, rfl⟩) dX10_type_40 dX10_type_43 (Nat.le_of_ble_eq_true rfl) (Nat.le_of_ble_eq_true rfl) (by decide) (by decide) ?_
        have z := of_decide_eq_true c_3
        have z2 := hTP.2.1
        have hq : qType s (nI c) = (2, 0) := by unfold qType; rw [if_pos hin, if_pos (by omega)]
        have hu : typS s (nI c) = s := by unfold typS; rw [hq]; rfl
        rw [hq, hu]
        exact GX.bad hW rfl
    · refine aw_throwX (is := 309) tw_IAE rfl (List.mem_of_getElem? (i := 21) rfl) dX10_type_12 dX10_type_15 (Or.inr ⟨dX10_type_16, rfl⟩) dX10_type_19 dX10_type_22 (Nat.le_of_ble_eq_true rfl) (Nat.le_of_ble_eq_true rfl) (by decide) (by decide) ?_
      have hin : ¬ inB v (nI 32) (nI 126) = true := fun z => by
        simp only [inB, Bool.and_eq_true, decide_eq_true_eq] at z
        first | exact absurd z.1 (Int32.not_le.mpr c_1) | exact c_2 z.2 | exact absurd z.2 (Int32.not_le.mpr c_2)
      have hq : qType s v = (1, 0) := if_neg hin
      have hu : typS s v = s := by unfold typS; rw [hq]; rfl
      rw [hq, hu]
      exact GX.bad hW rfl
