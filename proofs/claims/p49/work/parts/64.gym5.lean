theorem GW.st {H : HT} {x bp n : Nat} {s : SG} {J' : Nat → Int32} {B' : Nat → Nat → Int32} {V' : Nat → Nat} (h : GW H x bp n s) (hS : SV J' B' V') : GW (sU H (x + 1) J' B') x bp n (V', s.2) :=
  h.mk9 (lo := x + 1) (hi := x + 10) (by omega) (by omega) (fun a ha => rU_out (by omega)) ((rU_out (by omega)).trans h.1) (Or.inl ⟨J', B', sAt.new, hS⟩) (Or.inr (by omega)) (Or.inr ⟨rfl, by omega⟩) (Or.inr ⟨rfl, by omega⟩) (Or.inr (by omega)) (Or.inr (by omega)) (Or.inr ⟨rfl, by omega⟩) ⟨rfl, by omega⟩
theorem GW.hist {H f : HT} {x bp n : Nat} {s : SG} {p : Nat × (Nat → Nat → Nat)} (h : GW H x bp n s) (e : ∀ a, (a < x + 28 ∨ x + 102 ≤ a) → f a = H a) (hh : hAt f (x + 28) p.1 p.2) : GW f x bp n (s.1, p, s.2.2) :=
  h.mk9 (lo := x + 28) (hi := x + 102) (by omega) (by omega) e ((e x (by omega)).trans h.1) (Or.inr ⟨rfl, by omega⟩) (Or.inr (by omega)) (Or.inr ⟨rfl, by omega⟩) (Or.inl hh) (Or.inr (by omega)) (Or.inr (by omega)) (Or.inr ⟨rfl, by omega⟩) ⟨rfl, by omega⟩
/-- the world behind a change that was kept -/
theorem GW.chg {H H2 : HT} {x bp n a9 K : Nat} {s : SG} {q : Nat × Nat × (Nat → Nat)} {g9 : Nat → Option Nat} {J J2 J' : Nat → Int32} {B B2 B' : Nat → Nat → Int32} (hW : GW H x bp n s) (c : q.1 = 0) (ha : a9 < 8) (hk : s.2.1.1 ≤ 8) (q1 : H (x + 28 + 1) = hring g9) (qg : ∀ i, i < 8 → g9 i = some (x + 28 + 2 + 9 * i)) (qs : ∀ i, i < 8 → ∃ (J : Nat → Int32) (B : Nat → Nat → Int32), sAt H (x + 28 + 2 + 9 * i) J B) (qr : ∀ j, j < s.2.1.1 → ∃ (J : Nat → Int32) (B : Nat → Nat → Int32), sAt H (x + 28 + 2 + 9 * ((a9 + 8 - s.2.1.1 + j) % 8)) J B ∧ SV J B (s.2.1.2 j))
    (hS : SV J B s.1) (hB : VB K s.1) (hH2 : H2 = va_up (sU H (x + 28 + 2 + 9 * a9) (cpJ J J2) (cpB B B2)) (x + 28) (hcell (x + 28) (if a9 + 1 < 8 then a9 + 1 else 0) (min (s.2.1.1 + 1) 8))) (hS' : SV J' B' q.2.2) : GW (sU H2 (x + 1) J' B') x bp n (opS s q) := by
  have hp := hAt.push ha hk q1 qg qs qr (hS.copy9 (J := J2) (B := B2) hB.cnt hB.legs) hH2
  have h1 := hW.hist (f := H2) (p := pushH s.2.1.1 s.2.1.2 s.1) (fun a h => by rw [hH2]; exact (up_ne (by omega)).trans (rU_out (by omega))) hp
  have h2 := h1.st hS'
  unfold opS; rw [if_pos c]
  exact h2
theorem GX.bad {es : List String} {c : Nat} {v : Value} {x bp n : Nat} {H : HT} {s : SG} {r : Option Value ⊕ String} (hW : GW H x bp n s) (h : r = xA es c v) : GX es c v x bp H n s r H n := ⟨h, Nat.le_refl _, bp, Or.inl rfl, hW, fun _ _ _ _ => rfl⟩
theorem es2_at {c : Nat} (h : c ≠ 0) : [eIO, eIA, eIS].getD (c2 c - 1) "" = [eIA, eIS].getD (c - 1) "" := by
  unfold c2; rw [if_neg h]
  match c, h with
  | 1, _ => rfl
  | 2, _ => rfl
  | c + 3, _ => rfl
theorem es1_at {c : Nat} (h : c ≠ 0) (h1 : c ≤ 1) : [eIO, eIA, eIS].getD (c2 c - 1) "" = [eIA].getD (c - 1) "" := by
  have e : c = 1 := by omega
  subst e; rfl
theorem es3_at {c : Nat} (h : c ≠ 0) (h2 : c ≤ 2) : [eIO, eIA, eIS].getD (c3 c - 1) "" = [eIO, eIS].getD (c - 1) "" := by
  rcases (by omega : c = 1 ∨ c = 2) with e | e <;> (subst e; rfl)
theorem es0_at {c : Nat} (h : c ≠ 0) (h2 : c ≤ 1) : [eIO, eIA, eIS].getD (c - 1) "" = [eIO].getD (c - 1) "" := by
  have e : c = 1 := by omega
  subst e; rfl
theorem c2_0 {c : Nat} : c2 c = 0 ↔ c = 0 := by unfold c2; split <;> omega
theorem c3_0 {c : Nat} : c3 c = 0 ↔ c = 0 := by unfold c3; split <;> omega
abbrev MX10_addPendulum : MT := (RX10, cX10_addPendulum, 2, (some .int), [], "addPendulum")
set_option maxHeartbeats 4000000 in
theorem g_addPendulum {l : Launch} {G : GT} {n : Nat} {H : HT} {x bp K : Nat} {s : SG} (hW : GW H x bp n s) (hB : VB K s.1) (v : Int32) : AM l G yX10_addPendulum (.code yX10_addPendulum cX10_addPendulum 2 (some .int)) 10 600 4 24 [.ref x, .int v] (H) n (GX [eIA, eIS] ((opAdd s.1 v).1) (.int (nI (opAdd s.1 v).2.1)) x bp H n (opS s (opAdd s.1 v))) := by
  refine aw_enter (M := MX10_addPendulum) rfl rfl (by decide +kernel) rfl (Nat.le_of_ble_eq_true rfl) ?_
  obtain ⟨h0, ⟨J, B, hst, hS⟩, ⟨Jb, Bb, hbp⟩, ⟨Js, Bs, hsn, hSs⟩, ⟨a9, g9, ha9, hk9, q0, q1, qg, qs, qr⟩, ⟨T1, hk1⟩, ⟨T4, hk4⟩, ⟨Ip, Ap, gp, hpp, hTP⟩, ⟨Lc, hcd, hcl, hcx⟩, hox, hbx⟩ := id hW
  have hlt : (opAdd s.1 v).1 ≤ 2 := by unfold opAdd; (repeat' split) <;> exact Nat.le_of_ble_eq_true rfl
  show AW l G MX10_addPendulum 10 600 4 24 _ n 0 0 0 [(0, .ref x), (1, .int v)] [] _ n
  refine aw_aload_n dX10_addPendulum_0 rfl rfl ?_
  refine aw_get (v := .ref (x + 1)) fl_X10_10 (h0) rfl dX10_addPendulum_1 ?_
  refine aw_iload_n dX10_addPendulum_4 rfl rfl ?_
  have hq_5 := s_rfHang (l := l) (G := G) (n := n) (f := H) (o := x + 1) hS hB v
  rw [hst.self] at hq_5
  refine aw_cI (as := [Value.int v]) (rest := []) (MV.c mV_X8_refusalToHang) hq_5 ml_X10_68 (RC.w hst.obj rfl) dX10_addPendulum_5 rfl rfl (by decide) (Nat.le_of_ble_eq_true rfl) (by decide) ?_
  rcases Classical.em (¬ ((opAdd s.1 v).1 = 0)) with e_1 | e_1
  · have hq := g_ref (l := l) (G := G) (n := n) (H := H) (c := c2 (opAdd s.1 v).1) (by unfold c2; split <;> omega)
    rw [if_neg (fun z => e_1 (c2_0.mp z))] at hq
    refine aw_sX (as := [Value.int (nI (c2 (opAdd s.1 v).1))]) (rest := []) mS_X10_throwIfRefused hq ml_X10_72 dX10_addPendulum_8 rfl rfl (by decide) (Nat.le_of_ble_eq_true rfl) (by decide) rfl ?_
    have ho : opS s (opAdd s.1 v) = s := if_neg e_1
    rw [ho]
    exact GX.bad hW (by rw [xA, if_neg e_1, es2_at e_1])
  have e_1 := Classical.not_not.mp e_1
  have hq := g_ref (l := l) (G := G) (n := n) (H := H) (c := c2 (opAdd s.1 v).1) (by unfold c2; split <;> omega)
  rw [if_pos (c2_0.mpr e_1)] at hq
  refine aw_sV (as := [Value.int (nI (c2 (opAdd s.1 v).1))]) (rest := []) mS_X10_throwIfRefused (HQ.v hq) ml_X10_72 dX10_addPendulum_8 rfl rfl (by decide) (Nat.le_of_ble_eq_true rfl) (by decide) ?_
  refine aw_aload_n dX10_addPendulum_11 rfl rfl ?_
  refine aw_get (v := .ref (x + 28)) fl_X10_25 (h0) rfl dX10_addPendulum_12 ?_
  refine aw_aload_n dX10_addPendulum_15 rfl rfl ?_
  refine aw_get (v := .ref (x + 1)) fl_X10_10 (h0) rfl dX10_addPendulum_16 ?_
  obtain ⟨Jt, Bt, hsl⟩ := qs a9 ha9
  refine aw_cV (as := [Value.ref (x + 1)]) (rest := []) (MV.c mV_X2_keep) (h_keep q0 q1 qg ha9 hk9 hst (by omega) hsl) ml_X10_76 (RC.w q0 rfl) dX10_addPendulum_19 rfl rfl (by decide) (Nat.le_of_ble_eq_true rfl) (by decide) ?_
  obtain ⟨H2, hH2⟩ : ∃ g, g = va_up (sU H (x + 28 + 2 + 9 * a9) (cpJ J Jt) (cpB B Bt)) (x + 28) (hcell (x + 28) (if a9 + 1 < 8 then a9 + 1 else 0) (min (s.2.1.1 + 1) 8)) := ⟨_, rfl⟩
  refine aw_hh hH2.symm rfl ?_
  have e2 : ∀ a, (a < x + 28 ∨ x + 102 ≤ a) → H2 a = H a := fun a h => by rw [hH2]; exact (up_ne (by omega)).trans (rU_out (by omega))
  have hst2 := hst.fr (f := H2) (fun a _ _ => e2 a (by omega))
  refine aw_aload_n dX10_addPendulum_22 rfl rfl ?_
  refine aw_get (v := .ref (x + 1)) fl_X10_10 ((e2 x (by omega)).trans h0) rfl dX10_addPendulum_23 ?_
  refine aw_iload_n dX10_addPendulum_26 rfl rfl ?_
  have hq_o := s_hang (l := l) (G := G) (n := n) (f := H2) (o := x + 1) hS hB v
  rw [hst2.self] at hq_o
  refine aw_cP (as := [Value.int v]) (rest := []) (MV.c mV_X8_hang) hq_o ml_X10_80 (RC.w hst2.obj rfl) dX10_addPendulum_27 rfl rfl (by decide) (Nat.le_of_ble_eq_true rfl) (by decide) (fun _ _ _ h => by cases h.1) (fun r9 f9 n9 _ h => ?_)
  obtain ⟨h1, h2, J', B', h3, hS'⟩ := h
  cases h1; subst h2; subst h3
  exact aw_iret rfl (by decide) (by decide) dX10_addPendulum_30 ⟨by rw [xA, if_pos e_1, if_pos e_1], Nat.le_refl _, bp, Or.inl rfl, hW.chg e_1 ha9 hk9 q1 qg qs qr hS hB hH2 hS', fun a h1 h2 h3 => (rU_out (by omega)).trans (e2 a (by omega))⟩
abbrev MX10_push : MT := (RX10, cX10_push, 3, (some .int), [], "push")
set_option maxHeartbeats 4000000 in
theorem g_push {l : Launch} {G : GT} {n : Nat} {H : HT} {x bp K : Nat} {s : SG} (hW : GW H x bp n s) (hB : VB K s.1) (v u : Int32) : AM l G yX10_push (.code yX10_push cX10_push 3 (some .int)) 10 600 4 24 [.ref x, .int v, .int u] (H) n (GX [eIO, eIA, eIS] ((opPush s.1 v u).1) (.int (nI (opPush s.1 v u).2.1)) x bp H n (opS s (opPush s.1 v u))) := by
  refine aw_enter (M := MX10_push) rfl rfl (by decide +kernel) rfl (Nat.le_of_ble_eq_true rfl) ?_
  obtain ⟨h0, ⟨J, B, hst, hS⟩, ⟨Jb, Bb, hbp⟩, ⟨Js, Bs, hsn, hSs⟩, ⟨a9, g9, ha9, hk9, q0, q1, qg, qs, qr⟩, ⟨T1, hk1⟩, ⟨T4, hk4⟩, ⟨Ip, Ap, gp, hpp, hTP⟩, ⟨Lc, hcd, hcl, hcx⟩, hox, hbx⟩ := id hW
  have hlt : (opPush s.1 v u).1 ≤ 3 := by unfold opPush; (repeat' split) <;> exact Nat.le_of_ble_eq_true rfl
  show AW l G MX10_push 10 600 4 24 _ n 0 0 0 [(0, .ref x), (1, .int v), (2, .int u)] [] _ n
  refine aw_aload_n dX10_push_0 rfl rfl ?_
  refine aw_get (v := .ref (x + 1)) fl_X10_10 (h0) rfl dX10_push_1 ?_
  refine aw_iload_n dX10_push_4 rfl rfl ?_
  refine aw_iload_n dX10_push_5 rfl rfl ?_
  have hq_6 := s_rfPush (l := l) (G := G) (n := n) (f := H) (o := x + 1) hS hB v u
  rw [hst.self] at hq_6
  refine aw_cI (as := [Value.int v, Value.int u]) (rest := []) (MV.c mV_X8_refusalToSwingUp) hq_6 ml_X10_83 (RC.w hst.obj rfl) dX10_push_6 rfl rfl (by decide) (Nat.le_of_ble_eq_true rfl) (by decide) ?_
  rcases Classical.em (¬ ((opPush s.1 v u).1 = 0)) with e_1 | e_1
  · have hq := g_ref (l := l) (G := G) (n := n) (H := H) (c := (opPush s.1 v u).1) (by omega)
    rw [if_neg (fun z => e_1 (z))] at hq
    refine aw_sX (as := [Value.int (nI ((opPush s.1 v u).1))]) (rest := []) mS_X10_throwIfRefused hq ml_X10_72 dX10_push_9 rfl rfl (by decide) (Nat.le_of_ble_eq_true rfl) (by decide) rfl ?_
    have ho : opS s (opPush s.1 v u) = s := if_neg e_1
    rw [ho]
    exact GX.bad hW (by rw [xA, if_neg e_1])
  have e_1 := Classical.not_not.mp e_1
  have hq := g_ref (l := l) (G := G) (n := n) (H := H) (c := (opPush s.1 v u).1) (by omega)
  rw [if_pos (e_1)] at hq
  refine aw_sV (as := [Value.int (nI ((opPush s.1 v u).1))]) (rest := []) mS_X10_throwIfRefused (HQ.v hq) ml_X10_72 dX10_push_9 rfl rfl (by decide) (Nat.le_of_ble_eq_true rfl) (by decide) ?_
  refine aw_aload_n dX10_push_12 rfl rfl ?_
  refine aw_get (v := .ref (x + 28)) fl_X10_25 (h0) rfl dX10_push_13 ?_
  refine aw_aload_n dX10_push_16 rfl rfl ?_
  refine aw_get (v := .ref (x + 1)) fl_X10_10 (h0) rfl dX10_push_17 ?_
  obtain ⟨Jt, Bt, hsl⟩ := qs a9 ha9
  refine aw_cV (as := [Value.ref (x + 1)]) (rest := []) (MV.c mV_X2_keep) (h_keep q0 q1 qg ha9 hk9 hst (by omega) hsl) ml_X10_76 (RC.w q0 rfl) dX10_push_20 rfl rfl (by decide) (Nat.le_of_ble_eq_true rfl) (by decide) ?_
  obtain ⟨H2, hH2⟩ : ∃ g, g = va_up (sU H (x + 28 + 2 + 9 * a9) (cpJ J Jt) (cpB B Bt)) (x + 28) (hcell (x + 28) (if a9 + 1 < 8 then a9 + 1 else 0) (min (s.2.1.1 + 1) 8)) := ⟨_, rfl⟩
  refine aw_hh hH2.symm rfl ?_
  have e2 : ∀ a, (a < x + 28 ∨ x + 102 ≤ a) → H2 a = H a := fun a h => by rw [hH2]; exact (up_ne (by omega)).trans (rU_out (by omega))
  have hst2 := hst.fr (f := H2) (fun a _ _ => e2 a (by omega))
  refine aw_aload_n dX10_push_23 rfl rfl ?_
  refine aw_get (v := .ref (x + 1)) fl_X10_10 ((e2 x (by omega)).trans h0) rfl dX10_push_24 ?_
  refine aw_iload_n dX10_push_27 rfl rfl ?_
  refine aw_iload_n dX10_push_28 rfl rfl ?_
  have hq_o := s_swingUp (l := l) (G := G) (n := n) (f := H2) (o := x + 1) hS hB v u
  rw [hst2.self] at hq_o
  refine aw_cP (as := [Value.int v, Value.int u]) (rest := []) (MV.c mV_X8_swingUp) hq_o ml_X10_87 (RC.w hst2.obj rfl) dX10_push_29 rfl rfl (by decide) (Nat.le_of_ble_eq_true rfl) (by decide) (fun _ _ _ h => by cases h.1) (fun r9 f9 n9 _ h => ?_)
  obtain ⟨h1, h2, J', B', h3, hS'⟩ := h
  cases h1; subst h2; subst h3
  exact aw_iret rfl (by decide) (by decide) dX10_push_32 ⟨by rw [xA, if_pos e_1, if_pos e_1], Nat.le_refl _, bp, Or.inl rfl, hW.chg e_1 ha9 hk9 q1 qg qs qr hS hB hH2 hS', fun a h1 h2 h3 => (rU_out (by omega)).trans (e2 a (by omega))⟩
abbrev MX10_catchPendulum : MT := (RX10, cX10_catchPendulum, 2, (some .int), [], "catchPendulum")
set_option maxHeartbeats 4000000 in
theorem g_catchPendulum {l : Launch} {G : GT} {n : Nat} {H : HT} {x bp K : Nat} {s : SG} (hW : GW H x bp n s) (hB : VB K s.1) (v : Int32) : AM l G yX10_catchPendulum (.code yX10_catchPendulum cX10_catchPendulum 2 (some .int)) 10 600 4 24 [.ref x, .int v] (H) n (GX [eIO, eIS] ((opCatch s.1 v).1) (.int (nI (opCatch s.1 v).2.1)) x bp H n (opS s (opCatch s.1 v))) := by
  refine aw_enter (M := MX10_catchPendulum) rfl rfl (by decide +kernel) rfl (Nat.le_of_ble_eq_true rfl) ?_
  obtain ⟨h0, ⟨J, B, hst, hS⟩, ⟨Jb, Bb, hbp⟩, ⟨Js, Bs, hsn, hSs⟩, ⟨a9, g9, ha9, hk9, q0, q1, qg, qs, qr⟩, ⟨T1, hk1⟩, ⟨T4, hk4⟩, ⟨Ip, Ap, gp, hpp, hTP⟩, ⟨Lc, hcd, hcl, hcx⟩, hox, hbx⟩ := id hW
  have hlt : (opCatch s.1 v).1 ≤ 2 := by unfold opCatch; (repeat' split) <;> exact Nat.le_of_ble_eq_true rfl
  show AW l G MX10_catchPendulum 10 600 4 24 _ n 0 0 0 [(0, .ref x), (1, .int v)] [] _ n
  refine aw_aload_n dX10_catchPendulum_0 rfl rfl ?_
  refine aw_get (v := .ref (x + 1)) fl_X10_10 (h0) rfl dX10_catchPendulum_1 ?_
  refine aw_iload_n dX10_catchPendulum_4 rfl rfl ?_
  have hq_5 := s_rfStop (l := l) (G := G) (n := n) (f := H) (o := x + 1) hS hB v
  rw [hst.self] at hq_5
  refine aw_cI (as := [Value.int v]) (rest := []) (MV.c mV_X8_refusalToStop) hq_5 ml_X10_90 (RC.w hst.obj rfl) dX10_catchPendulum_5 rfl rfl (by decide) (Nat.le_of_ble_eq_true rfl) (by decide) ?_
  rcases Classical.em (¬ ((opCatch s.1 v).1 = 0)) with e_1 | e_1
  · have hq := g_ref (l := l) (G := G) (n := n) (H := H) (c := c3 (opCatch s.1 v).1) (by unfold c3; split <;> omega)
    rw [if_neg (fun z => e_1 (c3_0.mp z))] at hq
    refine aw_sX (as := [Value.int (nI (c3 (opCatch s.1 v).1))]) (rest := []) mS_X10_throwIfRefused hq ml_X10_72 dX10_catchPendulum_8 rfl rfl (by decide) (Nat.le_of_ble_eq_true rfl) (by decide) rfl ?_
    have ho : opS s (opCatch s.1 v) = s := if_neg e_1
    rw [ho]
    exact GX.bad hW (by rw [xA, if_neg e_1, es3_at e_1 hlt])
  have e_1 := Classical.not_not.mp e_1
  have hq := g_ref (l := l) (G := G) (n := n) (H := H) (c := c3 (opCatch s.1 v).1) (by unfold c3; split <;> omega)
  rw [if_pos (c3_0.mpr e_1)] at hq
  refine aw_sV (as := [Value.int (nI (c3 (opCatch s.1 v).1))]) (rest := []) mS_X10_throwIfRefused (HQ.v hq) ml_X10_72 dX10_catchPendulum_8 rfl rfl (by decide) (Nat.le_of_ble_eq_true rfl) (by decide) ?_
  refine aw_aload_n dX10_catchPendulum_11 rfl rfl ?_
  refine aw_get (v := .ref (x + 28)) fl_X10_25 (h0) rfl dX10_catchPendulum_12 ?_
  refine aw_aload_n dX10_catchPendulum_15 rfl rfl ?_
  refine aw_get (v := .ref (x + 1)) fl_X10_10 (h0) rfl dX10_catchPendulum_16 ?_
  obtain ⟨Jt, Bt, hsl⟩ := qs a9 ha9
  refine aw_cV (as := [Value.ref (x + 1)]) (rest := []) (MV.c mV_X2_keep) (h_keep q0 q1 qg ha9 hk9 hst (by omega) hsl) ml_X10_76 (RC.w q0 rfl) dX10_catchPendulum_19 rfl rfl (by decide) (Nat.le_of_ble_eq_true rfl) (by decide) ?_
  obtain ⟨H2, hH2⟩ : ∃ g, g = va_up (sU H (x + 28 + 2 + 9 * a9) (cpJ J Jt) (cpB B Bt)) (x + 28) (hcell (x + 28) (if a9 + 1 < 8 then a9 + 1 else 0) (min (s.2.1.1 + 1) 8)) := ⟨_, rfl⟩
  refine aw_hh hH2.symm rfl ?_
  have e2 : ∀ a, (a < x + 28 ∨ x + 102 ≤ a) → H2 a = H a := fun a h => by rw [hH2]; exact (up_ne (by omega)).trans (rU_out (by omega))
  have hst2 := hst.fr (f := H2) (fun a _ _ => e2 a (by omega))
  refine aw_aload_n dX10_catchPendulum_22 rfl rfl ?_
  refine aw_get (v := .ref (x + 1)) fl_X10_10 ((e2 x (by omega)).trans h0) rfl dX10_catchPendulum_23 ?_
  refine aw_iload_n dX10_catchPendulum_26 rfl rfl ?_
  have hq_o := s_stop (l := l) (G := G) (n := n) (f := H2) (o := x + 1) hS hB v
  rw [hst2.self] at hq_o
  refine aw_cP (as := [Value.int v]) (rest := []) (MV.c mV_X8_stop) hq_o ml_X10_93 (RC.w hst2.obj rfl) dX10_catchPendulum_27 rfl rfl (by decide) (Nat.le_of_ble_eq_true rfl) (by decide) (fun _ _ _ h => by cases h.1) (fun r9 f9 n9 _ h => ?_)
  obtain ⟨h1, h2, J', B', h3, hS'⟩ := h
  cases h1; subst h2; subst h3
  exact aw_iret rfl (by decide) (by decide) dX10_catchPendulum_30 ⟨by rw [xA, if_pos e_1, if_pos e_1], Nat.le_refl _, bp, Or.inl rfl, hW.chg e_1 ha9 hk9 q1 qg qs qr hS hB hH2 hS', fun a h1 h2 h3 => (rU_out (by omega)).trans (e2 a (by omega))⟩
abbrev MX10_setFriction : MT := (RX10, cX10_setFriction, 2, (some .int), [], "setFriction")
set_option maxHeartbeats 4000000 in
theorem g_setFriction {l : Launch} {G : GT} {n : Nat} {H : HT} {x bp K : Nat} {s : SG} (hW : GW H x bp n s) (hB : VB K s.1) (v : Int32) : AM l G yX10_setFriction (.code yX10_setFriction cX10_setFriction 2 (some .int)) 10 600 4 24 [.ref x, .int v] (H) n (GX [eIA] ((opFric s.1 v).1) (.int (nI (opFric s.1 v).2.1)) x bp H n (opS s (opFric s.1 v))) := by
  refine aw_enter (M := MX10_setFriction) rfl rfl (by decide +kernel) rfl (Nat.le_of_ble_eq_true rfl) ?_
  obtain ⟨h0, ⟨J, B, hst, hS⟩, ⟨Jb, Bb, hbp⟩, ⟨Js, Bs, hsn, hSs⟩, ⟨a9, g9, ha9, hk9, q0, q1, qg, qs, qr⟩, ⟨T1, hk1⟩, ⟨T4, hk4⟩, ⟨Ip, Ap, gp, hpp, hTP⟩, ⟨Lc, hcd, hcl, hcx⟩, hox, hbx⟩ := id hW
  have hlt : (opFric s.1 v).1 ≤ 1 := by unfold opFric; (repeat' split) <;> exact Nat.le_of_ble_eq_true rfl
  show AW l G MX10_setFriction 10 600 4 24 _ n 0 0 0 [(0, .ref x), (1, .int v)] [] _ n
  refine aw_aload_n dX10_setFriction_0 rfl rfl ?_
  refine aw_get (v := .ref (x + 1)) fl_X10_10 (h0) rfl dX10_setFriction_1 ?_
  refine aw_iload_n dX10_setFriction_4 rfl rfl ?_
  have hq_5 := s_rfFric (l := l) (G := G) (n := n) (f := H) (o := x + 1) hS hB v
  rw [hst.self] at hq_5
  refine aw_cI (as := [Value.int v]) (rest := []) (MV.c mV_X8_refusalOfFriction) hq_5 ml_X10_96 (RC.w hst.obj rfl) dX10_setFriction_5 rfl rfl (by decide) (Nat.le_of_ble_eq_true rfl) (by decide) ?_
  rcases Classical.em (¬ ((opFric s.1 v).1 = 0)) with e_1 | e_1
  · have hq := g_ref (l := l) (G := G) (n := n) (H := H) (c := c2 (opFric s.1 v).1) (by unfold c2; split <;> omega)
    rw [if_neg (fun z => e_1 (c2_0.mp z))] at hq
    refine aw_sX (as := [Value.int (nI (c2 (opFric s.1 v).1))]) (rest := []) mS_X10_throwIfRefused hq ml_X10_72 dX10_setFriction_8 rfl rfl (by decide) (Nat.le_of_ble_eq_true rfl) (by decide) rfl ?_
    have ho : opS s (opFric s.1 v) = s := if_neg e_1
    rw [ho]
    exact GX.bad hW (by rw [xA, if_neg e_1, es1_at e_1 hlt])
  have e_1 := Classical.not_not.mp e_1
  have hq := g_ref (l := l) (G := G) (n := n) (H := H) (c := c2 (opFric s.1 v).1) (by unfold c2; split <;> omega)
  rw [if_pos (c2_0.mpr e_1)] at hq
  refine aw_sV (as := [Value.int (nI (c2 (opFric s.1 v).1))]) (rest := []) mS_X10_throwIfRefused (HQ.v hq) ml_X10_72 dX10_setFriction_8 rfl rfl (by decide) (Nat.le_of_ble_eq_true rfl) (by decide) ?_
  refine aw_aload_n dX10_setFriction_11 rfl rfl ?_
  refine aw_get (v := .ref (x + 28)) fl_X10_25 (h0) rfl dX10_setFriction_12 ?_
  refine aw_aload_n dX10_setFriction_15 rfl rfl ?_
  refine aw_get (v := .ref (x + 1)) fl_X10_10 (h0) rfl dX10_setFriction_16 ?_
  obtain ⟨Jt, Bt, hsl⟩ := qs a9 ha9
  refine aw_cV (as := [Value.ref (x + 1)]) (rest := []) (MV.c mV_X2_keep) (h_keep q0 q1 qg ha9 hk9 hst (by omega) hsl) ml_X10_76 (RC.w q0 rfl) dX10_setFriction_19 rfl rfl (by decide) (Nat.le_of_ble_eq_true rfl) (by decide) ?_
  obtain ⟨H2, hH2⟩ : ∃ g, g = va_up (sU H (x + 28 + 2 + 9 * a9) (cpJ J Jt) (cpB B Bt)) (x + 28) (hcell (x + 28) (if a9 + 1 < 8 then a9 + 1 else 0) (min (s.2.1.1 + 1) 8)) := ⟨_, rfl⟩
  refine aw_hh hH2.symm rfl ?_
  have e2 : ∀ a, (a < x + 28 ∨ x + 102 ≤ a) → H2 a = H a := fun a h => by rw [hH2]; exact (up_ne (by omega)).trans (rU_out (by omega))
  have hst2 := hst.fr (f := H2) (fun a _ _ => e2 a (by omega))
  refine aw_aload_n dX10_setFriction_22 rfl rfl ?_
  refine aw_get (v := .ref (x + 1)) fl_X10_10 ((e2 x (by omega)).trans h0) rfl dX10_setFriction_23 ?_
  refine aw_iload_n dX10_setFriction_26 rfl rfl ?_
  have hq_o := s_changeFriction (l := l) (G := G) (n := n) (f := H2) (o := x + 1) hS hB v
  rw [hst2.self] at hq_o
  refine aw_cP (as := [Value.int v]) (rest := []) (MV.c mV_X8_changeFriction) hq_o ml_X10_99 (RC.w hst2.obj rfl) dX10_setFriction_27 rfl rfl (by decide) (Nat.le_of_ble_eq_true rfl) (by decide) (fun _ _ _ h => by cases h.1) (fun r9 f9 n9 _ h => ?_)
  obtain ⟨h1, h2, J', B', h3, hS'⟩ := h
  cases h1; subst h2; subst h3
  exact aw_iret rfl (by decide) (by decide) dX10_setFriction_30 ⟨by rw [xA, if_pos e_1, if_pos e_1], Nat.le_refl _, bp, Or.inl rfl, hW.chg e_1 ha9 hk9 q1 qg qs qr hS hB hH2 hS', fun a h1 h2 h3 => (rU_out (by omega)).trans (e2 a (by omega))⟩
abbrev MX10_pass : MT := (RX10, cX10_pass, 2, (some .int), [], "pass")
set_option maxHeartbeats 4000000 in
theorem g_pass {l : Launch} {G : GT} {n : Nat} {H : HT} {x bp K : Nat} {s : SG} (hW : GW H x bp n s) (hB : VB K s.1) (hK : K + 500 < 16000000) (v : Int32) : AM l G yX10_pass (.code yX10_pass cX10_pass 2 (some .int)) 10 600 4 24 [.ref x, .int v] (H) n (GX [eIA] ((opPass s.1 v).1) (.int (nI (opPass s.1 v).2.1)) x bp H n (opS s (opPass s.1 v))) := by
  refine aw_enter (M := MX10_pass) rfl rfl (by decide +kernel) rfl (Nat.le_of_ble_eq_true rfl) ?_
  obtain ⟨h0, ⟨J, B, hst, hS⟩, ⟨Jb, Bb, hbp⟩, ⟨Js, Bs, hsn, hSs⟩, ⟨a9, g9, ha9, hk9, q0, q1, qg, qs, qr⟩, ⟨T1, hk1⟩, ⟨T4, hk4⟩, ⟨Ip, Ap, gp, hpp, hTP⟩, ⟨Lc, hcd, hcl, hcx⟩, hox, hbx⟩ := id hW
  have hlt : (opPass s.1 v).1 ≤ 1 := by unfold opPass; (repeat' split) <;> exact Nat.le_of_ble_eq_true rfl
  show AW l G MX10_pass 10 600 4 24 _ n 0 0 0 [(0, .ref x), (1, .int v)] [] _ n
  refine aw_aload_n dX10_pass_0 rfl rfl ?_
  refine aw_get (v := .ref (x + 1)) fl_X10_10 (h0) rfl dX10_pass_1 ?_
  refine aw_iload_n dX10_pass_4 rfl rfl ?_
  have hq_5 := s_rfWait (l := l) (G := G) (n := n) (f := H) (o := x + 1) hS hB v
  rw [hst.self] at hq_5
  refine aw_cI (as := [Value.int v]) (rest := []) (MV.c mV_X8_refusalToWait) hq_5 ml_X10_102 (RC.w hst.obj rfl) dX10_pass_5 rfl rfl (by decide) (Nat.le_of_ble_eq_true rfl) (by decide) ?_
  rcases Classical.em (¬ ((opPass s.1 v).1 = 0)) with e_1 | e_1
  · have hq := g_ref (l := l) (G := G) (n := n) (H := H) (c := c2 (opPass s.1 v).1) (by unfold c2; split <;> omega)
    rw [if_neg (fun z => e_1 (c2_0.mp z))] at hq
    refine aw_sX (as := [Value.int (nI (c2 (opPass s.1 v).1))]) (rest := []) mS_X10_throwIfRefused hq ml_X10_72 dX10_pass_8 rfl rfl (by decide) (Nat.le_of_ble_eq_true rfl) (by decide) rfl ?_
    have ho : opS s (opPass s.1 v) = s := if_neg e_1
    rw [ho]
    exact GX.bad hW (by rw [xA, if_neg e_1, es1_at e_1 hlt])
  have e_1 := Classical.not_not.mp e_1
  have hq := g_ref (l := l) (G := G) (n := n) (H := H) (c := c2 (opPass s.1 v).1) (by unfold c2; split <;> omega)
  rw [if_pos (c2_0.mpr e_1)] at hq
  refine aw_sV (as := [Value.int (nI (c2 (opPass s.1 v).1))]) (rest := []) mS_X10_throwIfRefused (HQ.v hq) ml_X10_72 dX10_pass_8 rfl rfl (by decide) (Nat.le_of_ble_eq_true rfl) (by decide) ?_
  refine aw_aload_n dX10_pass_11 rfl rfl ?_
  refine aw_get (v := .ref (x + 28)) fl_X10_25 (h0) rfl dX10_pass_12 ?_
  refine aw_aload_n dX10_pass_15 rfl rfl ?_
  refine aw_get (v := .ref (x + 1)) fl_X10_10 (h0) rfl dX10_pass_16 ?_
  obtain ⟨Jt, Bt, hsl⟩ := qs a9 ha9
  refine aw_cV (as := [Value.ref (x + 1)]) (rest := []) (MV.c mV_X2_keep) (h_keep q0 q1 qg ha9 hk9 hst (by omega) hsl) ml_X10_76 (RC.w q0 rfl) dX10_pass_19 rfl rfl (by decide) (Nat.le_of_ble_eq_true rfl) (by decide) ?_
  obtain ⟨H2, hH2⟩ : ∃ g, g = va_up (sU H (x + 28 + 2 + 9 * a9) (cpJ J Jt) (cpB B Bt)) (x + 28) (hcell (x + 28) (if a9 + 1 < 8 then a9 + 1 else 0) (min (s.2.1.1 + 1) 8)) := ⟨_, rfl⟩
  refine aw_hh hH2.symm rfl ?_
  have e2 : ∀ a, (a < x + 28 ∨ x + 102 ≤ a) → H2 a = H a := fun a h => by rw [hH2]; exact (up_ne (by omega)).trans (rU_out (by omega))
  have hst2 := hst.fr (f := H2) (fun a _ _ => e2 a (by omega))
  refine aw_aload_n dX10_pass_22 rfl rfl ?_
  refine aw_get (v := .ref (x + 1)) fl_X10_10 ((e2 x (by omega)).trans h0) rfl dX10_pass_23 ?_
  refine aw_iload_n dX10_pass_26 rfl rfl ?_
  have hq_o := s_waitFor (l := l) (G := G) (n := n) (f := H2) (o := x + 1) hS hB hK v
  rw [hst2.self] at hq_o
  refine aw_cP (as := [Value.int v]) (rest := []) (MV.c mV_X8_waitFor) hq_o ml_X10_105 (RC.w hst2.obj rfl) dX10_pass_27 rfl rfl (by decide) (Nat.le_of_ble_eq_true rfl) (by decide) (fun _ _ _ h => by cases h.1) (fun r9 f9 n9 _ h => ?_)
  obtain ⟨h1, h2, J', B', h3, hS'⟩ := h
  cases h1; subst h2; subst h3
  exact aw_iret rfl (by decide) (by decide) dX10_pass_30 ⟨by rw [xA, if_pos e_1, if_pos e_1], Nat.le_refl _, bp, Or.inl rfl, hW.chg e_1 ha9 hk9 q1 qg qs qr hS hB hH2 hS', fun a h1 h2 h3 => (rU_out (by omega)).trans (e2 a (by omega))⟩
abbrev MX10_addLeg : MT := (RX10, cX10_addLeg, 2, (some .int), [], "addLeg")
set_option maxHeartbeats 4000000 in
theorem g_addLeg {l : Launch} {G : GT} {n : Nat} {H : HT} {x bp K : Nat} {s : SG} (hW : GW H x bp n s) (hB : VB K s.1) (v : Int32) : AM l G yX10_addLeg (.code yX10_addLeg cX10_addLeg 2 (some .int)) 10 600 4 24 [.ref x, .int v] (H) n (GX [eIA, eIS] ((opLeg s.1 v).1) (.int (nI (opLeg s.1 v).2.1)) x bp H n (opS s (opLeg s.1 v))) := by
  refine aw_enter (M := MX10_addLeg) rfl rfl (by decide +kernel) rfl (Nat.le_of_ble_eq_true rfl) ?_
  obtain ⟨h0, ⟨J, B, hst, hS⟩, ⟨Jb, Bb, hbp⟩, ⟨Js, Bs, hsn, hSs⟩, ⟨a9, g9, ha9, hk9, q0, q1, qg, qs, qr⟩, ⟨T1, hk1⟩, ⟨T4, hk4⟩, ⟨Ip, Ap, gp, hpp, hTP⟩, ⟨Lc, hcd, hcl, hcx⟩, hox, hbx⟩ := id hW
  have hlt : (opLeg s.1 v).1 ≤ 2 := by unfold opLeg; (repeat' split) <;> exact Nat.le_of_ble_eq_true rfl
  show AW l G MX10_addLeg 10 600 4 24 _ n 0 0 0 [(0, .ref x), (1, .int v)] [] _ n
  refine aw_aload_n dX10_addLeg_0 rfl rfl ?_
  refine aw_get (v := .ref (x + 1)) fl_X10_10 (h0) rfl dX10_addLeg_1 ?_
  refine aw_iload_n dX10_addLeg_4 rfl rfl ?_
  have hq_5 := s_rfLeg (l := l) (G := G) (n := n) (f := H) (o := x + 1) hS hB v
  rw [hst.self] at hq_5
  refine aw_cI (as := [Value.int v]) (rest := []) (MV.c mV_X8_refusalToAppendLeg) hq_5 ml_X10_209 (RC.w hst.obj rfl) dX10_addLeg_5 rfl rfl (by decide) (Nat.le_of_ble_eq_true rfl) (by decide) ?_
  rcases Classical.em (¬ ((opLeg s.1 v).1 = 0)) with e_1 | e_1
  · have hq := g_ref (l := l) (G := G) (n := n) (H := H) (c := c2 (opLeg s.1 v).1) (by unfold c2; split <;> omega)
    rw [if_neg (fun z => e_1 (c2_0.mp z))] at hq
    refine aw_sX (as := [Value.int (nI (c2 (opLeg s.1 v).1))]) (rest := []) mS_X10_throwIfRefused hq ml_X10_72 dX10_addLeg_8 rfl rfl (by decide) (Nat.le_of_ble_eq_true rfl) (by decide) rfl ?_
    have ho : opS s (opLeg s.1 v) = s := if_neg e_1
    rw [ho]
    exact GX.bad hW (by rw [xA, if_neg e_1, es2_at e_1])
  have e_1 := Classical.not_not.mp e_1
  have hq := g_ref (l := l) (G := G) (n := n) (H := H) (c := c2 (opLeg s.1 v).1) (by unfold c2; split <;> omega)
  rw [if_pos (c2_0.mpr e_1)] at hq
  refine aw_sV (as := [Value.int (nI (c2 (opLeg s.1 v).1))]) (rest := []) mS_X10_throwIfRefused (HQ.v hq) ml_X10_72 dX10_addLeg_8 rfl rfl (by decide) (Nat.le_of_ble_eq_true rfl) (by decide) ?_
  refine aw_aload_n dX10_addLeg_11 rfl rfl ?_
  refine aw_get (v := .ref (x + 28)) fl_X10_25 (h0) rfl dX10_addLeg_12 ?_
  refine aw_aload_n dX10_addLeg_15 rfl rfl ?_
  refine aw_get (v := .ref (x + 1)) fl_X10_10 (h0) rfl dX10_addLeg_16 ?_
  obtain ⟨Jt, Bt, hsl⟩ := qs a9 ha9
  refine aw_cV (as := [Value.ref (x + 1)]) (rest := []) (MV.c mV_X2_keep) (h_keep q0 q1 qg ha9 hk9 hst (by omega) hsl) ml_X10_76 (RC.w q0 rfl) dX10_addLeg_19 rfl rfl (by decide) (Nat.le_of_ble_eq_true rfl) (by decide) ?_
  obtain ⟨H2, hH2⟩ : ∃ g, g = va_up (sU H (x + 28 + 2 + 9 * a9) (cpJ J Jt) (cpB B Bt)) (x + 28) (hcell (x + 28) (if a9 + 1 < 8 then a9 + 1 else 0) (min (s.2.1.1 + 1) 8)) := ⟨_, rfl⟩
  refine aw_hh hH2.symm rfl ?_
  have e2 : ∀ a, (a < x + 28 ∨ x + 102 ≤ a) → H2 a = H a := fun a h => by rw [hH2]; exact (up_ne (by omega)).trans (rU_out (by omega))
  have hst2 := hst.fr (f := H2) (fun a _ _ => e2 a (by omega))
  refine aw_aload_n dX10_addLeg_22 rfl rfl ?_
  refine aw_get (v := .ref (x + 1)) fl_X10_10 ((e2 x (by omega)).trans h0) rfl dX10_addLeg_23 ?_
  refine aw_iload_n dX10_addLeg_26 rfl rfl ?_
  have hq_o := s_appendLeg (l := l) (G := G) (n := n) (f := H2) (o := x + 1) hS hB v
  rw [hst2.self] at hq_o
  refine aw_cP (as := [Value.int v]) (rest := []) (MV.c mV_X8_appendLeg) hq_o ml_X10_212 (RC.w hst2.obj rfl) dX10_addLeg_27 rfl rfl (by decide) (Nat.le_of_ble_eq_true rfl) (by decide) (fun _ _ _ h => by cases h.1) (fun r9 f9 n9 _ h => ?_)
  obtain ⟨h1, h2, J', B', h3, hS'⟩ := h
  cases h1; subst h2; subst h3
  exact aw_iret rfl (by decide) (by decide) dX10_addLeg_30 ⟨by rw [xA, if_pos e_1, if_pos e_1], Nat.le_refl _, bp, Or.inl rfl, hW.chg e_1 ha9 hk9 q1 qg qs qr hS hB hH2 hS', fun a h1 h2 h3 => (rU_out (by omega)).trans (e2 a (by omega))⟩
abbrev MX10_removeLeg : MT := (RX10, cX10_removeLeg, 2, (some .int), [], "removeLeg")
set_option maxHeartbeats 4000000 in
theorem g_removeLeg {l : Launch} {G : GT} {n : Nat} {H : HT} {x bp K : Nat} {s : SG} (hW : GW H x bp n s) (hB : VB K s.1) (v : Int32) : AM l G yX10_removeLeg (.code yX10_removeLeg cX10_removeLeg 2 (some .int)) 10 600 4 24 [.ref x, .int v] (H) n (GX [eIO] ((opCut s.1 v).1) (.int (nI (opCut s.1 v).2.1)) x bp H n (opS s (opCut s.1 v))) := by
  refine aw_enter (M := MX10_removeLeg) rfl rfl (by decide +kernel) rfl (Nat.le_of_ble_eq_true rfl) ?_
  obtain ⟨h0, ⟨J, B, hst, hS⟩, ⟨Jb, Bb, hbp⟩, ⟨Js, Bs, hsn, hSs⟩, ⟨a9, g9, ha9, hk9, q0, q1, qg, qs, qr⟩, ⟨T1, hk1⟩, ⟨T4, hk4⟩, ⟨Ip, Ap, gp, hpp, hTP⟩, ⟨Lc, hcd, hcl, hcx⟩, hox, hbx⟩ := id hW
  have hlt : (opCut s.1 v).1 ≤ 1 := by unfold opCut; (repeat' split) <;> exact Nat.le_of_ble_eq_true rfl
  show AW l G MX10_removeLeg 10 600 4 24 _ n 0 0 0 [(0, .ref x), (1, .int v)] [] _ n
  refine aw_aload_n dX10_removeLeg_0 rfl rfl ?_
  refine aw_get (v := .ref (x + 1)) fl_X10_10 (h0) rfl dX10_removeLeg_1 ?_
  refine aw_iload_n dX10_removeLeg_4 rfl rfl ?_
  have hq_5 := s_rfCut (l := l) (G := G) (n := n) (f := H) (o := x + 1) hS hB v
  rw [hst.self] at hq_5
  refine aw_cI (as := [Value.int v]) (rest := []) (MV.c mV_X8_refusalToDropLeg) hq_5 ml_X10_215 (RC.w hst.obj rfl) dX10_removeLeg_5 rfl rfl (by decide) (Nat.le_of_ble_eq_true rfl) (by decide) ?_
  rcases Classical.em (¬ ((opCut s.1 v).1 = 0)) with e_1 | e_1
  · have hq := g_ref (l := l) (G := G) (n := n) (H := H) (c := (opCut s.1 v).1) (by omega)
    rw [if_neg (fun z => e_1 (z))] at hq
    refine aw_sX (as := [Value.int (nI ((opCut s.1 v).1))]) (rest := []) mS_X10_throwIfRefused hq ml_X10_72 dX10_removeLeg_8 rfl rfl (by decide) (Nat.le_of_ble_eq_true rfl) (by decide) rfl ?_
    have ho : opS s (opCut s.1 v) = s := if_neg e_1
    rw [ho]
    exact GX.bad hW (by rw [xA, if_neg e_1, es0_at e_1 hlt])
  have e_1 := Classical.not_not.mp e_1
  have hq := g_ref (l := l) (G := G) (n := n) (H := H) (c := (opCut s.1 v).1) (by omega)
  rw [if_pos (e_1)] at hq
  refine aw_sV (as := [Value.int (nI ((opCut s.1 v).1))]) (rest := []) mS_X10_throwIfRefused (HQ.v hq) ml_X10_72 dX10_removeLeg_8 rfl rfl (by decide) (Nat.le_of_ble_eq_true rfl) (by decide) ?_
  refine aw_aload_n dX10_removeLeg_11 rfl rfl ?_
  refine aw_get (v := .ref (x + 28)) fl_X10_25 (h0) rfl dX10_removeLeg_12 ?_
  refine aw_aload_n dX10_removeLeg_15 rfl rfl ?_
  refine aw_get (v := .ref (x + 1)) fl_X10_10 (h0) rfl dX10_removeLeg_16 ?_
  obtain ⟨Jt, Bt, hsl⟩ := qs a9 ha9
  refine aw_cV (as := [Value.ref (x + 1)]) (rest := []) (MV.c mV_X2_keep) (h_keep q0 q1 qg ha9 hk9 hst (by omega) hsl) ml_X10_76 (RC.w q0 rfl) dX10_removeLeg_19 rfl rfl (by decide) (Nat.le_of_ble_eq_true rfl) (by decide) ?_
  obtain ⟨H2, hH2⟩ : ∃ g, g = va_up (sU H (x + 28 + 2 + 9 * a9) (cpJ J Jt) (cpB B Bt)) (x + 28) (hcell (x + 28) (if a9 + 1 < 8 then a9 + 1 else 0) (min (s.2.1.1 + 1) 8)) := ⟨_, rfl⟩
  refine aw_hh hH2.symm rfl ?_
  have e2 : ∀ a, (a < x + 28 ∨ x + 102 ≤ a) → H2 a = H a := fun a h => by rw [hH2]; exact (up_ne (by omega)).trans (rU_out (by omega))
  have hst2 := hst.fr (f := H2) (fun a _ _ => e2 a (by omega))
  refine aw_aload_n dX10_removeLeg_22 rfl rfl ?_
  refine aw_get (v := .ref (x + 1)) fl_X10_10 ((e2 x (by omega)).trans h0) rfl dX10_removeLeg_23 ?_
  refine aw_iload_n dX10_removeLeg_26 rfl rfl ?_
  have hq_o := s_dropLeg (l := l) (G := G) (n := n) (f := H2) (o := x + 1) hS hB v
  rw [hst2.self] at hq_o
  refine aw_cP (as := [Value.int v]) (rest := []) (MV.c mV_X8_dropLeg) hq_o ml_X10_218 (RC.w hst2.obj rfl) dX10_removeLeg_27 rfl rfl (by decide) (Nat.le_of_ble_eq_true rfl) (by decide) (fun _ _ _ h => by cases h.1) (fun r9 f9 n9 _ h => ?_)
  obtain ⟨h1, h2, J', B', h3, hS'⟩ := h
  cases h1; subst h2; subst h3
  exact aw_iret rfl (by decide) (by decide) dX10_removeLeg_30 ⟨by rw [xA, if_pos e_1, if_pos e_1], Nat.le_refl _, bp, Or.inl rfl, hW.chg e_1 ha9 hk9 q1 qg qs qr hS hB hH2 hS', fun a h1 h2 h3 => (rU_out (by omega)).trans (e2 a (by omega))⟩
