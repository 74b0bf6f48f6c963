theorem ok_iff {tn : Nat} {tx : Nat → Nat} : rdOK tn tx = true ↔ ¬ ((rdN tn tx 61 0).2.2 = true ∨ (rdN tn tx 61 0).2.1 < tn) := by
  unfold rdOK
  cases (rdN tn tx 61 0).2.2 <;> simp
/-- only the gym's own cell changed -/
theorem GW.cell {H : HT} {x bp n : Nat} {s : SG} {sv : Bool} {e1 e2 : Int32} (h : GW H x bp n s) (hsv : sv = s.2.2.1.1) : GW (va_up H x (gC x sv e1 e2)) x bp n (s.1, s.2.1, s.2.2.1, s.2.2.2.1, (e1, e2), s.2.2.2.2.2) := by
  subst hsv
  exact h.mk9 (lo := x) (hi := x + 1) (by omega) (by omega) (fun a ha => up_ne (by omega)) up_self (Or.inr ⟨rfl, by omega⟩) (Or.inr (by omega)) (Or.inr ⟨rfl, by omega⟩) (Or.inr ⟨rfl, by omega⟩) (Or.inr (by omega)) (Or.inr (by omega)) (Or.inr ⟨rfl, by omega⟩) ⟨rfl, by omega⟩
/-- the state and its copy changed -/
theorem GW.two {H f : HT} {x bp n : Nat} {s : SG} {J1 J2 : Nat → Int32} {B1 B2 : Nat → Nat → Int32} {V' : Nat → Nat} (h : GW H x bp n s) (e : ∀ a, (a < x + 1 ∨ x + 19 ≤ a) → f a = H a) (h1 : sAt f (x + 1) J1 B1) (hS : SV J1 B1 V') (h2 : sAt f (x + 10) J2 B2) : GW f x bp n (V', s.2) :=
  h.mk9 (lo := x + 1) (hi := x + 19) (by omega) (by omega) e ((e x (by omega)).trans h.1) (Or.inl ⟨J1, B1, h1, hS⟩) (Or.inl ⟨J2, B2, h2⟩) (Or.inr ⟨rfl, by omega⟩) (Or.inr ⟨rfl, by omega⟩) (Or.inr (by omega)) (Or.inr (by omega)) (Or.inr ⟨rfl, by omega⟩) ⟨rfl, by omega⟩
abbrev MX10_execute : MT := (RX10, cX10_execute, 3, (some .int), [], "execute")
set_option maxHeartbeats 4000000 in
theorem g_execute {l : Launch} {G : GT} {n : Nat} {H : HT} {x bp K : Nat} {s : SG} (hW : GW H x bp n s) (hSB : SB K s) (hK : K + 30500 < 16000000) : AM l G yX10_execute (.code yX10_execute cX10_execute 3 (some .int)) 10 600 4 24 [.ref x] (H) n (GX [eIA, eIS] ((qExe s).1) (.int (nI (qExe s).2.1)) x bp H n ((qExe s).2.2)) := by
  refine aw_enter (M := MX10_execute) rfl rfl (by decide +kernel) rfl (Nat.le_of_ble_eq_true rfl) ?_
  obtain ⟨h0, ⟨J, B, hst, hS⟩, ⟨Jb, Bb, hbp⟩, ⟨Js, Bs, hsn, hSs⟩, ⟨a9, g9, ha9, hk9, q0, q1, qg, qs, qr⟩, ⟨T1, hk1⟩, ⟨T4, hk4⟩, ⟨Ip, Ap, gp, hpp, hTP⟩, ⟨Lc, hcd, hcl, hcx⟩, hox, hbx⟩ := id hW
  have hB := hSB.1
  show AW l G MX10_execute 10 600 4 24 _ n 0 0 0 [(0, .ref x)] [] _ n
  refine aw_aload_n dX10_execute_0 rfl rfl ?_
  refine aw_get (v := .ref (x + 106)) fl_X10_46 (h0) rfl dX10_execute_1 ?_
  have hq_r := p_read (l := l) (G := G) (n := n) (f := H) (o := x + 106) (g := gp) hTP
  rw [hpp.self] at hq_r
  refine aw_cP (as := []) (rest := []) (MV.c mV_X5_read) hq_r ml_X10_323 (RC.w hpp.obj rfl) dX10_execute_4 rfl rfl (by decide) (Nat.le_of_ble_eq_true rfl) (by decide) (fun _ _ _ h => by obtain ⟨-, _, _, _, -, -, -, -, h9, -⟩ := h; cases h9) (fun r9 f1 n9 _ h => ?_)
  obtain ⟨q2, I', A', g', hf1, h4, h6, hA0, h9, hok⟩ := h
  cases h9; have q2 := q2.symm; subst q2
  have e1 : ∀ a, (a < x + 106 ∨ x + 111 ≤ a) → f1 a = H a := fun a h => by rw [hf1]; exact rU_out (by omega)
  have hpp1 : pAt f1 (x + 106) I' A' g' := by rw [hf1]; exact pAt.new
  refine aw_istore_n (L' := [(1, .int (bI (rdOK s.2.2.2.1.1 s.2.2.2.1.2))), (0, .ref x)]) dX10_execute_7 rfl (by decide) rfl ?_
  refine aw_aload_n dX10_execute_8 rfl rfl ?_
  refine aw_get (v := .ref (x + 106)) fl_X10_46 ((e1 x (by omega)).trans h0) rfl dX10_execute_9 ?_
  have hq_e := p_empty (l := l) (G := G) (n := n) (f := f1) (o := x + 106) (I := I') (A := A') (g := g')
  rw [hpp1.self] at hq_e
  refine aw_cV (as := []) (rest := []) (MV.c mV_X5_empty) hq_e ml_X10_326 (RC.w hpp1.obj rfl) dX10_execute_12 rfl rfl (by decide) (Nat.le_of_ble_eq_true rfl) (by decide) ?_
  obtain ⟨f2, hf2⟩ : ∃ z, z = pU f1 (x + 106) (va_up I' 4 (nI 0)) A' g' := ⟨_, rfl⟩
  refine aw_hh hf2.symm rfl ?_
  have e2 : ∀ a, (a < x + 106 ∨ x + 111 ≤ a) → f2 a = H a := fun a h => by rw [hf2]; exact (rU_out (by omega)).trans (e1 a h)
  have hpp2 : pAt f2 (x + 106) (va_up I' 4 (nI 0)) A' g' := by rw [hf2]; exact pAt.new
  have hW2 : GW f2 x bp n (emS s) := hW.mk9 (s' := emS s) (lo := x + 106) (hi := x + 111) (by omega) (by omega) e2 ((e2 x (by omega)).trans h0) (Or.inr ⟨rfl, by omega⟩) (Or.inr (by omega)) (Or.inr ⟨rfl, by omega⟩) (Or.inr ⟨rfl, by omega⟩) (Or.inr (by omega)) (Or.inr (by omega)) (Or.inl ⟨_, _, _, hpp2, up_self, Nat.zero_le _, fun i hi => absurd hi (Nat.not_lt_zero _), fun i hi => absurd hi (Nat.not_lt_zero _)⟩) ⟨rfl, by omega⟩
  have hx2 := (e2 x (by omega)).trans h0
  have hst2 := hst.fr (f := f2) (fun a _ _ => e2 a (by omega))
  have hbp2 := hbp.fr (f := f2) (fun a _ _ => e2 a (by omega))
  refine aw_iload_n dX10_execute_15 rfl rfl ?_
  refine aw_if_ne_b (tgt := 41) dX10_execute_16 (by decide) (fun c_1 => ?_) (fun c_1 => ?_)
  · refine aw_aload_n dX10_execute_41 rfl rfl ?_
    refine aw_get (v := .ref (x + 10)) fl_X10_16 (hx2) rfl dX10_execute_42 ?_
    refine aw_aload_n dX10_execute_45 rfl rfl ?_
    refine aw_get (v := .ref (x + 1)) fl_X10_10 (hx2) rfl dX10_execute_46 ?_
    refine aw_cV (as := [Value.ref (x + 1)]) (rest := []) (MV.c mV_X8_copyFrom) (s_copyH hbp2 hst2 (by omega)) ml_X10_334 (RC.w hbp2.obj rfl) dX10_execute_49 rfl rfl (by decide) (Nat.le_of_ble_eq_true rfl) (by decide) ?_
    obtain ⟨f3, hf3⟩ : ∃ z, z = sU f2 (x + 10) (cpJ J Jb) (cpB B Bb) := ⟨_, rfl⟩
    refine aw_hh hf3.symm rfl ?_
    have hok1 := c_1
    obtain ⟨hh5, hl60, hE⟩ := hok hok1
    have hgood := ok_iff.mp hok1
    have e3 : ∀ a, (a < x + 10 ∨ x + 19 ≤ a) → f3 a = f2 a := fun a h => by rw [hf3]; exact rU_out (by omega)
    have hbp3 : sAt f3 (x + 10) (cpJ J Jb) (cpB B Bb) := by rw [hf3]; exact sAt.new
    have hSb : SV (cpJ J Jb) (cpB B Bb) s.1 := hS.copy9 hB.cnt hB.legs
    have hst3 := hst2.fr (f := f3) (fun a _ _ => e3 a (by omega))
    have hpp3 := hpp2.fr (f := f3) (fun a _ _ => e3 a (by omega))
    have hx3 := (e3 x (by omega)).trans hx2
    have h5' : (va_up I' 4 (nI 0)) 5 = nI (rdN s.2.2.2.1.1 s.2.2.2.1.2 61 0).1.length := (up_ne (by decide)).trans hh5
    refine aw_aload_n dX10_execute_52 rfl rfl ?_
    refine aw_cP (as := []) (rest := []) (MV.c mV_X10_firstFailure) (g_ff hK hl60 h5' hE hx3 hst3 hS hB hpp3) ml_X10_337 (RC.w hx3 rfl) dX10_execute_53 rfl rfl (by decide) (Nat.le_of_ble_eq_true rfl) (by decide) (fun _ _ _ h => by cases h.1) (fun r9 f4 n9 _ h => ?_)
    obtain ⟨g1, q2, e4, J4, B4, hst4, hS4⟩ := h
    cases g1; have q2 := q2.symm; subst q2
    have hx4 := (e4 x (by omega)).trans hx3
    have hbp4 := hbp3.fr (f := f4) (fun a _ _ => e4 a (by omega))
    have e24 : ∀ a, (a < x + 1 ∨ x + 19 ≤ a) → f4 a = f2 a := fun a h => (e4 a (by omega)).trans (e3 a (by omega))
    have hlt9 : (rnL (rdN s.2.2.2.1.1 s.2.2.2.1.2 61 0).1 0 s.1).1 ≠ 0 → (rnL (rdN s.2.2.2.1.1 s.2.2.2.1.2 61 0).1 0 s.1).2.1 < 2 ^ 30 := fun z => by have := (rn_lt _ _ z).2; omega
    have hqx : qExe s = exR (emS s) (rnL (rdN s.2.2.2.1.1 s.2.2.2.1.2 61 0).1 0 s.1) := if_neg hgood
    refine aw_istore_n (L' := [(2, .int (if (rnL (rdN s.2.2.2.1.1 s.2.2.2.1.2 61 0).1 0 s.1).1 = 0 then -1 else nI (rnL (rdN s.2.2.2.1.1 s.2.2.2.1.2 61 0).1 0 s.1).2.1)), (1, .int (bI (rdOK s.2.2.2.1.1 s.2.2.2.1.2))), (0, .ref x)]) dX10_execute_56 rfl (by decide) rfl ?_
    refine aw_iload_n dX10_execute_57 rfl rfl ?_
    refine aw_iconst (v := -1) dX10_execute_58 (by decide) ?_
    refine aw_icmp_eq (tgt := 89) dX10_execute_59 (by decide) (fun c_2 => ?_) (fun c_2 => ?_)
    · refine aw_aload_n dX10_execute_89 rfl rfl ?_
      refine aw_get (v := .ref (x + 28)) fl_X10_25 (hx4) rfl dX10_execute_90 ?_
      refine aw_aload_n dX10_execute_93 rfl rfl ?_
      refine aw_get (v := .ref (x + 10)) fl_X10_16 (hx4) rfl dX10_execute_94 ?_
      have hz : (rnL (rdN s.2.2.2.1.1 s.2.2.2.1.2 61 0).1 0 s.1).1 = 0 := Classical.byContradiction fun z => by rw [if_neg z] at c_2; exact nI_n1 (hlt9 z) c_2
      have hS4 := hS4 hz
      have hW4 : GW f4 x bp n ((rnL (rdN s.2.2.2.1.1 s.2.2.2.1.2 61 0).1 0 s.1).2.2, (emS s).2) := hW2.two e24 hst4 hS4 hbp4
      obtain ⟨-, -, -, -, ⟨a8, g8, ha8, hk8, p0, p1, pg, ps, pr⟩, -⟩ := id hW4
      obtain ⟨Jt, Bt, hsl⟩ := ps a8 ha8
      refine aw_cV (as := [Value.ref (x + 10)]) (rest := []) (MV.c mV_X2_keep) (h_keep p0 p1 pg ha8 hk8 hbp4 (by omega) hsl) ml_X10_76 (RC.w p0 rfl) dX10_execute_97 rfl rfl (by decide) (Nat.le_of_ble_eq_true rfl) (by decide) ?_
      obtain ⟨f5, hf5⟩ : ∃ z, z = va_up (sU f4 (x + 28 + 2 + 9 * a8) (cpJ (cpJ J Jb) Jt) (cpB (cpB B Bb) Bt)) (x + 28) (hcell (x + 28) (if a8 + 1 < 8 then a8 + 1 else 0) (min (s.2.1.1 + 1) 8)) := ⟨_, rfl⟩
      refine aw_hh hf5.symm rfl ?_
      have e5 : ∀ a, (a < x + 28 ∨ x + 102 ≤ a) → f5 a = f4 a := fun a h => by rw [hf5]; exact (up_ne (by omega)).trans (rU_out (by omega))
      have hx5 := (e5 x (by omega)).trans hx4
      have hpp5 := hpp3.fr (f := f5) (fun a _ _ => (e5 a (by omega)).trans (e4 a (by omega)))
      have hp9 := hAt.push ha8 hk8 p1 pg ps pr (hSb.copy9 (J := Jt) (B := Bt) hB.cnt hB.legs) hf5
      have hW5 := hW4.hist (f := f5) (p := pushH s.2.1.1 s.2.1.2 s.1) e5 hp9
      refine aw_aload_n dX10_execute_100 rfl rfl ?_
      refine aw_get (v := .ref (x + 106)) fl_X10_46 (hx5) rfl dX10_execute_101 ?_
      have hq_c := p_commands (l := l) (G := G) (n := n) (f := f5) (o := x + 106) (I := va_up I' 4 (nI 0)) (A := A') (g := g')
      rw [hpp5.self, h5'] at hq_c
      refine aw_cI (as := []) (rest := []) (MV.c mV_X5_commands) hq_c ml_X10_342 (RC.w hpp5.obj rfl) dX10_execute_104 rfl rfl (by decide) (Nat.le_of_ble_eq_true rfl) (by decide) ?_
      have hln := rn_len (rdN s.2.2.2.1.1 s.2.2.2.1.2 61 0).1 0 hz
      rw [Nat.zero_add] at hln
      have hq : qExe s = (0, (rdN s.2.2.2.1.1 s.2.2.2.1.2 61 0).1.length, opS (emS s) (0, (rdN s.2.2.2.1.1 s.2.2.2.1.2 61 0).1.length, (rnL (rdN s.2.2.2.1.1 s.2.2.2.1.2 61 0).1 0 s.1).2.2)) := by rw [hqx]; unfold exR; rw [if_pos hz, hln]
      rw [hq]
      exact aw_iret rfl (by decide) (by decide) dX10_execute_107 ⟨rfl, Nat.le_refl _, bp, Or.inl rfl, hW5, fun a h1 h2 h3 => (e5 a (by omega)).trans ((e24 a (by omega)).trans (e2 a (by omega)))⟩
    · refine aw_aload_n dX10_execute_62 rfl rfl ?_
      refine aw_get (v := .ref (x + 1)) fl_X10_10 (hx4) rfl dX10_execute_63 ?_
      refine aw_aload_n dX10_execute_66 rfl rfl ?_
      refine aw_get (v := .ref (x + 10)) fl_X10_16 (hx4) rfl dX10_execute_67 ?_
      have hz : ¬ (rnL (rdN s.2.2.2.1.1 s.2.2.2.1.2 61 0).1 0 s.1).1 = 0 := fun z => by rw [if_pos z] at c_2; exact c_2 rfl
      refine aw_cV (as := [Value.ref (x + 10)]) (rest := []) (MV.c mV_X8_copyFrom) (s_copyH hst4 hbp4 (by omega)) ml_X10_334 (RC.w hst4.obj rfl) dX10_execute_70 rfl rfl (by decide) (Nat.le_of_ble_eq_true rfl) (by decide) ?_
      obtain ⟨f5, hf5⟩ : ∃ z, z = sU f4 (x + 1) (cpJ (cpJ J Jb) J4) (cpB (cpB B Bb) B4) := ⟨_, rfl⟩
      refine aw_hh hf5.symm rfl ?_
      rw [if_neg hz]
      have e5 : ∀ a, (a < x + 1 ∨ x + 10 ≤ a) → f5 a = f4 a := fun a h => by rw [hf5]; exact rU_out (by omega)
      have hx5 := (e5 x (by omega)).trans hx4
      have hst5 : sAt f5 (x + 1) (cpJ (cpJ J Jb) J4) (cpB (cpB B Bb) B4) := by rw [hf5]; exact sAt.new
      have hW5 : GW f5 x bp n (s.1, (emS s).2) := hW2.two (fun a h => (e5 a (by omega)).trans (e24 a h)) hst5 (hSb.copy9 hB.cnt hB.legs) (hbp4.fr (f := f5) (fun a _ _ => e5 a (by omega)))
      refine aw_aload_n dX10_execute_73 rfl rfl ?_
      refine aw_iload_n dX10_execute_74 rfl rfl ?_
      refine aw_put fp_X10_65 (hx5) (fun _ => rfl) (fun _ => rfl) (Nat.le_of_ble_eq_true rfl) dX10_execute_75 ?_
      refine aw_throwX (is := 340) tw_ISE rfl (List.mem_of_getElem? (i := 17) rfl) dX10_execute_78 dX10_execute_81 (Or.inr ⟨dX10_execute_82, rfl⟩) dX10_execute_85 dX10_execute_88 (Nat.le_of_ble_eq_true rfl) (Nat.le_of_ble_eq_true rfl) (by decide) (by decide) ?_
      have hq : qExe s = (2, 0, fA9 (emS s) (nI (rnL (rdN s.2.2.2.1.1 s.2.2.2.1.2 61 0).1 0 s.1).2.1)) := hqx.trans (if_neg hz)
      rw [hq]
      refine ⟨rfl, Nat.le_refl _, bp, Or.inl rfl, hW5.cell rfl, fun a h1 h2 h3 => (up_ne (by omega)).trans ((e5 a (by omega)).trans ((e24 a (by omega)).trans (e2 a (by omega))))⟩
  · refine aw_aload_n dX10_execute_19 rfl rfl ?_
    refine aw_aload_n dX10_execute_20 rfl rfl ?_
    refine aw_get (v := .ref (x + 106)) fl_X10_46 (hx2) rfl dX10_execute_21 ?_
    have hq_p := p_position (l := l) (G := G) (n := n) (f := f2) (o := x + 106) (I := va_up I' 4 (nI 0)) (A := A') (g := g')
    rw [hpp2.self, show (va_up I' 4 (nI 0)) 6 = nI (rdN s.2.2.2.1.1 s.2.2.2.1.2 61 0).2.1 from (up_ne (by decide)).trans h6] at hq_p
    refine aw_cI (as := []) (rest := [Value.ref x]) (MV.c mV_X5_position) hq_p ml_X10_329 (RC.w hpp2.obj rfl) dX10_execute_24 rfl rfl (by decide) (Nat.le_of_ble_eq_true rfl) (by decide) ?_
    refine aw_put fp_X10_61 (hx2) (fun _ => rfl) (fun _ => rfl) (Nat.le_of_ble_eq_true rfl) dX10_execute_27 ?_
    refine aw_throwX (is := 332) tw_IAE rfl (List.mem_of_getElem? (i := 16) rfl) dX10_execute_30 dX10_execute_33 (Or.inr ⟨dX10_execute_34, rfl⟩) dX10_execute_37 dX10_execute_40 (Nat.le_of_ble_eq_true rfl) (Nat.le_of_ble_eq_true rfl) (by decide) (by decide) ?_
    have hbad : (rdN s.2.2.2.1.1 s.2.2.2.1.2 61 0).2.2 = true ∨ (rdN s.2.2.2.1.1 s.2.2.2.1.2 61 0).2.1 < s.2.2.2.1.1 := Classical.byContradiction fun z => by
      have h9 := ok_iff.mpr z
      rw [c_1] at h9; cases h9
    have hq : qExe s = (1, 0, eA9 (emS s) (nI (rdN s.2.2.2.1.1 s.2.2.2.1.2 61 0).2.1)) := if_pos hbad
    rw [hq]
    refine ⟨rfl, Nat.le_refl _, bp, Or.inl rfl, hW2.cell rfl, fun a h1 h2 h3 => (up_ne (by omega)).trans (e2 a (by omega))⟩
