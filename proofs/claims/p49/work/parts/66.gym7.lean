section RW12
variable {l : Launch} {G : GT} {M : MT} {fr lo mc ms : Nat} {Post : PT} {n0 nc ns pc : Nat} {L : List (Nat × Value)} {S : List Value} {f : HT} {n : Nat}
theorem aw_ldcSW {ix a : Nat} {tx : String} (hq : (M.1, ix, tx, a) ∈ wS) (ha : a < o0) (hdg : decode M.2.1 pc = .ok (.ldc_w ix, 3)) (k : AW l G M fr lo mc ms Post n0 nc ns (pc + 3) L (.ref a :: S) f n) : AW l G M fr lo mc ms Post n0 nc ns pc L S f n := by
  intro p e s m args below meth c C ρ0 ρ H locs ls R T hT X
  have hZ := C.old.2.2.2.2.2.2.2.2.1 _ hq
  have h := k C (e := e) (below := below) (R.pos (v := .ref a) (old_ok R ha) R.okS)
  have e9 : cv ρ (.ref a) = (Value.ref (gO G a)) := congrArg Value.ref (old_at R ha)
  rw [List.map_cons, e9] at h
  obtain ⟨t, a1, b1⟩ := h T hT X
  exact ⟨t, X.ldcStringW C.hx C.own (text := tx) (a := gO G a) hZ.1 hZ.2 (g := F0 m pc ls (S.map (cv ρ))) rfl (by rw [C.hb]; exact hdg) t a1, b1⟩
end RW12
theorem bK.rc {f : HT} {c bp n m : Nat} {L : List Nat} (h : bK f c bp n L m) : RC f "java/lang/StringBuilder" c := by
  obtain ⟨N, B, ml, b0, -⟩ := h
  exact RC.w b0 rfl
theorem dec_1 {v : Nat} (h : v < 100) : (decN v).length ≤ 2 := by
  have e : (decN v).length = lenD v 9 := dgs_len v _
  rw [e]
  by_cases z : v < 10
  · rw [len_1 z]; decide
  · rw [len_2 (by omega) h]; exact Nat.le_refl _
theorem dec_8 {v : Nat} (h : v < 10 ^ 8) : (decN v).length ≤ 8 := by
  have e : (decN v).length = lenD v 9 := dgs_len v _
  rw [e]; exact (len_ex h).2.1
theorem star_hold (V : Nat → Nat) (k : Nat) : starN V k = holdB V k := by
  unfold starN holdB
  rw [decide_eq_decide, Nat.pos_iff_ne_zero]
/-- the card is being written: it holds L, the rest of the world as in H -/
def WC (H : HT) (x bp n : Nat) (f : HT) (bp' n' : Nat) (L : List Nat) : Prop := bK f (x + 111) bp' n' L 0 ∧ n ≤ n' ∧ (bp' = bp ∨ n ≤ bp') ∧ ∀ a, a < n → a ≠ x + 111 → a ≠ bp → f a = H a
theorem WC.step {H f f' : HT} {x bp n bp1 n1 n' : Nat} {L L' : List Nat} {y : Option Value} {r : Option Value ⊕ String} (hw : WC H x bp n f bp1 n1 L) (h : BX f (x + 111) bp1 n1 L' 0 y r f' n') : r = .inl y ∧ ∃ bp', WC H x bp n f' bp' n' L' := by
  obtain ⟨h1, bp', h2, h3, h4, h5, h6⟩ := h
  obtain ⟨w1, w2, w3, w4⟩ := hw
  refine ⟨h1, bp', h5, by omega, by omega, fun a z1 z2 z3 => ?_⟩
  rw [h6 a (by omega) z2 (by omega)]
  exact w4 a z1 z2 z3
theorem WC.none {H : HT} {x bp n : Nat} {L : List Nat} (h : bK H (x + 111) bp n L 0) : WC H x bp n H bp n L := ⟨h, Nat.le_refl _, Or.inl rfl, fun _ _ _ _ => rfl⟩
def cdS (s : SG) (L : List Nat) : SG := (s.1, s.2.1, s.2.2.1, s.2.2.2.1, s.2.2.2.2.1, (L.length, fun i => L.getD i 0))
theorem GW.card {H f : HT} {x bp n bp' n' : Nat} {s : SG} {L : List Nat} (h : GW H x bp n s) (hcn : x + 111 < n) (hw : WC H x bp n f bp' n' L) : GW f x bp' n' (cdS s L) := by
  obtain ⟨h0, ⟨J, B, h1, h1'⟩, ⟨J2, B2, h2⟩, ⟨J3, B3, h3, h3'⟩, h4, ⟨T, h5⟩, ⟨T', h6⟩, ⟨I, A, g, h7, h7'⟩, -, h9, h10⟩ := h
  obtain ⟨w1, w2, w3, w4⟩ := hw
  have e : ∀ a, x ≤ a → a < x + 111 → f a = H a := fun a z1 z2 => w4 a (by omega) (by omega) (by omega)
  refine ⟨(e x (Nat.le_refl _) (by omega)).trans h0, ⟨J, B, h1.fr fun a _ _ => e a (by omega) (by omega), h1'⟩, ⟨J2, B2, h2.fr fun a _ _ => e a (by omega) (by omega)⟩, ⟨J3, B3, h3.fr fun a _ _ => e a (by omega) (by omega), h3'⟩, h4.fr fun a _ _ => e a (by omega) (by omega), ⟨T, h5.fr fun a _ _ => e a (by omega) (by omega)⟩, ⟨T', h6.fr fun a _ _ => e a (by omega) (by omega)⟩, ⟨I, A, g, h7.fr fun a _ _ => e a (by omega) (by omega), h7'⟩, ⟨L, w1, rfl, fun i hi => rfl⟩, h9, by omega⟩
abbrev MX10_writeCard : MT := (RX10, cX10_writeCard, 2, (some .int), [], "writeCard")
set_option maxHeartbeats 4000000 in
theorem g_writeCard {l : Launch} {G : GT} {n : Nat} {H : HT} {x bp K : Nat} {s : SG} (hW : GW H x bp n s) (hSB : SB K s) (v : Int32) : AM l G yX10_writeCard (.code yX10_writeCard cX10_writeCard 2 (some .int)) 10 600 12 360 [.ref x, .int v] (H) n (GX [eIO] (qCard s.1 v).1 (.int (nI (qCard s.1 v).2.length)) x bp H n (cardS s (qCard s.1 v))) := by
  refine aw_enter (M := MX10_writeCard) rfl rfl (by decide +kernel) rfl (Nat.le_of_ble_eq_true rfl) ?_
  obtain ⟨h0, ⟨J, B, hst, hS⟩, ⟨Jb, Bb, hbp⟩, ⟨Js, Bs, hsn, hSs⟩, ⟨a9, g9, ha9, hk9, q0, q1, qg, qs, qr⟩, ⟨T1, hk1⟩, ⟨T4, hk4⟩, ⟨Ip, Ap, gp, hpp, hTP⟩, ⟨Lc, hcd, hcl, hcx⟩, hox, hbx⟩ := id hW
  have hB := hSB.1
  have hcn := hB.cnt
  show AW l G MX10_writeCard 10 600 12 360 _ n 0 0 0 [(0, .ref x), (1, .int v)] [] _ n
  refine aw_aload_n dX10_writeCard_0 rfl rfl ?_
  refine aw_iload_n dX10_writeCard_1 rfl rfl ?_
  rcases Classical.em (¬ (isK v (s.1 2) = true)) with e_1 | e_1
  · have hq := g_reqP (l := l) (G := G) (n := n) h0 hst hS hB v
    rw [if_neg e_1] at hq
    refine aw_cX (as := [Value.int v]) (rest := []) (MV.c mV_X10_requirePendulum) hq ml_X10_111 (RC.w h0 rfl) dX10_writeCard_2 rfl rfl (by decide) (Nat.le_of_ble_eq_true rfl) (by decide) rfl ?_
    have hq9 : qCard s.1 v = (1, []) := if_neg e_1
    have hu : cardS s (qCard s.1 v) = s := by unfold cardS; rw [hq9]; rfl
    rw [hu, hq9]
    exact GX.bad hW rfl
  have e_1 := Classical.not_not.mp e_1
  have hq := g_reqP (l := l) (G := G) (n := n) h0 hst hS hB v
  rw [if_pos e_1] at hq
  refine aw_cV (as := [Value.int v]) (rest := []) (MV.c mV_X10_requirePendulum) (HQ.v hq) ml_X10_111 (RC.w h0 rfl) dX10_writeCard_2 rfl rfl (by decide) (Nat.le_of_ble_eq_true rfl) (by decide) ?_
  obtain ⟨k, hk, rfl⟩ := isK_of (by omega) e_1
  have nk := nIc (show k < 2 ^ 31 by omega)
  have hlx := hB.len (k := k) (by omega)
  have hax := hB.amp (k := k) (by omega)
  have hsx := hB.start (k := k) (by omega)
  have h0x := hB.now
  have hkx := hB.kk
  have hd1 := dec_1 (v := k) (by omega)
  have hd2 := dec_1 (v := s.1 (4 + k)) (by omega)
  have hd3 := dec_1 (v := s.1 (12 + k)) (by omega)
  have hd4 := dec_8 (v := s.1 (20 + k)) (by omega)
  obtain ⟨Nc, Bc, mlc, b0, b1, hN, hL, -, hne, hcnn, hbn, hBc, hqc⟩ := id hcd
  have hw0 := WC.none hcd
  have hs0 := hst
  refine aw_aload_n dX10_writeCard_5 rfl rfl ?_
  refine aw_get (v := .ref (x + 111)) fl_X10_53 (h0) rfl dX10_writeCard_6 ?_
  refine aw_iconst_n 0 dX10_writeCard_9 (by decide) ?_
  refine aw_cP (as := [Value.int (nI 0)]) (rest := []) mC_J4_setLength_d00df (b4_set hw0.1) ml_X10_273 hw0.1.rc dX10_writeCard_10 rfl rfl (by decide) (Nat.le_of_ble_eq_true rfl) (by decide) (fun _ _ _ h => by cases h.1) (fun r2 f2 n2 _ h => ?_)
  obtain ⟨g1, bp2, hw2⟩ := hw0.step h
  cases g1
  have hs2 := hst.fr (f := f2) (fun a _ _ => hw2.2.2.2 a (by omega) (by omega) (by omega))
  refine aw_aload_n dX10_writeCard_13 rfl rfl ?_
  refine aw_get (v := .ref (x + 111)) fl_X10_53 ((hw2.2.2.2 x (by omega) (by omega) (by omega)).trans h0) rfl dX10_writeCard_14 ?_
  refine aw_iload_n dX10_writeCard_17 rfl rfl ?_
  refine aw_cP (as := [Value.int (nI k)]) (rest := []) mC_J4_append_bf812 (b4_int hw2.1 (v := k) (by omega) (by simp only [List.length_append, List.length_cons, List.length_nil]; omega)) ml_X10_276 hw2.1.rc dX10_writeCard_18 rfl rfl (by decide) (Nat.le_of_ble_eq_true rfl) (by decide) (fun _ _ _ h => by cases h.1) (fun r3 f3 n3 _ h => ?_)
  obtain ⟨g1, bp3, hw3⟩ := hw2.step h
  cases g1
  have hs3 := hst.fr (f := f3) (fun a _ _ => hw3.2.2.2 a (by omega) (by omega) (by omega))
  refine aw_pop dX10_writeCard_21 rfl ?_
  refine aw_aload_n dX10_writeCard_22 rfl rfl ?_
  refine aw_get (v := .ref (x + 111)) fl_X10_53 ((hw3.2.2.2 x (by omega) (by omega) (by omega)).trans h0) rfl dX10_writeCard_23 ?_
  refine aw_bipush_n 58 dX10_writeCard_26 (by decide) ?_
  refine aw_cP (as := [Value.int (nI 58)]) (rest := []) mC_J4_append_cf468 (b4_char hw3.1 (q9 := 58) (by decide) (by simp only [List.length_append, List.length_cons, List.length_nil]; omega)) ml_X10_280 hw3.1.rc dX10_writeCard_28 rfl rfl (by decide) (Nat.le_of_ble_eq_true rfl) (by decide) (fun _ _ _ h => by cases h.1) (fun r4 f4 n4 _ h => ?_)
  obtain ⟨g1, bp4, hw4⟩ := hw3.step h
  cases g1
  have hs4 := hst.fr (f := f4) (fun a _ _ => hw4.2.2.2 a (by omega) (by omega) (by omega))
  refine aw_pop dX10_writeCard_31 rfl ?_
  refine aw_aload_n dX10_writeCard_32 rfl rfl ?_
  refine aw_get (v := .ref (x + 111)) fl_X10_53 ((hw4.2.2.2 x (by omega) (by omega) (by omega)).trans h0) rfl dX10_writeCard_33 ?_
  refine aw_aload_n dX10_writeCard_36 rfl rfl ?_
  refine aw_get (v := .ref (x + 1)) fl_X10_10 ((hw4.2.2.2 x (by omega) (by omega) (by omega)).trans h0) rfl dX10_writeCard_37 ?_
  refine aw_iload_n dX10_writeCard_40 rfl rfl ?_
  have hq_41 := s_len (l := l) (G := G) (n := n4) (f := f4) (o := x + 1) hS hB hk
  rw [hs4.self] at hq_41
  refine aw_cI (as := [Value.int (nI k)]) (rest := [Value.ref (x + 111)]) (MV.c mV_X8_lengthAt) hq_41 ml_X10_114 (RC.w hs4.obj rfl) dX10_writeCard_41 rfl rfl (by decide) (Nat.le_of_ble_eq_true rfl) (by decide) ?_
  refine aw_cP (as := [Value.int (nI (s.1 (4 + k)))]) (rest := []) mC_J4_append_bf812 (b4_int hw4.1 (v := s.1 (4 + k)) (by omega) (by simp only [List.length_append, List.length_cons, List.length_nil]; omega)) ml_X10_276 hw4.1.rc dX10_writeCard_44 rfl rfl (by decide) (Nat.le_of_ble_eq_true rfl) (by decide) (fun _ _ _ h => by cases h.1) (fun r5 f5 n5 _ h => ?_)
  obtain ⟨g1, bp5, hw5⟩ := hw4.step h
  cases g1
  have hs5 := hst.fr (f := f5) (fun a _ _ => hw5.2.2.2 a (by omega) (by omega) (by omega))
  refine aw_pop dX10_writeCard_47 rfl ?_
  refine aw_aload_n dX10_writeCard_48 rfl rfl ?_
  refine aw_get (v := .ref (x + 111)) fl_X10_53 ((hw5.2.2.2 x (by omega) (by omega) (by omega)).trans h0) rfl dX10_writeCard_49 ?_
  refine aw_ldcSW (tx := "cm ") (List.mem_of_getElem? (i := 0) rfl) (by decide) dX10_writeCard_52 ?_
  refine aw_cP (as := [Value.ref 15]) (rest := []) mC_J4_append_15ec4 (b4_str15 hw5.1 (by simp only [List.length_append, List.length_cons, List.length_nil]; omega)) ml_X10_285 hw5.1.rc dX10_writeCard_55 rfl rfl (by decide) (Nat.le_of_ble_eq_true rfl) (by decide) (fun _ _ _ h => by cases h.1) (fun r6 f6 n6 _ h => ?_)
  obtain ⟨g1, bp6, hw6⟩ := hw5.step h
  cases g1
  have hs6 := hst.fr (f := f6) (fun a _ _ => hw6.2.2.2 a (by omega) (by omega) (by omega))
  refine aw_pop dX10_writeCard_58 rfl ?_
  refine aw_aload_n dX10_writeCard_59 rfl rfl ?_
  refine aw_get (v := .ref (x + 1)) fl_X10_10 ((hw6.2.2.2 x (by omega) (by omega) (by omega)).trans h0) rfl dX10_writeCard_60 ?_
  refine aw_iload_n dX10_writeCard_63 rfl rfl ?_
  have hq_64 := s_swinging (l := l) (G := G) (n := n6) (f := f6) (o := x + 1) hS hB hk
  rw [hs6.self] at hq_64
  refine aw_cI (as := [Value.int (nI k)]) (rest := []) (MV.c mV_X8_isSwinging) hq_64 ml_X10_288 (RC.w hs6.obj rfl) dX10_writeCard_64 rfl rfl (by decide) (Nat.le_of_ble_eq_true rfl) (by decide) ?_
  refine aw_if_eq_b (tgt := 115) dX10_writeCard_67 (by decide) (fun c_7 => ?_) (fun c_7 => ?_)
  · refine aw_aload_n dX10_writeCard_115 rfl rfl ?_
    refine aw_get (v := .ref (x + 111)) fl_X10_53 ((hw6.2.2.2 x (by omega) (by omega) (by omega)).trans h0) rfl dX10_writeCard_116 ?_
    refine aw_ldcSW (tx := "rest") (List.mem_of_getElem? (i := 1) rfl) (by decide) dX10_writeCard_119 ?_
    refine aw_cP (as := [Value.ref 16]) (rest := []) mC_J4_append_15ec4 (b4_str16 hw6.1 (by simp only [List.length_append, List.length_cons, List.length_nil]; omega)) ml_X10_285 hw6.1.rc dX10_writeCard_122 rfl rfl (by decide) (Nat.le_of_ble_eq_true rfl) (by decide) (fun _ _ _ h => by cases h.1) (fun r8 f8 n8 _ h => ?_)
    obtain ⟨g1, bp8, hw8⟩ := hw6.step h
    cases g1
    have hs8 := hst.fr (f := f8) (fun a _ _ => hw8.2.2.2 a (by omega) (by omega) (by omega))
    refine aw_pop dX10_writeCard_125 rfl ?_
    refine aw_aload_n dX10_writeCard_126 rfl rfl ?_
    refine aw_get (v := .ref (x + 1)) fl_X10_10 ((hw8.2.2.2 x (by omega) (by omega) (by omega)).trans h0) rfl dX10_writeCard_127 ?_
    refine aw_iload_n dX10_writeCard_130 rfl rfl ?_
    have hq_131 := s_holds (l := l) (G := G) (n := n8) (f := f8) (o := x + 1) hS hB hk
    rw [hs8.self] at hq_131
    refine aw_cI (as := [Value.int (nI k)]) (rest := []) (MV.c mV_X8_holdsRecord) hq_131 ml_X10_294 (RC.w hs8.obj rfl) dX10_writeCard_131 rfl rfl (by decide) (Nat.le_of_ble_eq_true rfl) (by decide) ?_
    refine aw_if_eq_b (tgt := 147) dX10_writeCard_134 (by decide) (fun c_9 => ?_) (fun c_9 => ?_)
    · refine aw_aload_n dX10_writeCard_147 rfl rfl ?_
      refine aw_get (v := .ref (x + 111)) fl_X10_53 ((hw8.2.2.2 x (by omega) (by omega) (by omega)).trans h0) rfl dX10_writeCard_148 ?_
      refine aw_cI (as := []) (rest := []) mC_J4_length_8abf5 (b4_len hw8.1) ml_X10_297 hw8.1.rc dX10_writeCard_151 rfl rfl (by decide) (Nat.le_of_ble_eq_true rfl) (by decide) ?_
      have hz : holdB s.1 k = false := c_9
      have hz2 : s.1 (12 + k) = 0 := Classical.not_not.mp (of_decide_eq_false c_7)
      have hcl9 : cardL s.1 k = (((((([] : List Nat) ++ decN k) ++ [58]) ++ decN (s.1 (4 + k))) ++ [99, 109, 32]) ++ [114, 101, 115, 116]) := by
        simp [cardL, cardB, cardA, star_hold, hz, hz2, List.append_assoc]
      have hq9 : qCard s.1 (nI k) = (0, (((((([] : List Nat) ++ decN k) ++ [58]) ++ decN (s.1 (4 + k))) ++ [99, 109, 32]) ++ [114, 101, 115, 116])) := by unfold qCard; rw [if_pos e_1, nk, hcl9]
      have hu : cardS s (qCard s.1 (nI k)) = cdS s (((((([] : List Nat) ++ decN k) ++ [58]) ++ decN (s.1 (4 + k))) ++ [99, 109, 32]) ++ [114, 101, 115, 116]) := by unfold cardS; rw [hq9]; rfl
      refine aw_iret rfl (by decide) (by decide) dX10_writeCard_154 ⟨by rw [hq9]; rfl, hw8.2.1, _, hw8.2.2.1, by rw [hu]; exact hW.card hcnn hw8, fun a h1 h2 h3 => hw8.2.2.2 a h1 (by omega) h3⟩
    · refine aw_aload_n dX10_writeCard_137 rfl rfl ?_
      refine aw_get (v := .ref (x + 111)) fl_X10_53 ((hw8.2.2.2 x (by omega) (by omega) (by omega)).trans h0) rfl dX10_writeCard_138 ?_
      refine aw_bipush_n 42 dX10_writeCard_141 (by decide) ?_
      refine aw_cP (as := [Value.int (nI 42)]) (rest := []) mC_J4_append_cf468 (b4_char hw8.1 (q9 := 42) (by decide) (by simp only [List.length_append, List.length_cons, List.length_nil]; omega)) ml_X10_280 hw8.1.rc dX10_writeCard_143 rfl rfl (by decide) (Nat.le_of_ble_eq_true rfl) (by decide) (fun _ _ _ h => by cases h.1) (fun r10 f10 n10 _ h => ?_)
      obtain ⟨g1, bp10, hw10⟩ := hw8.step h
      cases g1
      have hs10 := hst.fr (f := f10) (fun a _ _ => hw10.2.2.2 a (by omega) (by omega) (by omega))
      refine aw_pop dX10_writeCard_146 rfl ?_
      refine aw_aload_n dX10_writeCard_147 rfl rfl ?_
      refine aw_get (v := .ref (x + 111)) fl_X10_53 ((hw10.2.2.2 x (by omega) (by omega) (by omega)).trans h0) rfl dX10_writeCard_148 ?_
      refine aw_cI (as := []) (rest := []) mC_J4_length_8abf5 (b4_len hw10.1) ml_X10_297 hw10.1.rc dX10_writeCard_151 rfl rfl (by decide) (Nat.le_of_ble_eq_true rfl) (by decide) ?_
      have hz : holdB s.1 k = true := c_9
      have hz2 : s.1 (12 + k) = 0 := Classical.not_not.mp (of_decide_eq_false c_7)
      have hcl9 : cardL s.1 k = ((((((([] : List Nat) ++ decN k) ++ [58]) ++ decN (s.1 (4 + k))) ++ [99, 109, 32]) ++ [114, 101, 115, 116]) ++ [42]) := by
        simp [cardL, cardB, cardA, star_hold, hz, hz2, List.append_assoc]
      have hq9 : qCard s.1 (nI k) = (0, ((((((([] : List Nat) ++ decN k) ++ [58]) ++ decN (s.1 (4 + k))) ++ [99, 109, 32]) ++ [114, 101, 115, 116]) ++ [42])) := by unfold qCard; rw [if_pos e_1, nk, hcl9]
      have hu : cardS s (qCard s.1 (nI k)) = cdS s ((((((([] : List Nat) ++ decN k) ++ [58]) ++ decN (s.1 (4 + k))) ++ [99, 109, 32]) ++ [114, 101, 115, 116]) ++ [42]) := by unfold cardS; rw [hq9]; rfl
      refine aw_iret rfl (by decide) (by decide) dX10_writeCard_154 ⟨by rw [hq9]; rfl, hw10.2.1, _, hw10.2.2.1, by rw [hu]; exact hW.card hcnn hw10, fun a h1 h2 h3 => hw10.2.2.2 a h1 (by omega) h3⟩
  · refine aw_aload_n dX10_writeCard_70 rfl rfl ?_
    refine aw_get (v := .ref (x + 111)) fl_X10_53 ((hw6.2.2.2 x (by omega) (by omega) (by omega)).trans h0) rfl dX10_writeCard_71 ?_
    refine aw_aload_n dX10_writeCard_74 rfl rfl ?_
    refine aw_get (v := .ref (x + 1)) fl_X10_10 ((hw6.2.2.2 x (by omega) (by omega) (by omega)).trans h0) rfl dX10_writeCard_75 ?_
    refine aw_iload_n dX10_writeCard_78 rfl rfl ?_
    have hq_79 := s_amp (l := l) (G := G) (n := n6) (f := f6) (o := x + 1) hS hB hk
    rw [hs6.self] at hq_79
    refine aw_cI (as := [Value.int (nI k)]) (rest := [Value.ref (x + 111)]) (MV.c mV_X8_amplitudeAt) hq_79 ml_X10_120 (RC.w hs6.obj rfl) dX10_writeCard_79 rfl rfl (by decide) (Nat.le_of_ble_eq_true rfl) (by decide) ?_
    refine aw_cP (as := [Value.int (nI (s.1 (12 + k)))]) (rest := []) mC_J4_append_bf812 (b4_int hw6.1 (v := s.1 (12 + k)) (by omega) (by simp only [List.length_append, List.length_cons, List.length_nil]; omega)) ml_X10_276 hw6.1.rc dX10_writeCard_82 rfl rfl (by decide) (Nat.le_of_ble_eq_true rfl) (by decide) (fun _ _ _ h => by cases h.1) (fun r11 f11 n11 _ h => ?_)
    obtain ⟨g1, bp11, hw11⟩ := hw6.step h
    cases g1
    have hs11 := hst.fr (f := f11) (fun a _ _ => hw11.2.2.2 a (by omega) (by omega) (by omega))
    refine aw_pop dX10_writeCard_85 rfl ?_
    refine aw_aload_n dX10_writeCard_86 rfl rfl ?_
    refine aw_get (v := .ref (x + 111)) fl_X10_53 ((hw11.2.2.2 x (by omega) (by omega) (by omega)).trans h0) rfl dX10_writeCard_87 ?_
    refine aw_bipush_n 64 dX10_writeCard_90 (by decide) ?_
    refine aw_cP (as := [Value.int (nI 64)]) (rest := []) mC_J4_append_cf468 (b4_char hw11.1 (q9 := 64) (by decide) (by simp only [List.length_append, List.length_cons, List.length_nil]; omega)) ml_X10_280 hw11.1.rc dX10_writeCard_92 rfl rfl (by decide) (Nat.le_of_ble_eq_true rfl) (by decide) (fun _ _ _ h => by cases h.1) (fun r12 f12 n12 _ h => ?_)
    obtain ⟨g1, bp12, hw12⟩ := hw11.step h
    cases g1
    have hs12 := hst.fr (f := f12) (fun a _ _ => hw12.2.2.2 a (by omega) (by omega) (by omega))
    refine aw_pop dX10_writeCard_95 rfl ?_
    refine aw_aload_n dX10_writeCard_96 rfl rfl ?_
    refine aw_get (v := .ref (x + 111)) fl_X10_53 ((hw12.2.2.2 x (by omega) (by omega) (by omega)).trans h0) rfl dX10_writeCard_97 ?_
    refine aw_aload_n dX10_writeCard_100 rfl rfl ?_
    refine aw_get (v := .ref (x + 1)) fl_X10_10 ((hw12.2.2.2 x (by omega) (by omega) (by omega)).trans h0) rfl dX10_writeCard_101 ?_
    refine aw_iload_n dX10_writeCard_104 rfl rfl ?_
    have hq_105 := s_start (l := l) (G := G) (n := n12) (f := f12) (o := x + 1) hS hB hk
    rw [hs12.self] at hq_105
    refine aw_cI (as := [Value.int (nI k)]) (rest := [Value.ref (x + 111)]) (MV.c mV_X8_startAt) hq_105 ml_X10_126 (RC.w hs12.obj rfl) dX10_writeCard_105 rfl rfl (by decide) (Nat.le_of_ble_eq_true rfl) (by decide) ?_
    refine aw_cP (as := [Value.int (nI (s.1 (20 + k)))]) (rest := []) mC_J4_append_bf812 (b4_int hw12.1 (v := s.1 (20 + k)) (by omega) (by simp only [List.length_append, List.length_cons, List.length_nil]; omega)) ml_X10_276 hw12.1.rc dX10_writeCard_108 rfl rfl (by decide) (Nat.le_of_ble_eq_true rfl) (by decide) (fun _ _ _ h => by cases h.1) (fun r13 f13 n13 _ h => ?_)
    obtain ⟨g1, bp13, hw13⟩ := hw12.step h
    cases g1
    have hs13 := hst.fr (f := f13) (fun a _ _ => hw13.2.2.2 a (by omega) (by omega) (by omega))
    refine aw_pop dX10_writeCard_111 rfl ?_
    refine aw_goto (tgt := 126) dX10_writeCard_112 (by decide) ?_
    refine aw_aload_n dX10_writeCard_126 rfl rfl ?_
    refine aw_get (v := .ref (x + 1)) fl_X10_10 ((hw13.2.2.2 x (by omega) (by omega) (by omega)).trans h0) rfl dX10_writeCard_127 ?_
    refine aw_iload_n dX10_writeCard_130 rfl rfl ?_
    have hq_131 := s_holds (l := l) (G := G) (n := n13) (f := f13) (o := x + 1) hS hB hk
    rw [hs13.self] at hq_131
    refine aw_cI (as := [Value.int (nI k)]) (rest := []) (MV.c mV_X8_holdsRecord) hq_131 ml_X10_294 (RC.w hs13.obj rfl) dX10_writeCard_131 rfl rfl (by decide) (Nat.le_of_ble_eq_true rfl) (by decide) ?_
    refine aw_if_eq_b (tgt := 147) dX10_writeCard_134 (by decide) (fun c_14 => ?_) (fun c_14 => ?_)
    · refine aw_aload_n dX10_writeCard_147 rfl rfl ?_
      refine aw_get (v := .ref (x + 111)) fl_X10_53 ((hw13.2.2.2 x (by omega) (by omega) (by omega)).trans h0) rfl dX10_writeCard_148 ?_
      refine aw_cI (as := []) (rest := []) mC_J4_length_8abf5 (b4_len hw13.1) ml_X10_297 hw13.1.rc dX10_writeCard_151 rfl rfl (by decide) (Nat.le_of_ble_eq_true rfl) (by decide) ?_
      have hz : holdB s.1 k = false := c_14
      have hz2 : s.1 (12 + k) ≠ 0 := of_decide_eq_true c_7
      have hcl9 : cardL s.1 k = (((((((([] : List Nat) ++ decN k) ++ [58]) ++ decN (s.1 (4 + k))) ++ [99, 109, 32]) ++ decN (s.1 (12 + k))) ++ [64]) ++ decN (s.1 (20 + k))) := by
        simp [cardL, cardB, cardA, star_hold, hz, hz2, List.append_assoc]
      have hq9 : qCard s.1 (nI k) = (0, (((((((([] : List Nat) ++ decN k) ++ [58]) ++ decN (s.1 (4 + k))) ++ [99, 109, 32]) ++ decN (s.1 (12 + k))) ++ [64]) ++ decN (s.1 (20 + k)))) := by unfold qCard; rw [if_pos e_1, nk, hcl9]
      have hu : cardS s (qCard s.1 (nI k)) = cdS s (((((((([] : List Nat) ++ decN k) ++ [58]) ++ decN (s.1 (4 + k))) ++ [99, 109, 32]) ++ decN (s.1 (12 + k))) ++ [64]) ++ decN (s.1 (20 + k))) := by unfold cardS; rw [hq9]; rfl
      refine aw_iret rfl (by decide) (by decide) dX10_writeCard_154 ⟨by rw [hq9]; rfl, hw13.2.1, _, hw13.2.2.1, by rw [hu]; exact hW.card hcnn hw13, fun a h1 h2 h3 => hw13.2.2.2 a h1 (by omega) h3⟩
    · refine aw_aload_n dX10_writeCard_137 rfl rfl ?_
      refine aw_get (v := .ref (x + 111)) fl_X10_53 ((hw13.2.2.2 x (by omega) (by omega) (by omega)).trans h0) rfl dX10_writeCard_138 ?_
      refine aw_bipush_n 42 dX10_writeCard_141 (by decide) ?_
      refine aw_cP (as := [Value.int (nI 42)]) (rest := []) mC_J4_append_cf468 (b4_char hw13.1 (q9 := 42) (by decide) (by simp only [List.length_append, List.length_cons, List.length_nil]; omega)) ml_X10_280 hw13.1.rc dX10_writeCard_143 rfl rfl (by decide) (Nat.le_of_ble_eq_true rfl) (by decide) (fun _ _ _ h => by cases h.1) (fun r15 f15 n15 _ h => ?_)
      obtain ⟨g1, bp15, hw15⟩ := hw13.step h
      cases g1
      have hs15 := hst.fr (f := f15) (fun a _ _ => hw15.2.2.2 a (by omega) (by omega) (by omega))
      refine aw_pop dX10_writeCard_146 rfl ?_
      refine aw_aload_n dX10_writeCard_147 rfl rfl ?_
      refine aw_get (v := .ref (x + 111)) fl_X10_53 ((hw15.2.2.2 x (by omega) (by omega) (by omega)).trans h0) rfl dX10_writeCard_148 ?_
      refine aw_cI (as := []) (rest := []) mC_J4_length_8abf5 (b4_len hw15.1) ml_X10_297 hw15.1.rc dX10_writeCard_151 rfl rfl (by decide) (Nat.le_of_ble_eq_true rfl) (by decide) ?_
      have hz : holdB s.1 k = true := c_14
      have hz2 : s.1 (12 + k) ≠ 0 := of_decide_eq_true c_7
      have hcl9 : cardL s.1 k = ((((((((([] : List Nat) ++ decN k) ++ [58]) ++ decN (s.1 (4 + k))) ++ [99, 109, 32]) ++ decN (s.1 (12 + k))) ++ [64]) ++ decN (s.1 (20 + k))) ++ [42]) := by
        simp [cardL, cardB, cardA, star_hold, hz, hz2, List.append_assoc]
      have hq9 : qCard s.1 (nI k) = (0, ((((((((([] : List Nat) ++ decN k) ++ [58]) ++ decN (s.1 (4 + k))) ++ [99, 109, 32]) ++ decN (s.1 (12 + k))) ++ [64]) ++ decN (s.1 (20 + k))) ++ [42])) := by unfold qCard; rw [if_pos e_1, nk, hcl9]
      have hu : cardS s (qCard s.1 (nI k)) = cdS s ((((((((([] : List Nat) ++ decN k) ++ [58]) ++ decN (s.1 (4 + k))) ++ [99, 109, 32]) ++ decN (s.1 (12 + k))) ++ [64]) ++ decN (s.1 (20 + k))) ++ [42]) := by unfold cardS; rw [hq9]; rfl
      refine aw_iret rfl (by decide) (by decide) dX10_writeCard_154 ⟨by rw [hq9]; rfl, hw15.2.1, _, hw15.2.2.1, by rw [hu]; exact hW.card hcnn hw15, fun a h1 h2 h3 => hw15.2.2.2 a h1 (by omega) h3⟩
