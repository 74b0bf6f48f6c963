theorem rg_m1 {tn m sp : Nat} {tx : Nat → Nat} (hm : m ≤ 3) : rgI tn tx m sp = -1 ↔ ¬ isD (hN tn tx sp) = true := by
  unfold rgI
  by_cases h : isD (hN tn tx sp) = true
  · rw [if_pos h]
    have h1 := run_v (tn := tn) (tx := tx) m 0 sp
    have h2 : 10 ^ m ≤ 10 ^ 3 := Nat.pow_le_pow_right (by decide) hm
    exact ⟨fun z => (nI_m1 (show (runN tn tx m 0 sp).1 < 2 ^ 31 by omega) z).elim, fun z => absurd h z⟩
  · rw [if_neg h]; exact ⟨fun _ => h, fun _ => rfl⟩
theorem rg_y {tn m sp : Nat} {tx : Nat → Nat} (h : isD (hN tn tx sp) = true) : rgI tn tx m sp = nI (runN tn tx m 0 sp).1 := if_pos h
theorem rg_tn {tn m sp : Nat} {tx : Nat → Nat} (h : sp ≤ tn) : rgP tn tx m sp ≤ tn := by
  unfold rgP
  split
  · exact run_tn _ _ _ h
  · exact h
theorem run_b {tn m sp : Nat} {tx : Nat → Nat} (hm : m ≤ 3) : (runN tn tx m 0 sp).1 ≤ 1000 := by
  have h1 := run_v (tn := tn) (tx := tx) m 0 sp
  have h2 : 10 ^ m ≤ 10 ^ 3 := Nat.pow_le_pow_right (by decide) hm
  omega
theorem wc_num_y {tn q w : Nat} {tx : Nat → Nat} (hw : w = 0 ∨ w = 3 ∨ w = 4 ∨ w = 6) (h : isD (hN tn tx q) = true) : ∃ ch, wcN tn tx w (q, false) = ((ch, (runN tn tx 3 0 q).1, 0), (rgP tn tx 3 q, false)) ∧ wcE (ch, (runN tn tx 3 0 q).1, 0) = (w, 0, (runN tn tx 3 0 q).1) := by
  have e := dg_y (m := 3) h
  rcases hw with rfl | rfl | rfl | rfl
  · exact ⟨104, by show ((104, (dgP tn tx 3 (q, false)).1, 0), (dgP tn tx 3 (q, false)).2) = _; rw [e], rfl⟩
  · exact ⟨102, by show ((102, (dgP tn tx 3 (q, false)).1, 0), (dgP tn tx 3 (q, false)).2) = _; rw [e], rfl⟩
  · exact ⟨108, by show ((108, (dgP tn tx 3 (q, false)).1, 0), (dgP tn tx 3 (q, false)).2) = _; rw [e], rfl⟩
  · exact ⟨116, by show ((116, (dgP tn tx 3 (q, false)).1, 0), (dgP tn tx 3 (q, false)).2) = _; rw [e], rfl⟩
theorem wc_num_n {tn q w : Nat} {tx : Nat → Nat} (hw : w = 0 ∨ w = 3 ∨ w = 4 ∨ w = 6) (h : ¬ isD (hN tn tx q) = true) : (wcN tn tx w (q, false)).2 = (rgP tn tx 3 q, true) := by
  have e := dg_n (m := 3) h
  rcases hw with rfl | rfl | rfl | rfl <;> (show (dgP tn tx 3 (q, false)).2 = _; rw [e])
theorem wc_dig_y {tn q w : Nat} {tx : Nat → Nat} (hw : w = 2 ∨ w = 5) (h : isD (hN tn tx q) = true) : ∃ ch, wcN tn tx w (q, false) = ((ch, (runN tn tx 1 0 q).1, 0), (rgP tn tx 1 q, false)) ∧ wcE (ch, (runN tn tx 1 0 q).1, 0) = (w, (runN tn tx 1 0 q).1, 0) := by
  have e := dg_y (m := 1) h
  rcases hw with rfl | rfl
  · exact ⟨99, by show ((99, (dgP tn tx 1 (q, false)).1, 0), (dgP tn tx 1 (q, false)).2) = _; rw [e], rfl⟩
  · exact ⟨117, by show ((117, (dgP tn tx 1 (q, false)).1, 0), (dgP tn tx 1 (q, false)).2) = _; rw [e], rfl⟩
theorem need_t {tn q c : Nat} {tx : Nat → Nat} : needN tn tx (q, true) c = (q, true) := if_neg (fun z => Bool.noConfusion z.1)
theorem dg_t {tn q m : Nat} {tx : Nat → Nat} : dgP tn tx m (q, true) = (0, (q, true)) := if_neg (fun z => Bool.noConfusion z.1)
theorem wc_dig_n {tn q w : Nat} {tx : Nat → Nat} (hw : w = 1 ∨ w = 2 ∨ w = 5) (h : ¬ isD (hN tn tx q) = true) : (wcN tn tx w (q, false)).2 = (rgP tn tx 1 q, true) := by
  have e := dg_n (m := 1) h
  rcases hw with rfl | rfl | rfl
  · show (dgP tn tx 3 (needN tn tx (dgP tn tx 1 (q, false)).2 32)).2 = _
    rw [e, need_t, dg_t]
  · show (dgP tn tx 1 (q, false)).2 = _; rw [e]
  · show (dgP tn tx 1 (q, false)).2 = _; rw [e]
theorem wc_p_b {tn q : Nat} {tx : Nat → Nat} (h : isD (hN tn tx q) = true) (h2 : ¬ hN tn tx (rgP tn tx 1 q) = 32) : (wcN tn tx 1 (q, false)).2 = (rgP tn tx 1 q, true) := by
  show (dgP tn tx 3 (needN tn tx (dgP tn tx 1 (q, false)).2 32)).2 = _
  rw [dg_y (m := 1) h, show needN tn tx (rgP tn tx 1 q, false) 32 = (rgP tn tx 1 q, true) from if_neg (fun z => h2 z.2), dg_t]
theorem wc_p_n {tn q : Nat} {tx : Nat → Nat} (h : isD (hN tn tx q) = true) (h2 : hN tn tx (rgP tn tx 1 q) = 32) (h3 : ¬ isD (hN tn tx (rgP tn tx 1 q + 1)) = true) : (wcN tn tx 1 (q, false)).2 = (rgP tn tx 3 (rgP tn tx 1 q + 1), true) := by
  show (dgP tn tx 3 (needN tn tx (dgP tn tx 1 (q, false)).2 32)).2 = _
  rw [dg_y (m := 1) h, show needN tn tx (rgP tn tx 1 q, false) 32 = (rgP tn tx 1 q + 1, false) from if_pos ⟨rfl, h2⟩, dg_n (m := 3) h3]
theorem wc_p_y {tn q : Nat} {tx : Nat → Nat} (h : isD (hN tn tx q) = true) (h2 : hN tn tx (rgP tn tx 1 q) = 32) (h3 : isD (hN tn tx (rgP tn tx 1 q + 1)) = true) : wcN tn tx 1 (q, false) = ((112, (runN tn tx 1 0 q).1, (runN tn tx 3 0 (rgP tn tx 1 q + 1)).1), (rgP tn tx 3 (rgP tn tx 1 q + 1), false)) := by
  show ((112, (dgP tn tx 1 (q, false)).1, (dgP tn tx 3 (needN tn tx (dgP tn tx 1 (q, false)).2 32)).1), (dgP tn tx 3 (needN tn tx (dgP tn tx 1 (q, false)).2 32)).2) = _
  rw [dg_y (m := 1) h, show needN tn tx (rgP tn tx 1 q, false) 32 = (rgP tn tx 1 q + 1, false) from if_pos ⟨rfl, h2⟩, dg_y (m := 3) h3]
theorem CE_mv {A A' : Nat → Nat → Int32} {g g' : Nat → Option Nat} {i : Nat} {c : Nat × Nat × Nat} (h : CE A g i c) (e : g' i = g i ∧ A' 1 i = A 1 i ∧ A' 2 i = A 2 i) : CE A' g' i c := ⟨e.1.trans h.1, e.2.1.trans h.2.1, e.2.2.trans h.2.2⟩
theorem CE_snoc {A A' : Nat → Nat → Int32} {g g' : Nat → Option Nat} {D : List (Nat × Nat × Nat)} {i : Nat} {c : Nat × Nat × Nat} (hl : D.length = i) (h : ∀ k, k < i → CE A g k (D.getD k (0, 0, 0))) (e : ∀ k, k < i → g' k = g k ∧ A' 1 k = A 1 k ∧ A' 2 k = A 2 k) (hc : CE A' g' i c) : ∀ k, k < (D ++ [c]).length → CE A' g' k ((D ++ [c]).getD k (0, 0, 0)) := by
  intro k hk
  rw [List.length_append] at hk
  have hk : k < D.length + 1 := hk
  by_cases z : k = i
  · rw [z, List.getD_eq_getElem?_getD, List.getElem?_append_right (by omega), hl, Nat.sub_self]
    exact hc
  · have := CE_mv (h k (by omega)) (e k (by omega))
    rw [List.getD_eq_getElem?_getD, List.getElem?_append_left (by omega), ← List.getD_eq_getElem?_getD]
    exact this
def RWo (f : HT) (o : Nat) (I : Nat → Int32) (A : Nat → Nat → Int32) (g : Nat → Option Nat) (tn : Nat) (tx : Nat → Nat) (sp n : Nat) : PT := fun r f' n' => n' = n ∧ ((∃ w, w < 7 ∧ fitW tn tx sp w = (wdL w).length ∧ r = .inl (some (.ref (w + 1))) ∧ f' = pU f o (va_up I 6 (nI (sp + (wdL w).length))) A g) ∨ ((∀ w, w < 7 → fitW tn tx sp w ≠ (wdL w).length) ∧ r = .inl (some .null) ∧ f' = pU f o (va_up I 6 (nI (sp + mxF tn tx sp 7))) A g))
theorem mx_9 {tn sp : Nat} {tx : Nat → Nat} : ∀ w, w ≤ 7 → mxF tn tx sp w ≤ 9 := by
  intro w
  induction w with
  | zero => intro _; exact Nat.zero_le _
  | succ w ih =>
    intro h
    have h1 : fitW tn tx sp w ≤ (wdL w).length := fit_le _ _
    have h2 : (wdL w).length ≤ 9 := by unfold wdL; split <;> exact Nat.le_of_ble_eq_true rfl
    have := ih (by omega)
    show max (mxF tn tx sp w) (fitW tn tx sp w) ≤ 9
    omega
def RCo (f : HT) (o : Nat) (I : Nat → Int32) (A : Nat → Nat → Int32) (g : Nat → Option Nat) (c : Nat) (d : (Nat × Nat × Nat) × (Nat × Bool)) (n : Nat) : PT := fun r f' n' => n' = n ∧ ∃ (I' : Nat → Int32) (A' : Nat → Nat → Int32) (g' : Nat → Option Nat), f' = pU f o I' A' g' ∧ I' 4 = I 4 ∧ I' 6 = nI d.2.1 ∧ A' 0 = A 0 ∧ r = .inl (some (.int (bI (!d.2.2)))) ∧ (∀ i, i < c → g' i = g i ∧ A' 1 i = A 1 i ∧ A' 2 i = A 2 i) ∧ (d.2.2 = true → I' 5 = I 5) ∧ (d.2.2 = false → I' 5 = nI (c + 1) ∧ CE A' g' c d.1)
theorem RCo.bad {f : HT} {o c n q : Nat} {I I' : Nat → Int32} {A : Nat → Nat → Int32} {g : Nat → Option Nat} {d : (Nat × Nat × Nat) × (Nat × Bool)} (h : d.2 = (q, true)) (h4 : I' 4 = I 4) (h5 : I' 5 = I 5) (h6 : I' 6 = nI q) : RCo f o I A g c d n (.inl (some (.int (nI 0)))) (pU f o I' A g) n :=
  ⟨rfl, I', A, g, rfl, h4, by rw [h]; exact h6, rfl, by rw [h]; rfl, fun i _ => ⟨rfl, rfl, rfl⟩, fun _ => h5, fun z => by rw [h] at z; cases z⟩
theorem RCo.good {f : HT} {o c n q w dg nb : Nat} {I I' : Nat → Int32} {A : Nat → Nat → Int32} {g : Nat → Option Nat} {d : (Nat × Nat × Nat) × (Nat × Bool)} {e : Nat × Nat × Nat} (h : d = (e, (q, false))) (he : wcE e = (w, dg, nb)) (h4 : I' 4 = I 4) (h6 : I' 6 = nI q) : RCo f o I A g c d n (.inl (some (.int (nI 1)))) (pU f o (va_up I' 5 (nI (c + 1))) (va_up (va_up A 1 (upd (A 1) c (nI dg))) 2 (upd (A 2) c (nI nb))) (va_up g c (some (w + 1)))) n := by
  refine ⟨rfl, _, _, _, rfl, (up_ne (by decide)).trans h4, by rw [h]; exact (up_ne (by decide)).trans h6, rfl, by rw [h]; rfl, fun i hi => ⟨up_ne (by omega), ?_, ?_⟩, fun z => (by rw [h] at z; cases z), fun _ => ⟨up_self, ?_⟩⟩
  · rw [up_ne (by decide), up_self]; exact pk_un (by omega)
  · rw [up_self]; exact pk_un (by omega)
  · rw [h]
    refine ⟨?_, ?_, ?_⟩
    · show va_up g c (some (w + 1)) c = some ((wcE e).1 + 1)
      rw [up_self, he]
    · show _ = nI (wcE e).2.1
      rw [up_ne (by decide), up_self, pk_us, he]
    · show _ = nI (wcE e).2.2
      rw [up_self, pk_us, he]
abbrev MX5_keepCommand : MT := (RX5, cX5_keepCommand, 4, none, [], "keepCommand")
set_option maxHeartbeats 4000000 in
theorem p_keep {l : Launch} {G : GT} {n : Nat} {f : HT} {o : Nat} {I : Nat → Int32} {A : Nat → Nat → Int32} {g : Nat → Option Nat} {c d m v : Nat} (h5 : I 5 = nI c) (hc : c < 60) (hv : (RX9, v) ∈ wO) (hv0 : v < o0) : AM l G yX5_keepCommand (.code yX5_keepCommand cX5_keepCommand 4 none) 0 0 0 0 [.ref o, .ref v, .int (nI d), .int (nI m)] (pU f o I A g) n (rV (pU f o (va_up I 5 (nI (c + 1))) (va_up (va_up A 1 (upd (A 1) c (nI d))) 2 (upd (A 2) c (nI m))) (va_up g c (some v))) n) := by
  refine aw_enter (M := MX5_keepCommand) rfl rfl (by decide +kernel) rfl (Nat.le_of_ble_eq_true rfl) ?_
  show AW l G MX5_keepCommand 0 0 0 0 _ n 0 0 0 [(0, .ref o), (1, .ref v), (2, .int (nI d)), (3, .int (nI m))] [] _ n
  refine aw_aload_n dX5_keepCommand_0 rfl rfl ?_
  refine aw_get (v := .int (nI c)) fl_X5_32 pU_0 (congrArg (fun z => some (Value.int z)) (h5)) dX5_keepCommand_1 ?_
  refine aw_bipush_n 60 dX5_keepCommand_4 (by decide) ?_
  refine aw_icmp_ge_n (by omega) (by omega) (tgt := 49) dX5_keepCommand_6 (by decide) (fun c_1 => by exfalso; omega) (fun c_1 => ?_)
  refine aw_aload_n dX5_keepCommand_9 rfl rfl ?_
  refine aw_get (v := .ref (o + 2)) fl_X5_17 pU_0 rfl dX5_keepCommand_10 ?_
  refine aw_aload_n dX5_keepCommand_13 rfl rfl ?_
  refine aw_get (v := .int (nI c)) fl_X5_32 pU_0 (congrArg (fun z => some (Value.int z)) (h5)) dX5_keepCommand_14 ?_
  refine aw_aload_n dX5_keepCommand_17 rfl rfl ?_
  refine aw_aastO pU_2 hv hv0 (vp_in_nI (by omega) (by decide)) dX5_keepCommand_18 ?_
  rw [nIc (by omega), pU_W]
  refine aw_aload_n dX5_keepCommand_19 rfl rfl ?_
  refine aw_get (v := .ref (o + 3)) fl_X5_21 pU_0 rfl dX5_keepCommand_20 ?_
  refine aw_aload_n dX5_keepCommand_23 rfl rfl ?_
  refine aw_get (v := .int (nI c)) fl_X5_32 pU_0 (congrArg (fun z => some (Value.int z)) (h5)) dX5_keepCommand_24 ?_
  refine aw_iload_n dX5_keepCommand_27 rfl rfl ?_
  refine aw_iast_n (k := c) pU_3 (by omega) (by decide) dX5_keepCommand_28 ?_
  rw [pU_A1]
  refine aw_aload_n dX5_keepCommand_29 rfl rfl ?_
  refine aw_get (v := .ref (o + 4)) fl_X5_25 pU_0 rfl dX5_keepCommand_30 ?_
  refine aw_aload_n dX5_keepCommand_33 rfl rfl ?_
  refine aw_get (v := .int (nI c)) fl_X5_32 pU_0 (congrArg (fun z => some (Value.int z)) (h5)) dX5_keepCommand_34 ?_
  refine aw_iload_n dX5_keepCommand_37 rfl rfl ?_
  refine aw_iast_n (k := c) pU_4 (by omega) (by decide) dX5_keepCommand_38 ?_
  rw [pU_A2]
  refine aw_aload_n dX5_keepCommand_39 rfl rfl ?_
  refine aw_dup dX5_keepCommand_40 rfl ?_
  refine aw_get (v := .int (nI c)) fl_X5_32 pU_0 (congrArg (fun z => some (Value.int z)) (h5)) dX5_keepCommand_41 ?_
  refine aw_iconst_n 1 dX5_keepCommand_44 (by decide) ?_
  refine aw_iadd_n dX5_keepCommand_45 ?_
  refine aw_pput fp_X5_32 (by decide) rfl rfl dX5_keepCommand_46 ?_
  exact aw_vret rfl (by decide) (by decide) dX5_keepCommand_49 (rV_of (by rw [up_ne (by decide)]))
abbrev MX5_fittingSigns : MT := (RX5, cX5_fittingSigns, 3, (some .int), [], "fittingSigns")
set_option maxHeartbeats 4000000 in
theorem p_fit0_l {l : Launch} {G : GT} {n : Nat} {f : HT} {o : Nat} {I : Nat → Int32} {A : Nat → Nat → Int32} {g : Nat → Option Nat} {tn : Nat} {tx : Nat → Nat} (hT : TP9 I A tn tx) {sp : Nat} (h6 : I 6 = nI sp) (hs : sp ≤ 60) : ∀ (N : Nat) (k : Nat), (5 - k = N) → (k ≤ 5) → (fitW tn tx sp 0 = k + fitL tn tx ((wdL 0).drop k) (sp + k)) → AW l G MX5_fittingSigns 4 240 0 0 (rI (nI (fitW tn tx sp 0)) (pU f o I A g) n) n 0 0 2 [(2, .int (nI k)), (0, .ref o), (1, .ref 8)] [] (pU f o I A g) n := by
  intro N
  induction N using Nat.strongRecOn with
  | ind N ih =>
    intro k hNN hk he
    have ht60 := hT.2.1
    refine aw_iload_n dX5_fittingSigns_2 rfl rfl ?_
    refine aw_aload_n dX5_fittingSigns_3 rfl rfl ?_
    refine aw_cI (as := []) (rest := [Value.int (nI k)]) (MV.c mV_J0_length_8abf5) (o_len8 ) ml_X5_79 (RC.o (List.mem_of_getElem? (i := 7) rfl) (by decide)) dX5_fittingSigns_4 rfl rfl (by decide) (Nat.le_of_ble_eq_true rfl) (by decide) ?_
    refine aw_icmp_ge_n (by omega) (by omega) (tgt := 34) dX5_fittingSigns_7 (by decide) (fun c_1 => ?_) (fun c_1 => ?_)
    · have d_0 : 5 ≤ k := c_1
      refine aw_iload_n dX5_fittingSigns_34 rfl rfl ?_
      rw [he, fit_e (show (wdL 0).length ≤ k from d_0), Nat.add_zero]
      exact aw_iret rfl (by decide) (by decide) dX5_fittingSigns_35 (rI_of rfl)
    · have d_0 : k < 5 := by omega
      have hk128 : ([104, 97, 110, 103, 32] : List Nat).getD k 0 < 128 := (by decide +kernel : ∀ k, k < 5 → ([104, 97, 110, 103, 32] : List Nat).getD k 0 < 128) k d_0
      refine aw_aload_n dX5_fittingSigns_10 rfl rfl ?_
      refine aw_aload_n dX5_fittingSigns_11 rfl rfl ?_
      refine aw_get (v := .int (nI sp)) fl_X5_35 pU_0 (congrArg (fun z => some (Value.int z)) (h6)) dX5_fittingSigns_12 ?_
      refine aw_iload_n dX5_fittingSigns_15 rfl rfl ?_
      refine aw_iadd_n dX5_fittingSigns_16 ?_
      refine aw_vI (as := [Value.int (nI (sp + k))]) (rest := []) mV_X5_signAt (p_sign hT (i := sp + k) (by omega)) ml_X5_90 pU_0 rfl dX5_fittingSigns_17 rfl rfl (by decide) (Nat.le_of_ble_eq_true rfl) (by decide) ?_
      have hh_2 := hN_le hT (sp + k)
      refine aw_aload_n dX5_fittingSigns_20 rfl rfl ?_
      refine aw_iload_n dX5_fittingSigns_21 rfl rfl ?_
      refine aw_cI (as := [Value.int (nI k)]) (rest := [Value.int (nI (hN tn tx (sp + k)))]) (MV.c mV_J0_charAt_5068e) (o_ch8 (by omega)) ml_X5_94 (RC.o (List.mem_of_getElem? (i := 7) rfl) (by decide)) dX5_fittingSigns_22 rfl rfl (by decide) (Nat.le_of_ble_eq_true rfl) (by decide) ?_
      refine aw_icmp_ne_n (by omega) (by omega) (tgt := 34) dX5_fittingSigns_25 (by decide) (fun c_3 => ?_) (fun c_3 => ?_)
      · have d_1 := c_3
        refine aw_iload_n dX5_fittingSigns_34 rfl rfl ?_
        rw [he, fit_n (show k < (wdL 0).length from d_0) d_1, Nat.add_zero]
        exact aw_iret rfl (by decide) (by decide) dX5_fittingSigns_35 (rI_of rfl)
      · have d_1 := c_3
        refine aw_iinc_n (L' := [(2, .int (nI (k + 1))), (0, .ref o), (1, .ref 8)]) 1 dX5_fittingSigns_28 rfl (by decide) (by decide) rfl ?_
        refine aw_goto (tgt := 2) dX5_fittingSigns_31 (by decide) ?_
        refine aw_sub [(2, .int (nI (k + 1))), (0, .ref o), (1, .ref 8)] (by simp) ?_
        exact ih _ (by omega) (k + 1) rfl (by omega) (by rw [he, fit_y (show k < (wdL 0).length from d_0) d_1]; omega)
set_option maxHeartbeats 4000000 in
theorem p_fit0 {l : Launch} {G : GT} {n : Nat} {f : HT} {o : Nat} {I : Nat → Int32} {A : Nat → Nat → Int32} {g : Nat → Option Nat} {tn : Nat} {tx : Nat → Nat} (hT : TP9 I A tn tx) {sp : Nat} (h6 : I 6 = nI sp) (hs : sp ≤ 60) : AM l G yX5_fittingSigns (.code yX5_fittingSigns cX5_fittingSigns 3 (some .int)) 4 240 0 0 [.ref o, .ref 8] (pU f o I A g) n (rI (nI (fitW tn tx sp 0)) (pU f o I A g) n) := by
  refine aw_enter (M := MX5_fittingSigns) rfl rfl (by decide +kernel) rfl (Nat.le_of_ble_eq_true rfl) ?_
  show AW l G MX5_fittingSigns 4 240 0 0 _ n 0 0 0 [(0, .ref o), (1, .ref 8)] [] _ n
  refine aw_iconst_n 0 dX5_fittingSigns_0 (by decide) ?_
  refine aw_istore_n (L' := [(2, .int (nI 0)), (0, .ref o), (1, .ref 8)]) dX5_fittingSigns_1 rfl (by decide) rfl ?_
  exact p_fit0_l hT h6 hs _ 0 rfl (Nat.zero_le _) (by rw [Nat.zero_add]; rfl)
set_option maxHeartbeats 4000000 in
theorem p_fit1_l {l : Launch} {G : GT} {n : Nat} {f : HT} {o : Nat} {I : Nat → Int32} {A : Nat → Nat → Int32} {g : Nat → Option Nat} {tn : Nat} {tx : Nat → Nat} (hT : TP9 I A tn tx) {sp : Nat} (h6 : I 6 = nI sp) (hs : sp ≤ 60) : ∀ (N : Nat) (k : Nat), (5 - k = N) → (k ≤ 5) → (fitW tn tx sp 1 = k + fitL tn tx ((wdL 1).drop k) (sp + k)) → AW l G MX5_fittingSigns 4 240 0 0 (rI (nI (fitW tn tx sp 1)) (pU f o I A g) n) n 0 0 2 [(2, .int (nI k)), (0, .ref o), (1, .ref 9)] [] (pU f o I A g) n := by
  intro N
  induction N using Nat.strongRecOn with
  | ind N ih =>
    intro k hNN hk he
    have ht60 := hT.2.1
    refine aw_iload_n dX5_fittingSigns_2 rfl rfl ?_
    refine aw_aload_n dX5_fittingSigns_3 rfl rfl ?_
    refine aw_cI (as := []) (rest := [Value.int (nI k)]) (MV.c mV_J0_length_8abf5) (o_len9 ) ml_X5_79 (RC.o (List.mem_of_getElem? (i := 8) rfl) (by decide)) dX5_fittingSigns_4 rfl rfl (by decide) (Nat.le_of_ble_eq_true rfl) (by decide) ?_
    refine aw_icmp_ge_n (by omega) (by omega) (tgt := 34) dX5_fittingSigns_7 (by decide) (fun c_1 => ?_) (fun c_1 => ?_)
    · have d_0 : 5 ≤ k := c_1
      refine aw_iload_n dX5_fittingSigns_34 rfl rfl ?_
      rw [he, fit_e (show (wdL 1).length ≤ k from d_0), Nat.add_zero]
      exact aw_iret rfl (by decide) (by decide) dX5_fittingSigns_35 (rI_of rfl)
    · have d_0 : k < 5 := by omega
      have hk128 : ([112, 117, 115, 104, 32] : List Nat).getD k 0 < 128 := (by decide +kernel : ∀ k, k < 5 → ([112, 117, 115, 104, 32] : List Nat).getD k 0 < 128) k d_0
      refine aw_aload_n dX5_fittingSigns_10 rfl rfl ?_
      refine aw_aload_n dX5_fittingSigns_11 rfl rfl ?_
      refine aw_get (v := .int (nI sp)) fl_X5_35 pU_0 (congrArg (fun z => some (Value.int z)) (h6)) dX5_fittingSigns_12 ?_
      refine aw_iload_n dX5_fittingSigns_15 rfl rfl ?_
      refine aw_iadd_n dX5_fittingSigns_16 ?_
      refine aw_vI (as := [Value.int (nI (sp + k))]) (rest := []) mV_X5_signAt (p_sign hT (i := sp + k) (by omega)) ml_X5_90 pU_0 rfl dX5_fittingSigns_17 rfl rfl (by decide) (Nat.le_of_ble_eq_true rfl) (by decide) ?_
      have hh_2 := hN_le hT (sp + k)
      refine aw_aload_n dX5_fittingSigns_20 rfl rfl ?_
      refine aw_iload_n dX5_fittingSigns_21 rfl rfl ?_
      refine aw_cI (as := [Value.int (nI k)]) (rest := [Value.int (nI (hN tn tx (sp + k)))]) (MV.c mV_J0_charAt_5068e) (o_ch9 (by omega)) ml_X5_94 (RC.o (List.mem_of_getElem? (i := 8) rfl) (by decide)) dX5_fittingSigns_22 rfl rfl (by decide) (Nat.le_of_ble_eq_true rfl) (by decide) ?_
      refine aw_icmp_ne_n (by omega) (by omega) (tgt := 34) dX5_fittingSigns_25 (by decide) (fun c_3 => ?_) (fun c_3 => ?_)
      · have d_1 := c_3
        refine aw_iload_n dX5_fittingSigns_34 rfl rfl ?_
        rw [he, fit_n (show k < (wdL 1).length from d_0) d_1, Nat.add_zero]
        exact aw_iret rfl (by decide) (by decide) dX5_fittingSigns_35 (rI_of rfl)
      · have d_1 := c_3
        refine aw_iinc_n (L' := [(2, .int (nI (k + 1))), (0, .ref o), (1, .ref 9)]) 1 dX5_fittingSigns_28 rfl (by decide) (by decide) rfl ?_
        refine aw_goto (tgt := 2) dX5_fittingSigns_31 (by decide) ?_
        refine aw_sub [(2, .int (nI (k + 1))), (0, .ref o), (1, .ref 9)] (by simp) ?_
        exact ih _ (by omega) (k + 1) rfl (by omega) (by rw [he, fit_y (show k < (wdL 1).length from d_0) d_1]; omega)
set_option maxHeartbeats 4000000 in
theorem p_fit1 {l : Launch} {G : GT} {n : Nat} {f : HT} {o : Nat} {I : Nat → Int32} {A : Nat → Nat → Int32} {g : Nat → Option Nat} {tn : Nat} {tx : Nat → Nat} (hT : TP9 I A tn tx) {sp : Nat} (h6 : I 6 = nI sp) (hs : sp ≤ 60) : AM l G yX5_fittingSigns (.code yX5_fittingSigns cX5_fittingSigns 3 (some .int)) 4 240 0 0 [.ref o, .ref 9] (pU f o I A g) n (rI (nI (fitW tn tx sp 1)) (pU f o I A g) n) := by
  refine aw_enter (M := MX5_fittingSigns) rfl rfl (by decide +kernel) rfl (Nat.le_of_ble_eq_true rfl) ?_
  show AW l G MX5_fittingSigns 4 240 0 0 _ n 0 0 0 [(0, .ref o), (1, .ref 9)] [] _ n
  refine aw_iconst_n 0 dX5_fittingSigns_0 (by decide) ?_
  refine aw_istore_n (L' := [(2, .int (nI 0)), (0, .ref o), (1, .ref 9)]) dX5_fittingSigns_1 rfl (by decide) rfl ?_
  exact p_fit1_l hT h6 hs _ 0 rfl (Nat.zero_le _) (by rw [Nat.zero_add]; rfl)
set_option maxHeartbeats 4000000 in
theorem p_fit2_l {l : Launch} {G : GT} {n : Nat} {f : HT} {o : Nat} {I : Nat → Int32} {A : Nat → Nat → Int32} {g : Nat → Option Nat} {tn : Nat} {tx : Nat → Nat} (hT : TP9 I A tn tx) {sp : Nat} (h6 : I 6 = nI sp) (hs : sp ≤ 60) : ∀ (N : Nat) (k : Nat), (6 - k = N) → (k ≤ 6) → (fitW tn tx sp 2 = k + fitL tn tx ((wdL 2).drop k) (sp + k)) → AW l G MX5_fittingSigns 4 240 0 0 (rI (nI (fitW tn tx sp 2)) (pU f o I A g) n) n 0 0 2 [(2, .int (nI k)), (0, .ref o), (1, .ref 10)] [] (pU f o I A g) n := by
  intro N
  induction N using Nat.strongRecOn with
  | ind N ih =>
    intro k hNN hk he
    have ht60 := hT.2.1
    refine aw_iload_n dX5_fittingSigns_2 rfl rfl ?_
    refine aw_aload_n dX5_fittingSigns_3 rfl rfl ?_
    refine aw_cI (as := []) (rest := [Value.int (nI k)]) (MV.c mV_J0_length_8abf5) (o_len10 ) ml_X5_79 (RC.o (List.mem_of_getElem? (i := 9) rfl) (by decide)) dX5_fittingSigns_4 rfl rfl (by decide) (Nat.le_of_ble_eq_true rfl) (by decide) ?_
    refine aw_icmp_ge_n (by omega) (by omega) (tgt := 34) dX5_fittingSigns_7 (by decide) (fun c_1 => ?_) (fun c_1 => ?_)
    · have d_0 : 6 ≤ k := c_1
      refine aw_iload_n dX5_fittingSigns_34 rfl rfl ?_
      rw [he, fit_e (show (wdL 2).length ≤ k from d_0), Nat.add_zero]
      exact aw_iret rfl (by decide) (by decide) dX5_fittingSigns_35 (rI_of rfl)
    · have d_0 : k < 6 := by omega
      have hk128 : ([99, 97, 116, 99, 104, 32] : List Nat).getD k 0 < 128 := (by decide +kernel : ∀ k, k < 6 → ([99, 97, 116, 99, 104, 32] : List Nat).getD k 0 < 128) k d_0
      refine aw_aload_n dX5_fittingSigns_10 rfl rfl ?_
      refine aw_aload_n dX5_fittingSigns_11 rfl rfl ?_
      refine aw_get (v := .int (nI sp)) fl_X5_35 pU_0 (congrArg (fun z => some (Value.int z)) (h6)) dX5_fittingSigns_12 ?_
      refine aw_iload_n dX5_fittingSigns_15 rfl rfl ?_
      refine aw_iadd_n dX5_fittingSigns_16 ?_
      refine aw_vI (as := [Value.int (nI (sp + k))]) (rest := []) mV_X5_signAt (p_sign hT (i := sp + k) (by omega)) ml_X5_90 pU_0 rfl dX5_fittingSigns_17 rfl rfl (by decide) (Nat.le_of_ble_eq_true rfl) (by decide) ?_
      have hh_2 := hN_le hT (sp + k)
      refine aw_aload_n dX5_fittingSigns_20 rfl rfl ?_
      refine aw_iload_n dX5_fittingSigns_21 rfl rfl ?_
      refine aw_cI (as := [Value.int (nI k)]) (rest := [Value.int (nI (hN tn tx (sp + k)))]) (MV.c mV_J0_charAt_5068e) (o_ch10 (by omega)) ml_X5_94 (RC.o (List.mem_of_getElem? (i := 9) rfl) (by decide)) dX5_fittingSigns_22 rfl rfl (by decide) (Nat.le_of_ble_eq_true rfl) (by decide) ?_
      refine aw_icmp_ne_n (by omega) (by omega) (tgt := 34) dX5_fittingSigns_25 (by decide) (fun c_3 => ?_) (fun c_3 => ?_)
      · have d_1 := c_3
        refine aw_iload_n dX5_fittingSigns_34 rfl rfl ?_
        rw [he, fit_n (show k < (wdL 2).length from d_0) d_1, Nat.add_zero]
        exact aw_iret rfl (by decide) (by decide) dX5_fittingSigns_35 (rI_of rfl)
      · have d_1 := c_3
        refine aw_iinc_n (L' := [(2, .int (nI (k + 1))), (0, .ref o), (1, .ref 10)]) 1 dX5_fittingSigns_28 rfl (by decide) (by decide) rfl ?_
        refine aw_goto (tgt := 2) dX5_fittingSigns_31 (by decide) ?_
        refine aw_sub [(2, .int (nI (k + 1))), (0, .ref o), (1, .ref 10)] (by simp) ?_
        exact ih _ (by omega) (k + 1) rfl (by omega) (by rw [he, fit_y (show k < (wdL 2).length from d_0) d_1]; omega)
set_option maxHeartbeats 4000000 in
theorem p_fit2 {l : Launch} {G : GT} {n : Nat} {f : HT} {o : Nat} {I : Nat → Int32} {A : Nat → Nat → Int32} {g : Nat → Option Nat} {tn : Nat} {tx : Nat → Nat} (hT : TP9 I A tn tx) {sp : Nat} (h6 : I 6 = nI sp) (hs : sp ≤ 60) : AM l G yX5_fittingSigns (.code yX5_fittingSigns cX5_fittingSigns 3 (some .int)) 4 240 0 0 [.ref o, .ref 10] (pU f o I A g) n (rI (nI (fitW tn tx sp 2)) (pU f o I A g) n) := by
  refine aw_enter (M := MX5_fittingSigns) rfl rfl (by decide +kernel) rfl (Nat.le_of_ble_eq_true rfl) ?_
  show AW l G MX5_fittingSigns 4 240 0 0 _ n 0 0 0 [(0, .ref o), (1, .ref 10)] [] _ n
  refine aw_iconst_n 0 dX5_fittingSigns_0 (by decide) ?_
  refine aw_istore_n (L' := [(2, .int (nI 0)), (0, .ref o), (1, .ref 10)]) dX5_fittingSigns_1 rfl (by decide) rfl ?_
  exact p_fit2_l hT h6 hs _ 0 rfl (Nat.zero_le _) (by rw [Nat.zero_add]; rfl)
set_option maxHeartbeats 4000000 in
theorem p_fit3_l {l : Launch} {G : GT} {n : Nat} {f : HT} {o : Nat} {I : Nat → Int32} {A : Nat → Nat → Int32} {g : Nat → Option Nat} {tn : Nat} {tx : Nat → Nat} (hT : TP9 I A tn tx) {sp : Nat} (h6 : I 6 = nI sp) (hs : sp ≤ 60) : ∀ (N : Nat) (k : Nat), (9 - k = N) → (k ≤ 9) → (fitW tn tx sp 3 = k + fitL tn tx ((wdL 3).drop k) (sp + k)) → AW l G MX5_fittingSigns 4 240 0 0 (rI (nI (fitW tn tx sp 3)) (pU f o I A g) n) n 0 0 2 [(2, .int (nI k)), (0, .ref o), (1, .ref 11)] [] (pU f o I A g) n := by
  intro N
  induction N using Nat.strongRecOn with
  | ind N ih =>
    intro k hNN hk he
    have ht60 := hT.2.1
    refine aw_iload_n dX5_fittingSigns_2 rfl rfl ?_
    refine aw_aload_n dX5_fittingSigns_3 rfl rfl ?_
    refine aw_cI (as := []) (rest := [Value.int (nI k)]) (MV.c mV_J0_length_8abf5) (o_len11 ) ml_X5_79 (RC.o (List.mem_of_getElem? (i := 10) rfl) (by decide)) dX5_fittingSigns_4 rfl rfl (by decide) (Nat.le_of_ble_eq_true rfl) (by decide) ?_
    refine aw_icmp_ge_n (by omega) (by omega) (tgt := 34) dX5_fittingSigns_7 (by decide) (fun c_1 => ?_) (fun c_1 => ?_)
    · have d_0 : 9 ≤ k := c_1
      refine aw_iload_n dX5_fittingSigns_34 rfl rfl ?_
      rw [he, fit_e (show (wdL 3).length ≤ k from d_0), Nat.add_zero]
      exact aw_iret rfl (by decide) (by decide) dX5_fittingSigns_35 (rI_of rfl)
    · have d_0 : k < 9 := by omega
      have hk128 : ([102, 114, 105, 99, 116, 105, 111, 110, 32] : List Nat).getD k 0 < 128 := (by decide +kernel : ∀ k, k < 9 → ([102, 114, 105, 99, 116, 105, 111, 110, 32] : List Nat).getD k 0 < 128) k d_0
      refine aw_aload_n dX5_fittingSigns_10 rfl rfl ?_
      refine aw_aload_n dX5_fittingSigns_11 rfl rfl ?_
      refine aw_get (v := .int (nI sp)) fl_X5_35 pU_0 (congrArg (fun z => some (Value.int z)) (h6)) dX5_fittingSigns_12 ?_
      refine aw_iload_n dX5_fittingSigns_15 rfl rfl ?_
      refine aw_iadd_n dX5_fittingSigns_16 ?_
      refine aw_vI (as := [Value.int (nI (sp + k))]) (rest := []) mV_X5_signAt (p_sign hT (i := sp + k) (by omega)) ml_X5_90 pU_0 rfl dX5_fittingSigns_17 rfl rfl (by decide) (Nat.le_of_ble_eq_true rfl) (by decide) ?_
      have hh_2 := hN_le hT (sp + k)
      refine aw_aload_n dX5_fittingSigns_20 rfl rfl ?_
      refine aw_iload_n dX5_fittingSigns_21 rfl rfl ?_
      refine aw_cI (as := [Value.int (nI k)]) (rest := [Value.int (nI (hN tn tx (sp + k)))]) (MV.c mV_J0_charAt_5068e) (o_ch11 (by omega)) ml_X5_94 (RC.o (List.mem_of_getElem? (i := 10) rfl) (by decide)) dX5_fittingSigns_22 rfl rfl (by decide) (Nat.le_of_ble_eq_true rfl) (by decide) ?_
      refine aw_icmp_ne_n (by omega) (by omega) (tgt := 34) dX5_fittingSigns_25 (by decide) (fun c_3 => ?_) (fun c_3 => ?_)
      · have d_1 := c_3
        refine aw_iload_n dX5_fittingSigns_34 rfl rfl ?_
        rw [he, fit_n (show k < (wdL 3).length from d_0) d_1, Nat.add_zero]
        exact aw_iret rfl (by decide) (by decide) dX5_fittingSigns_35 (rI_of rfl)
      · have d_1 := c_3
        refine aw_iinc_n (L' := [(2, .int (nI (k + 1))), (0, .ref o), (1, .ref 11)]) 1 dX5_fittingSigns_28 rfl (by decide) (by decide) rfl ?_
        refine aw_goto (tgt := 2) dX5_fittingSigns_31 (by decide) ?_
        refine aw_sub [(2, .int (nI (k + 1))), (0, .ref o), (1, .ref 11)] (by simp) ?_
        exact ih _ (by omega) (k + 1) rfl (by omega) (by rw [he, fit_y (show k < (wdL 3).length from d_0) d_1]; omega)
set_option maxHeartbeats 4000000 in
theorem p_fit3 {l : Launch} {G : GT} {n : Nat} {f : HT} {o : Nat} {I : Nat → Int32} {A : Nat → Nat → Int32} {g : Nat → Option Nat} {tn : Nat} {tx : Nat → Nat} (hT : TP9 I A tn tx) {sp : Nat} (h6 : I 6 = nI sp) (hs : sp ≤ 60) : AM l G yX5_fittingSigns (.code yX5_fittingSigns cX5_fittingSigns 3 (some .int)) 4 240 0 0 [.ref o, .ref 11] (pU f o I A g) n (rI (nI (fitW tn tx sp 3)) (pU f o I A g) n) := by
  refine aw_enter (M := MX5_fittingSigns) rfl rfl (by decide +kernel) rfl (Nat.le_of_ble_eq_true rfl) ?_
  show AW l G MX5_fittingSigns 4 240 0 0 _ n 0 0 0 [(0, .ref o), (1, .ref 11)] [] _ n
  refine aw_iconst_n 0 dX5_fittingSigns_0 (by decide) ?_
  refine aw_istore_n (L' := [(2, .int (nI 0)), (0, .ref o), (1, .ref 11)]) dX5_fittingSigns_1 rfl (by decide) rfl ?_
  exact p_fit3_l hT h6 hs _ 0 rfl (Nat.zero_le _) (by rw [Nat.zero_add]; rfl)
set_option maxHeartbeats 4000000 in
theorem p_fit4_l {l : Launch} {G : GT} {n : Nat} {f : HT} {o : Nat} {I : Nat → Int32} {A : Nat → Nat → Int32} {g : Nat → Option Nat} {tn : Nat} {tx : Nat → Nat} (hT : TP9 I A tn tx) {sp : Nat} (h6 : I 6 = nI sp) (hs : sp ≤ 60) : ∀ (N : Nat) (k : Nat), (4 - k = N) → (k ≤ 4) → (fitW tn tx sp 4 = k + fitL tn tx ((wdL 4).drop k) (sp + k)) → AW l G MX5_fittingSigns 4 240 0 0 (rI (nI (fitW tn tx sp 4)) (pU f o I A g) n) n 0 0 2 [(2, .int (nI k)), (0, .ref o), (1, .ref 12)] [] (pU f o I A g) n := by
  intro N
  induction N using Nat.strongRecOn with
  | ind N ih =>
    intro k hNN hk he
    have ht60 := hT.2.1
    refine aw_iload_n dX5_fittingSigns_2 rfl rfl ?_
    refine aw_aload_n dX5_fittingSigns_3 rfl rfl ?_
    refine aw_cI (as := []) (rest := [Value.int (nI k)]) (MV.c mV_J0_length_8abf5) (o_len12 ) ml_X5_79 (RC.o (List.mem_of_getElem? (i := 11) rfl) (by decide)) dX5_fittingSigns_4 rfl rfl (by decide) (Nat.le_of_ble_eq_true rfl) (by decide) ?_
    refine aw_icmp_ge_n (by omega) (by omega) (tgt := 34) dX5_fittingSigns_7 (by decide) (fun c_1 => ?_) (fun c_1 => ?_)
    · have d_0 : 4 ≤ k := c_1
      refine aw_iload_n dX5_fittingSigns_34 rfl rfl ?_
      rw [he, fit_e (show (wdL 4).length ≤ k from d_0), Nat.add_zero]
      exact aw_iret rfl (by decide) (by decide) dX5_fittingSigns_35 (rI_of rfl)
    · have d_0 : k < 4 := by omega
      have hk128 : ([108, 101, 103, 32] : List Nat).getD k 0 < 128 := (by decide +kernel : ∀ k, k < 4 → ([108, 101, 103, 32] : List Nat).getD k 0 < 128) k d_0
      refine aw_aload_n dX5_fittingSigns_10 rfl rfl ?_
      refine aw_aload_n dX5_fittingSigns_11 rfl rfl ?_
      refine aw_get (v := .int (nI sp)) fl_X5_35 pU_0 (congrArg (fun z => some (Value.int z)) (h6)) dX5_fittingSigns_12 ?_
      refine aw_iload_n dX5_fittingSigns_15 rfl rfl ?_
      refine aw_iadd_n dX5_fittingSigns_16 ?_
      refine aw_vI (as := [Value.int (nI (sp + k))]) (rest := []) mV_X5_signAt (p_sign hT (i := sp + k) (by omega)) ml_X5_90 pU_0 rfl dX5_fittingSigns_17 rfl rfl (by decide) (Nat.le_of_ble_eq_true rfl) (by decide) ?_
      have hh_2 := hN_le hT (sp + k)
      refine aw_aload_n dX5_fittingSigns_20 rfl rfl ?_
      refine aw_iload_n dX5_fittingSigns_21 rfl rfl ?_
      refine aw_cI (as := [Value.int (nI k)]) (rest := [Value.int (nI (hN tn tx (sp + k)))]) (MV.c mV_J0_charAt_5068e) (o_ch12 (by omega)) ml_X5_94 (RC.o (List.mem_of_getElem? (i := 11) rfl) (by decide)) dX5_fittingSigns_22 rfl rfl (by decide) (Nat.le_of_ble_eq_true rfl) (by decide) ?_
      refine aw_icmp_ne_n (by omega) (by omega) (tgt := 34) dX5_fittingSigns_25 (by decide) (fun c_3 => ?_) (fun c_3 => ?_)
      · have d_1 := c_3
        refine aw_iload_n dX5_fittingSigns_34 rfl rfl ?_
        rw [he, fit_n (show k < (wdL 4).length from d_0) d_1, Nat.add_zero]
        exact aw_iret rfl (by decide) (by decide) dX5_fittingSigns_35 (rI_of rfl)
      · have d_1 := c_3
        refine aw_iinc_n (L' := [(2, .int (nI (k + 1))), (0, .ref o), (1, .ref 12)]) 1 dX5_fittingSigns_28 rfl (by decide) (by decide) rfl ?_
        refine aw_goto (tgt := 2) dX5_fittingSigns_31 (by decide) ?_
        refine aw_sub [(2, .int (nI (k + 1))), (0, .ref o), (1, .ref 12)] (by simp) ?_
        exact ih _ (by omega) (k + 1) rfl (by omega) (by rw [he, fit_y (show k < (wdL 4).length from d_0) d_1]; omega)
set_option maxHeartbeats 4000000 in
theorem p_fit4 {l : Launch} {G : GT} {n : Nat} {f : HT} {o : Nat} {I : Nat → Int32} {A : Nat → Nat → Int32} {g : Nat → Option Nat} {tn : Nat} {tx : Nat → Nat} (hT : TP9 I A tn tx) {sp : Nat} (h6 : I 6 = nI sp) (hs : sp ≤ 60) : AM l G yX5_fittingSigns (.code yX5_fittingSigns cX5_fittingSigns 3 (some .int)) 4 240 0 0 [.ref o, .ref 12] (pU f o I A g) n (rI (nI (fitW tn tx sp 4)) (pU f o I A g) n) := by
  refine aw_enter (M := MX5_fittingSigns) rfl rfl (by decide +kernel) rfl (Nat.le_of_ble_eq_true rfl) ?_
  show AW l G MX5_fittingSigns 4 240 0 0 _ n 0 0 0 [(0, .ref o), (1, .ref 12)] [] _ n
  refine aw_iconst_n 0 dX5_fittingSigns_0 (by decide) ?_
  refine aw_istore_n (L' := [(2, .int (nI 0)), (0, .ref o), (1, .ref 12)]) dX5_fittingSigns_1 rfl (by decide) rfl ?_
  exact p_fit4_l hT h6 hs _ 0 rfl (Nat.zero_le _) (by rw [Nat.zero_add]; rfl)
set_option maxHeartbeats 4000000 in
theorem p_fit5_l {l : Launch} {G : GT} {n : Nat} {f : HT} {o : Nat} {I : Nat → Int32} {A : Nat → Nat → Int32} {g : Nat → Option Nat} {tn : Nat} {tx : Nat → Nat} (hT : TP9 I A tn tx) {sp : Nat} (h6 : I 6 = nI sp) (hs : sp ≤ 60) : ∀ (N : Nat) (k : Nat), (4 - k = N) → (k ≤ 4) → (fitW tn tx sp 5 = k + fitL tn tx ((wdL 5).drop k) (sp + k)) → AW l G MX5_fittingSigns 4 240 0 0 (rI (nI (fitW tn tx sp 5)) (pU f o I A g) n) n 0 0 2 [(2, .int (nI k)), (0, .ref o), (1, .ref 13)] [] (pU f o I A g) n := by
  intro N
  induction N using Nat.strongRecOn with
  | ind N ih =>
    intro k hNN hk he
    have ht60 := hT.2.1
    refine aw_iload_n dX5_fittingSigns_2 rfl rfl ?_
    refine aw_aload_n dX5_fittingSigns_3 rfl rfl ?_
    refine aw_cI (as := []) (rest := [Value.int (nI k)]) (MV.c mV_J0_length_8abf5) (o_len13 ) ml_X5_79 (RC.o (List.mem_of_getElem? (i := 12) rfl) (by decide)) dX5_fittingSigns_4 rfl rfl (by decide) (Nat.le_of_ble_eq_true rfl) (by decide) ?_
    refine aw_icmp_ge_n (by omega) (by omega) (tgt := 34) dX5_fittingSigns_7 (by decide) (fun c_1 => ?_) (fun c_1 => ?_)
    · have d_0 : 4 ≤ k := c_1
      refine aw_iload_n dX5_fittingSigns_34 rfl rfl ?_
      rw [he, fit_e (show (wdL 5).length ≤ k from d_0), Nat.add_zero]
      exact aw_iret rfl (by decide) (by decide) dX5_fittingSigns_35 (rI_of rfl)
    · have d_0 : k < 4 := by omega
      have hk128 : ([99, 117, 116, 32] : List Nat).getD k 0 < 128 := (by decide +kernel : ∀ k, k < 4 → ([99, 117, 116, 32] : List Nat).getD k 0 < 128) k d_0
      refine aw_aload_n dX5_fittingSigns_10 rfl rfl ?_
      refine aw_aload_n dX5_fittingSigns_11 rfl rfl ?_
      refine aw_get (v := .int (nI sp)) fl_X5_35 pU_0 (congrArg (fun z => some (Value.int z)) (h6)) dX5_fittingSigns_12 ?_
      refine aw_iload_n dX5_fittingSigns_15 rfl rfl ?_
      refine aw_iadd_n dX5_fittingSigns_16 ?_
      refine aw_vI (as := [Value.int (nI (sp + k))]) (rest := []) mV_X5_signAt (p_sign hT (i := sp + k) (by omega)) ml_X5_90 pU_0 rfl dX5_fittingSigns_17 rfl rfl (by decide) (Nat.le_of_ble_eq_true rfl) (by decide) ?_
      have hh_2 := hN_le hT (sp + k)
      refine aw_aload_n dX5_fittingSigns_20 rfl rfl ?_
      refine aw_iload_n dX5_fittingSigns_21 rfl rfl ?_
      refine aw_cI (as := [Value.int (nI k)]) (rest := [Value.int (nI (hN tn tx (sp + k)))]) (MV.c mV_J0_charAt_5068e) (o_ch13 (by omega)) ml_X5_94 (RC.o (List.mem_of_getElem? (i := 12) rfl) (by decide)) dX5_fittingSigns_22 rfl rfl (by decide) (Nat.le_of_ble_eq_true rfl) (by decide) ?_
      refine aw_icmp_ne_n (by omega) (by omega) (tgt := 34) dX5_fittingSigns_25 (by decide) (fun c_3 => ?_) (fun c_3 => ?_)
      · have d_1 := c_3
        refine aw_iload_n dX5_fittingSigns_34 rfl rfl ?_
        rw [he, fit_n (show k < (wdL 5).length from d_0) d_1, Nat.add_zero]
        exact aw_iret rfl (by decide) (by decide) dX5_fittingSigns_35 (rI_of rfl)
      · have d_1 := c_3
        refine aw_iinc_n (L' := [(2, .int (nI (k + 1))), (0, .ref o), (1, .ref 13)]) 1 dX5_fittingSigns_28 rfl (by decide) (by decide) rfl ?_
        refine aw_goto (tgt := 2) dX5_fittingSigns_31 (by decide) ?_
        refine aw_sub [(2, .int (nI (k + 1))), (0, .ref o), (1, .ref 13)] (by simp) ?_
        exact ih _ (by omega) (k + 1) rfl (by omega) (by rw [he, fit_y (show k < (wdL 5).length from d_0) d_1]; omega)
set_option maxHeartbeats 4000000 in
theorem p_fit5 {l : Launch} {G : GT} {n : Nat} {f : HT} {o : Nat} {I : Nat → Int32} {A : Nat → Nat → Int32} {g : Nat → Option Nat} {tn : Nat} {tx : Nat → Nat} (hT : TP9 I A tn tx) {sp : Nat} (h6 : I 6 = nI sp) (hs : sp ≤ 60) : AM l G yX5_fittingSigns (.code yX5_fittingSigns cX5_fittingSigns 3 (some .int)) 4 240 0 0 [.ref o, .ref 13] (pU f o I A g) n (rI (nI (fitW tn tx sp 5)) (pU f o I A g) n) := by
  refine aw_enter (M := MX5_fittingSigns) rfl rfl (by decide +kernel) rfl (Nat.le_of_ble_eq_true rfl) ?_
  show AW l G MX5_fittingSigns 4 240 0 0 _ n 0 0 0 [(0, .ref o), (1, .ref 13)] [] _ n
  refine aw_iconst_n 0 dX5_fittingSigns_0 (by decide) ?_
  refine aw_istore_n (L' := [(2, .int (nI 0)), (0, .ref o), (1, .ref 13)]) dX5_fittingSigns_1 rfl (by decide) rfl ?_
  exact p_fit5_l hT h6 hs _ 0 rfl (Nat.zero_le _) (by rw [Nat.zero_add]; rfl)
set_option maxHeartbeats 4000000 in
theorem p_fit6_l {l : Launch} {G : GT} {n : Nat} {f : HT} {o : Nat} {I : Nat → Int32} {A : Nat → Nat → Int32} {g : Nat → Option Nat} {tn : Nat} {tx : Nat → Nat} (hT : TP9 I A tn tx) {sp : Nat} (h6 : I 6 = nI sp) (hs : sp ≤ 60) : ∀ (N : Nat) (k : Nat), (5 - k = N) → (k ≤ 5) → (fitW tn tx sp 6 = k + fitL tn tx ((wdL 6).drop k) (sp + k)) → AW l G MX5_fittingSigns 4 240 0 0 (rI (nI (fitW tn tx sp 6)) (pU f o I A g) n) n 0 0 2 [(2, .int (nI k)), (0, .ref o), (1, .ref 14)] [] (pU f o I A g) n := by
  intro N
  induction N using Nat.strongRecOn with
  | ind N ih =>
    intro k hNN hk he
    have ht60 := hT.2.1
    refine aw_iload_n dX5_fittingSigns_2 rfl rfl ?_
    refine aw_aload_n dX5_fittingSigns_3 rfl rfl ?_
    refine aw_cI (as := []) (rest := [Value.int (nI k)]) (MV.c mV_J0_length_8abf5) (o_len14 ) ml_X5_79 (RC.o (List.mem_of_getElem? (i := 13) rfl) (by decide)) dX5_fittingSigns_4 rfl rfl (by decide) (Nat.le_of_ble_eq_true rfl) (by decide) ?_
    refine aw_icmp_ge_n (by omega) (by omega) (tgt := 34) dX5_fittingSigns_7 (by decide) (fun c_1 => ?_) (fun c_1 => ?_)
    · have d_0 : 5 ≤ k := c_1
      refine aw_iload_n dX5_fittingSigns_34 rfl rfl ?_
      rw [he, fit_e (show (wdL 6).length ≤ k from d_0), Nat.add_zero]
      exact aw_iret rfl (by decide) (by decide) dX5_fittingSigns_35 (rI_of rfl)
    · have d_0 : k < 5 := by omega
      have hk128 : ([116, 105, 99, 107, 32] : List Nat).getD k 0 < 128 := (by decide +kernel : ∀ k, k < 5 → ([116, 105, 99, 107, 32] : List Nat).getD k 0 < 128) k d_0
      refine aw_aload_n dX5_fittingSigns_10 rfl rfl ?_
      refine aw_aload_n dX5_fittingSigns_11 rfl rfl ?_
      refine aw_get (v := .int (nI sp)) fl_X5_35 pU_0 (congrArg (fun z => some (Value.int z)) (h6)) dX5_fittingSigns_12 ?_
      refine aw_iload_n dX5_fittingSigns_15 rfl rfl ?_
      refine aw_iadd_n dX5_fittingSigns_16 ?_
      refine aw_vI (as := [Value.int (nI (sp + k))]) (rest := []) mV_X5_signAt (p_sign hT (i := sp + k) (by omega)) ml_X5_90 pU_0 rfl dX5_fittingSigns_17 rfl rfl (by decide) (Nat.le_of_ble_eq_true rfl) (by decide) ?_
      have hh_2 := hN_le hT (sp + k)
      refine aw_aload_n dX5_fittingSigns_20 rfl rfl ?_
      refine aw_iload_n dX5_fittingSigns_21 rfl rfl ?_
      refine aw_cI (as := [Value.int (nI k)]) (rest := [Value.int (nI (hN tn tx (sp + k)))]) (MV.c mV_J0_charAt_5068e) (o_ch14 (by omega)) ml_X5_94 (RC.o (List.mem_of_getElem? (i := 13) rfl) (by decide)) dX5_fittingSigns_22 rfl rfl (by decide) (Nat.le_of_ble_eq_true rfl) (by decide) ?_
      refine aw_icmp_ne_n (by omega) (by omega) (tgt := 34) dX5_fittingSigns_25 (by decide) (fun c_3 => ?_) (fun c_3 => ?_)
      · have d_1 := c_3
        refine aw_iload_n dX5_fittingSigns_34 rfl rfl ?_
        rw [he, fit_n (show k < (wdL 6).length from d_0) d_1, Nat.add_zero]
        exact aw_iret rfl (by decide) (by decide) dX5_fittingSigns_35 (rI_of rfl)
      · have d_1 := c_3
        refine aw_iinc_n (L' := [(2, .int (nI (k + 1))), (0, .ref o), (1, .ref 14)]) 1 dX5_fittingSigns_28 rfl (by decide) (by decide) rfl ?_
        refine aw_goto (tgt := 2) dX5_fittingSigns_31 (by decide) ?_
        refine aw_sub [(2, .int (nI (k + 1))), (0, .ref o), (1, .ref 14)] (by simp) ?_
        exact ih _ (by omega) (k + 1) rfl (by omega) (by rw [he, fit_y (show k < (wdL 6).length from d_0) d_1]; omega)
set_option maxHeartbeats 4000000 in
theorem p_fit6 {l : Launch} {G : GT} {n : Nat} {f : HT} {o : Nat} {I : Nat → Int32} {A : Nat → Nat → Int32} {g : Nat → Option Nat} {tn : Nat} {tx : Nat → Nat} (hT : TP9 I A tn tx) {sp : Nat} (h6 : I 6 = nI sp) (hs : sp ≤ 60) : AM l G yX5_fittingSigns (.code yX5_fittingSigns cX5_fittingSigns 3 (some .int)) 4 240 0 0 [.ref o, .ref 14] (pU f o I A g) n (rI (nI (fitW tn tx sp 6)) (pU f o I A g) n) := by
  refine aw_enter (M := MX5_fittingSigns) rfl rfl (by decide +kernel) rfl (Nat.le_of_ble_eq_true rfl) ?_
  show AW l G MX5_fittingSigns 4 240 0 0 _ n 0 0 0 [(0, .ref o), (1, .ref 14)] [] _ n
  refine aw_iconst_n 0 dX5_fittingSigns_0 (by decide) ?_
  refine aw_istore_n (L' := [(2, .int (nI 0)), (0, .ref o), (1, .ref 14)]) dX5_fittingSigns_1 rfl (by decide) rfl ?_
  exact p_fit6_l hT h6 hs _ 0 rfl (Nat.zero_le _) (by rw [Nat.zero_add]; rfl)
abbrev MX5_readWord : MT := (RX5, cX5_readWord, 5, (some (.object "PendulumGym$Word")), [], "readWord")
set_option maxHeartbeats 4000000 in
theorem p_rw {l : Launch} {G : GT} {n : Nat} {f : HT} {o : Nat} {I : Nat → Int32} {A : Nat → Nat → Int32} {g : Nat → Option Nat} {tn : Nat} {tx : Nat → Nat} (hT : TP9 I A tn tx) {sp : Nat} (h6 : I 6 = nI sp) (hs : sp ≤ 60) : AM l G yX5_readWord (.code yX5_readWord cX5_readWord 5 (some (.object "PendulumGym$Word"))) 5 300 0 0 [.ref o] (pU f o I A g) n (RWo f o I A g tn tx sp n) := by
  refine aw_enter (M := MX5_readWord) rfl rfl (by decide +kernel) rfl (Nat.le_of_ble_eq_true rfl) ?_
  have ht60 := hT.2.1
  have hx0 : mxF tn tx sp 0 ≤ 9 := Nat.zero_le _
  show AW l G MX5_readWord 5 300 0 0 _ n 0 0 0 [(0, .ref o)] [] _ n
  refine aw_iconst_n 0 dX5_readWord_0 (by decide) ?_
  refine aw_istore_n (L' := [(1, .int (nI 0)), (0, .ref o)]) dX5_readWord_1 rfl (by decide) rfl ?_
  refine aw_iconst_n 0 dX5_readWord_2 (by decide) ?_
  refine aw_istore_n (L' := [(2, .int (nI 0)), (1, .int (nI 0)), (0, .ref o)]) dX5_readWord_3 rfl (by decide) rfl ?_
  refine aw_iload_n dX5_readWord_4 rfl rfl ?_
  refine aw_getsN (v := .ref 26) (List.mem_of_getElem? (i := 1) rfl) (show 26 < o0 by decide) (List.mem_of_getElem? (i := 5) rfl) dX5_readWord_5 ?_
  refine aw_olen (v := nI 7) (List.mem_of_getElem? (i := 9) rfl) (by decide) rfl dX5_readWord_8 ?_
  refine aw_icmp_ge_n (by omega) (by omega) (tgt := 66) dX5_readWord_9 (by decide) (fun c_1 => by exfalso; omega) (fun c_1 => ?_)
  refine aw_getsN (v := .ref 26) (List.mem_of_getElem? (i := 1) rfl) (show 26 < o0 by decide) (List.mem_of_getElem? (i := 5) rfl) dX5_readWord_12 ?_
  refine aw_iload_n dX5_readWord_15 rfl rfl ?_
  refine aw_oaald (v := .ref (1 + 0)) (List.mem_of_getElem? (i := 9) rfl) (by decide) (vp_in_nI (by decide) (by decide)) rfl (show 1 + 0 < o0 by decide) dX5_readWord_16 ?_
  refine aw_astore_n (L' := [(3, .ref 1), (2, .int (nI 0)), (1, .int (nI (mxF tn tx sp 0))), (0, .ref o)]) dX5_readWord_17 rfl (by decide) rfl ?_
  refine aw_aload_n dX5_readWord_18 rfl rfl ?_
  refine aw_aload_n dX5_readWord_19 rfl rfl ?_
  refine aw_oget (v := .ref 8) (List.mem_of_getElem? (i := 1) rfl) (by decide) (show 8 < o0 by decide) sl_X5_71 dX5_readWord_20 ?_
  refine aw_vI (as := [Value.ref 8]) (rest := []) mV_X5_fittingSigns (p_fit0 hT h6 hs) ml_X5_75 pU_0 rfl dX5_readWord_23 rfl rfl (by decide) (Nat.le_of_ble_eq_true rfl) (by decide) ?_
  have hf0 : fitW tn tx sp 0 ≤ 5 := fit_le _ _
  refine aw_istore (L' := [(4, .int (nI (fitW tn tx sp 0))), (3, .ref 1), (2, .int (nI 0)), (1, .int (nI (mxF tn tx sp 0))), (0, .ref o)]) dX5_readWord_26 (by decide) rfl ?_
  refine aw_iload dX5_readWord_28 rfl ?_
  refine aw_aload_n dX5_readWord_30 rfl rfl ?_
  refine aw_oget (v := .ref 8) (List.mem_of_getElem? (i := 1) rfl) (by decide) (show 8 < o0 by decide) sl_X5_71 dX5_readWord_31 ?_
  refine aw_cI (as := []) (rest := [Value.int (nI (fitW tn tx sp 0))]) (MV.c mV_J0_length_8abf5) o_len8 ml_X5_79 (RC.o (List.mem_of_getElem? (i := 7) rfl) (by decide)) dX5_readWord_34 rfl rfl (by decide) (Nat.le_of_ble_eq_true rfl) (by decide) ?_
  refine aw_icmp_ne_n (by omega) (by omega) (tgt := 53) dX5_readWord_37 (by decide) (fun c_2 => ?_) (fun c_2 => ?_)
  · refine aw_iload_n dX5_readWord_53 rfl rfl ?_
    refine aw_iload dX5_readWord_54 rfl ?_
    refine aw_mmax_n (by omega) (by omega) ml_X5_84 (by decide) (Nat.le_of_ble_eq_true rfl) (by decide) (by decide) dX5_readWord_56 ?_
    have hx1 : mxF tn tx sp 1 ≤ 9 := mx_9 1 (by decide)
    refine aw_istore_n (L' := [(1, .int (nI (mxF tn tx sp 1))), (4, .int (nI (fitW tn tx sp 0))), (3, .ref 1), (2, .int (nI 0)), (0, .ref o)]) dX5_readWord_59 rfl (by decide) rfl ?_
    refine aw_iinc_n (L' := [(2, .int (nI (0 + 1))), (1, .int (nI (mxF tn tx sp 1))), (4, .int (nI (fitW tn tx sp 0))), (3, .ref 1), (0, .ref o)]) 1 dX5_readWord_60 rfl (by decide) (by decide) rfl ?_
    refine aw_goto (tgt := 4) dX5_readWord_63 (by decide) ?_
    refine aw_iload_n dX5_readWord_4 rfl rfl ?_
    refine aw_getsN (v := .ref 26) (List.mem_of_getElem? (i := 1) rfl) (show 26 < o0 by decide) (List.mem_of_getElem? (i := 5) rfl) dX5_readWord_5 ?_
    refine aw_olen (v := nI 7) (List.mem_of_getElem? (i := 9) rfl) (by decide) rfl dX5_readWord_8 ?_
    refine aw_icmp_ge_n (by omega) (by omega) (tgt := 66) dX5_readWord_9 (by decide) (fun c_3 => by exfalso; omega) (fun c_3 => ?_)
    refine aw_getsN (v := .ref 26) (List.mem_of_getElem? (i := 1) rfl) (show 26 < o0 by decide) (List.mem_of_getElem? (i := 5) rfl) dX5_readWord_12 ?_
    refine aw_iload_n dX5_readWord_15 rfl rfl ?_
    refine aw_oaald (v := .ref (1 + 1)) (List.mem_of_getElem? (i := 9) rfl) (by decide) (vp_in_nI (by decide) (by decide)) rfl (show 1 + 1 < o0 by decide) dX5_readWord_16 ?_
    refine aw_astore_n (L' := [(3, .ref 2), (2, .int (nI 1)), (1, .int (nI (mxF tn tx sp 1))), (4, .int (nI (fitW tn tx sp 0))), (0, .ref o)]) dX5_readWord_17 rfl (by decide) rfl ?_
    refine aw_aload_n dX5_readWord_18 rfl rfl ?_
    refine aw_aload_n dX5_readWord_19 rfl rfl ?_
    refine aw_oget (v := .ref 9) (List.mem_of_getElem? (i := 5) rfl) (by decide) (show 9 < o0 by decide) sl_X5_71 dX5_readWord_20 ?_
    refine aw_vI (as := [Value.ref 9]) (rest := []) mV_X5_fittingSigns (p_fit1 hT h6 hs) ml_X5_75 pU_0 rfl dX5_readWord_23 rfl rfl (by decide) (Nat.le_of_ble_eq_true rfl) (by decide) ?_
    have hf1 : fitW tn tx sp 1 ≤ 5 := fit_le _ _
    refine aw_istore (L' := [(4, .int (nI (fitW tn tx sp 1))), (3, .ref 2), (2, .int (nI 1)), (1, .int (nI (mxF tn tx sp 1))), (0, .ref o)]) dX5_readWord_26 (by decide) rfl ?_
    refine aw_iload dX5_readWord_28 rfl ?_
    refine aw_aload_n dX5_readWord_30 rfl rfl ?_
    refine aw_oget (v := .ref 9) (List.mem_of_getElem? (i := 5) rfl) (by decide) (show 9 < o0 by decide) sl_X5_71 dX5_readWord_31 ?_
    refine aw_cI (as := []) (rest := [Value.int (nI (fitW tn tx sp 1))]) (MV.c mV_J0_length_8abf5) o_len9 ml_X5_79 (RC.o (List.mem_of_getElem? (i := 8) rfl) (by decide)) dX5_readWord_34 rfl rfl (by decide) (Nat.le_of_ble_eq_true rfl) (by decide) ?_
    refine aw_icmp_ne_n (by omega) (by omega) (tgt := 53) dX5_readWord_37 (by decide) (fun c_4 => ?_) (fun c_4 => ?_)
    · refine aw_iload_n dX5_readWord_53 rfl rfl ?_
      refine aw_iload dX5_readWord_54 rfl ?_
      refine aw_mmax_n (by omega) (by omega) ml_X5_84 (by decide) (Nat.le_of_ble_eq_true rfl) (by decide) (by decide) dX5_readWord_56 ?_
      have hx2 : mxF tn tx sp 2 ≤ 9 := mx_9 2 (by decide)
      refine aw_istore_n (L' := [(1, .int (nI (mxF tn tx sp 2))), (4, .int (nI (fitW tn tx sp 1))), (3, .ref 2), (2, .int (nI 1)), (0, .ref o)]) dX5_readWord_59 rfl (by decide) rfl ?_
      refine aw_iinc_n (L' := [(2, .int (nI (1 + 1))), (1, .int (nI (mxF tn tx sp 2))), (4, .int (nI (fitW tn tx sp 1))), (3, .ref 2), (0, .ref o)]) 1 dX5_readWord_60 rfl (by decide) (by decide) rfl ?_
      refine aw_goto (tgt := 4) dX5_readWord_63 (by decide) ?_
      refine aw_iload_n dX5_readWord_4 rfl rfl ?_
      refine aw_getsN (v := .ref 26) (List.mem_of_getElem? (i := 1) rfl) (show 26 < o0 by decide) (List.mem_of_getElem? (i := 5) rfl) dX5_readWord_5 ?_
      refine aw_olen (v := nI 7) (List.mem_of_getElem? (i := 9) rfl) (by decide) rfl dX5_readWord_8 ?_
      refine aw_icmp_ge_n (by omega) (by omega) (tgt := 66) dX5_readWord_9 (by decide) (fun c_5 => by exfalso; omega) (fun c_5 => ?_)
      refine aw_getsN (v := .ref 26) (List.mem_of_getElem? (i := 1) rfl) (show 26 < o0 by decide) (List.mem_of_getElem? (i := 5) rfl) dX5_readWord_12 ?_
      refine aw_iload_n dX5_readWord_15 rfl rfl ?_
      refine aw_oaald (v := .ref (1 + 2)) (List.mem_of_getElem? (i := 9) rfl) (by decide) (vp_in_nI (by decide) (by decide)) rfl (show 1 + 2 < o0 by decide) dX5_readWord_16 ?_
      refine aw_astore_n (L' := [(3, .ref 3), (2, .int (nI 2)), (1, .int (nI (mxF tn tx sp 2))), (4, .int (nI (fitW tn tx sp 1))), (0, .ref o)]) dX5_readWord_17 rfl (by decide) rfl ?_
      refine aw_aload_n dX5_readWord_18 rfl rfl ?_
      refine aw_aload_n dX5_readWord_19 rfl rfl ?_
      refine aw_oget (v := .ref 10) (List.mem_of_getElem? (i := 9) rfl) (by decide) (show 10 < o0 by decide) sl_X5_71 dX5_readWord_20 ?_
      refine aw_vI (as := [Value.ref 10]) (rest := []) mV_X5_fittingSigns (p_fit2 hT h6 hs) ml_X5_75 pU_0 rfl dX5_readWord_23 rfl rfl (by decide) (Nat.le_of_ble_eq_true rfl) (by decide) ?_
      have hf2 : fitW tn tx sp 2 ≤ 6 := fit_le _ _
      refine aw_istore (L' := [(4, .int (nI (fitW tn tx sp 2))), (3, .ref 3), (2, .int (nI 2)), (1, .int (nI (mxF tn tx sp 2))), (0, .ref o)]) dX5_readWord_26 (by decide) rfl ?_
      refine aw_iload dX5_readWord_28 rfl ?_
      refine aw_aload_n dX5_readWord_30 rfl rfl ?_
      refine aw_oget (v := .ref 10) (List.mem_of_getElem? (i := 9) rfl) (by decide) (show 10 < o0 by decide) sl_X5_71 dX5_readWord_31 ?_
      refine aw_cI (as := []) (rest := [Value.int (nI (fitW tn tx sp 2))]) (MV.c mV_J0_length_8abf5) o_len10 ml_X5_79 (RC.o (List.mem_of_getElem? (i := 9) rfl) (by decide)) dX5_readWord_34 rfl rfl (by decide) (Nat.le_of_ble_eq_true rfl) (by decide) ?_
      refine aw_icmp_ne_n (by omega) (by omega) (tgt := 53) dX5_readWord_37 (by decide) (fun c_6 => ?_) (fun c_6 => ?_)
      · refine aw_iload_n dX5_readWord_53 rfl rfl ?_
        refine aw_iload dX5_readWord_54 rfl ?_
        refine aw_mmax_n (by omega) (by omega) ml_X5_84 (by decide) (Nat.le_of_ble_eq_true rfl) (by decide) (by decide) dX5_readWord_56 ?_
        have hx3 : mxF tn tx sp 3 ≤ 9 := mx_9 3 (by decide)
        refine aw_istore_n (L' := [(1, .int (nI (mxF tn tx sp 3))), (4, .int (nI (fitW tn tx sp 2))), (3, .ref 3), (2, .int (nI 2)), (0, .ref o)]) dX5_readWord_59 rfl (by decide) rfl ?_
        refine aw_iinc_n (L' := [(2, .int (nI (2 + 1))), (1, .int (nI (mxF tn tx sp 3))), (4, .int (nI (fitW tn tx sp 2))), (3, .ref 3), (0, .ref o)]) 1 dX5_readWord_60 rfl (by decide) (by decide) rfl ?_
        refine aw_goto (tgt := 4) dX5_readWord_63 (by decide) ?_
        refine aw_iload_n dX5_readWord_4 rfl rfl ?_
        refine aw_getsN (v := .ref 26) (List.mem_of_getElem? (i := 1) rfl) (show 26 < o0 by decide) (List.mem_of_getElem? (i := 5) rfl) dX5_readWord_5 ?_
        refine aw_olen (v := nI 7) (List.mem_of_getElem? (i := 9) rfl) (by decide) rfl dX5_readWord_8 ?_
        refine aw_icmp_ge_n (by omega) (by omega) (tgt := 66) dX5_readWord_9 (by decide) (fun c_7 => by exfalso; omega) (fun c_7 => ?_)
        refine aw_getsN (v := .ref 26) (List.mem_of_getElem? (i := 1) rfl) (show 26 < o0 by decide) (List.mem_of_getElem? (i := 5) rfl) dX5_readWord_12 ?_
        refine aw_iload_n dX5_readWord_15 rfl rfl ?_
        refine aw_oaald (v := .ref (1 + 3)) (List.mem_of_getElem? (i := 9) rfl) (by decide) (vp_in_nI (by decide) (by decide)) rfl (show 1 + 3 < o0 by decide) dX5_readWord_16 ?_
        refine aw_astore_n (L' := [(3, .ref 4), (2, .int (nI 3)), (1, .int (nI (mxF tn tx sp 3))), (4, .int (nI (fitW tn tx sp 2))), (0, .ref o)]) dX5_readWord_17 rfl (by decide) rfl ?_
        refine aw_aload_n dX5_readWord_18 rfl rfl ?_
        refine aw_aload_n dX5_readWord_19 rfl rfl ?_
        refine aw_oget (v := .ref 11) (List.mem_of_getElem? (i := 13) rfl) (by decide) (show 11 < o0 by decide) sl_X5_71 dX5_readWord_20 ?_
        refine aw_vI (as := [Value.ref 11]) (rest := []) mV_X5_fittingSigns (p_fit3 hT h6 hs) ml_X5_75 pU_0 rfl dX5_readWord_23 rfl rfl (by decide) (Nat.le_of_ble_eq_true rfl) (by decide) ?_
        have hf3 : fitW tn tx sp 3 ≤ 9 := fit_le _ _
        refine aw_istore (L' := [(4, .int (nI (fitW tn tx sp 3))), (3, .ref 4), (2, .int (nI 3)), (1, .int (nI (mxF tn tx sp 3))), (0, .ref o)]) dX5_readWord_26 (by decide) rfl ?_
        refine aw_iload dX5_readWord_28 rfl ?_
        refine aw_aload_n dX5_readWord_30 rfl rfl ?_
        refine aw_oget (v := .ref 11) (List.mem_of_getElem? (i := 13) rfl) (by decide) (show 11 < o0 by decide) sl_X5_71 dX5_readWord_31 ?_
        refine aw_cI (as := []) (rest := [Value.int (nI (fitW tn tx sp 3))]) (MV.c mV_J0_length_8abf5) o_len11 ml_X5_79 (RC.o (List.mem_of_getElem? (i := 10) rfl) (by decide)) dX5_readWord_34 rfl rfl (by decide) (Nat.le_of_ble_eq_true rfl) (by decide) ?_
        refine aw_icmp_ne_n (by omega) (by omega) (tgt := 53) dX5_readWord_37 (by decide) (fun c_8 => ?_) (fun c_8 => ?_)
        · refine aw_iload_n dX5_readWord_53 rfl rfl ?_
          refine aw_iload dX5_readWord_54 rfl ?_
          refine aw_mmax_n (by omega) (by omega) ml_X5_84 (by decide) (Nat.le_of_ble_eq_true rfl) (by decide) (by decide) dX5_readWord_56 ?_
          have hx4 : mxF tn tx sp 4 ≤ 9 := mx_9 4 (by decide)
          refine aw_istore_n (L' := [(1, .int (nI (mxF tn tx sp 4))), (4, .int (nI (fitW tn tx sp 3))), (3, .ref 4), (2, .int (nI 3)), (0, .ref o)]) dX5_readWord_59 rfl (by decide) rfl ?_
          refine aw_iinc_n (L' := [(2, .int (nI (3 + 1))), (1, .int (nI (mxF tn tx sp 4))), (4, .int (nI (fitW tn tx sp 3))), (3, .ref 4), (0, .ref o)]) 1 dX5_readWord_60 rfl (by decide) (by decide) rfl ?_
          refine aw_goto (tgt := 4) dX5_readWord_63 (by decide) ?_
          refine aw_iload_n dX5_readWord_4 rfl rfl ?_
          refine aw_getsN (v := .ref 26) (List.mem_of_getElem? (i := 1) rfl) (show 26 < o0 by decide) (List.mem_of_getElem? (i := 5) rfl) dX5_readWord_5 ?_
          refine aw_olen (v := nI 7) (List.mem_of_getElem? (i := 9) rfl) (by decide) rfl dX5_readWord_8 ?_
          refine aw_icmp_ge_n (by omega) (by omega) (tgt := 66) dX5_readWord_9 (by decide) (fun c_9 => by exfalso; omega) (fun c_9 => ?_)
          refine aw_getsN (v := .ref 26) (List.mem_of_getElem? (i := 1) rfl) (show 26 < o0 by decide) (List.mem_of_getElem? (i := 5) rfl) dX5_readWord_12 ?_
          refine aw_iload_n dX5_readWord_15 rfl rfl ?_
          refine aw_oaald (v := .ref (1 + 4)) (List.mem_of_getElem? (i := 9) rfl) (by decide) (vp_in_nI (by decide) (by decide)) rfl (show 1 + 4 < o0 by decide) dX5_readWord_16 ?_
          refine aw_astore_n (L' := [(3, .ref 5), (2, .int (nI 4)), (1, .int (nI (mxF tn tx sp 4))), (4, .int (nI (fitW tn tx sp 3))), (0, .ref o)]) dX5_readWord_17 rfl (by decide) rfl ?_
          refine aw_aload_n dX5_readWord_18 rfl rfl ?_
          refine aw_aload_n dX5_readWord_19 rfl rfl ?_
          refine aw_oget (v := .ref 12) (List.mem_of_getElem? (i := 17) rfl) (by decide) (show 12 < o0 by decide) sl_X5_71 dX5_readWord_20 ?_
          refine aw_vI (as := [Value.ref 12]) (rest := []) mV_X5_fittingSigns (p_fit4 hT h6 hs) ml_X5_75 pU_0 rfl dX5_readWord_23 rfl rfl (by decide) (Nat.le_of_ble_eq_true rfl) (by decide) ?_
          have hf4 : fitW tn tx sp 4 ≤ 4 := fit_le _ _
          refine aw_istore (L' := [(4, .int (nI (fitW tn tx sp 4))), (3, .ref 5), (2, .int (nI 4)), (1, .int (nI (mxF tn tx sp 4))), (0, .ref o)]) dX5_readWord_26 (by decide) rfl ?_
          refine aw_iload dX5_readWord_28 rfl ?_
          refine aw_aload_n dX5_readWord_30 rfl rfl ?_
          refine aw_oget (v := .ref 12) (List.mem_of_getElem? (i := 17) rfl) (by decide) (show 12 < o0 by decide) sl_X5_71 dX5_readWord_31 ?_
          refine aw_cI (as := []) (rest := [Value.int (nI (fitW tn tx sp 4))]) (MV.c mV_J0_length_8abf5) o_len12 ml_X5_79 (RC.o (List.mem_of_getElem? (i := 11) rfl) (by decide)) dX5_readWord_34 rfl rfl (by decide) (Nat.le_of_ble_eq_true rfl) (by decide) ?_
          refine aw_icmp_ne_n (by omega) (by omega) (tgt := 53) dX5_readWord_37 (by decide) (fun c_10 => ?_) (fun c_10 => ?_)
          · refine aw_iload_n dX5_readWord_53 rfl rfl ?_
            refine aw_iload dX5_readWord_54 rfl ?_
            refine aw_mmax_n (by omega) (by omega) ml_X5_84 (by decide) (Nat.le_of_ble_eq_true rfl) (by decide) (by decide) dX5_readWord_56 ?_
            have hx5 : mxF tn tx sp 5 ≤ 9 := mx_9 5 (by decide)
            refine aw_istore_n (L' := [(1, .int (nI (mxF tn tx sp 5))), (4, .int (nI (fitW tn tx sp 4))), (3, .ref 5), (2, .int (nI 4)), (0, .ref o)]) dX5_readWord_59 rfl (by decide) rfl ?_
            refine aw_iinc_n (L' := [(2, .int (nI (4 + 1))), (1, .int (nI (mxF tn tx sp 5))), (4, .int (nI (fitW tn tx sp 4))), (3, .ref 5), (0, .ref o)]) 1 dX5_readWord_60 rfl (by decide) (by decide) rfl ?_
            refine aw_goto (tgt := 4) dX5_readWord_63 (by decide) ?_
            refine aw_iload_n dX5_readWord_4 rfl rfl ?_
            refine aw_getsN (v := .ref 26) (List.mem_of_getElem? (i := 1) rfl) (show 26 < o0 by decide) (List.mem_of_getElem? (i := 5) rfl) dX5_readWord_5 ?_
            refine aw_olen (v := nI 7) (List.mem_of_getElem? (i := 9) rfl) (by decide) rfl dX5_readWord_8 ?_
            refine aw_icmp_ge_n (by omega) (by omega) (tgt := 66) dX5_readWord_9 (by decide) (fun c_11 => by exfalso; omega) (fun c_11 => ?_)
            refine aw_getsN (v := .ref 26) (List.mem_of_getElem? (i := 1) rfl) (show 26 < o0 by decide) (List.mem_of_getElem? (i := 5) rfl) dX5_readWord_12 ?_
            refine aw_iload_n dX5_readWord_15 rfl rfl ?_
            refine aw_oaald (v := .ref (1 + 5)) (List.mem_of_getElem? (i := 9) rfl) (by decide) (vp_in_nI (by decide) (by decide)) rfl (show 1 + 5 < o0 by decide) dX5_readWord_16 ?_
            refine aw_astore_n (L' := [(3, .ref 6), (2, .int (nI 5)), (1, .int (nI (mxF tn tx sp 5))), (4, .int (nI (fitW tn tx sp 4))), (0, .ref o)]) dX5_readWord_17 rfl (by decide) rfl ?_
            refine aw_aload_n dX5_readWord_18 rfl rfl ?_
            refine aw_aload_n dX5_readWord_19 rfl rfl ?_
            refine aw_oget (v := .ref 13) (List.mem_of_getElem? (i := 21) rfl) (by decide) (show 13 < o0 by decide) sl_X5_71 dX5_readWord_20 ?_
            refine aw_vI (as := [Value.ref 13]) (rest := []) mV_X5_fittingSigns (p_fit5 hT h6 hs) ml_X5_75 pU_0 rfl dX5_readWord_23 rfl rfl (by decide) (Nat.le_of_ble_eq_true rfl) (by decide) ?_
            have hf5 : fitW tn tx sp 5 ≤ 4 := fit_le _ _
            refine aw_istore (L' := [(4, .int (nI (fitW tn tx sp 5))), (3, .ref 6), (2, .int (nI 5)), (1, .int (nI (mxF tn tx sp 5))), (0, .ref o)]) dX5_readWord_26 (by decide) rfl ?_
            refine aw_iload dX5_readWord_28 rfl ?_
            refine aw_aload_n dX5_readWord_30 rfl rfl ?_
            refine aw_oget (v := .ref 13) (List.mem_of_getElem? (i := 21) rfl) (by decide) (show 13 < o0 by decide) sl_X5_71 dX5_readWord_31 ?_
            refine aw_cI (as := []) (rest := [Value.int (nI (fitW tn tx sp 5))]) (MV.c mV_J0_length_8abf5) o_len13 ml_X5_79 (RC.o (List.mem_of_getElem? (i := 12) rfl) (by decide)) dX5_readWord_34 rfl rfl (by decide) (Nat.le_of_ble_eq_true rfl) (by decide) ?_
            refine aw_icmp_ne_n (by omega) (by omega) (tgt := 53) dX5_readWord_37 (by decide) (fun c_12 => ?_) (fun c_12 => ?_)
            · refine aw_iload_n dX5_readWord_53 rfl rfl ?_
              refine aw_iload dX5_readWord_54 rfl ?_
              refine aw_mmax_n (by omega) (by omega) ml_X5_84 (by decide) (Nat.le_of_ble_eq_true rfl) (by decide) (by decide) dX5_readWord_56 ?_
              have hx6 : mxF tn tx sp 6 ≤ 9 := mx_9 6 (by decide)
              refine aw_istore_n (L' := [(1, .int (nI (mxF tn tx sp 6))), (4, .int (nI (fitW tn tx sp 5))), (3, .ref 6), (2, .int (nI 5)), (0, .ref o)]) dX5_readWord_59 rfl (by decide) rfl ?_
              refine aw_iinc_n (L' := [(2, .int (nI (5 + 1))), (1, .int (nI (mxF tn tx sp 6))), (4, .int (nI (fitW tn tx sp 5))), (3, .ref 6), (0, .ref o)]) 1 dX5_readWord_60 rfl (by decide) (by decide) rfl ?_
              refine aw_goto (tgt := 4) dX5_readWord_63 (by decide) ?_
              refine aw_iload_n dX5_readWord_4 rfl rfl ?_
              refine aw_getsN (v := .ref 26) (List.mem_of_getElem? (i := 1) rfl) (show 26 < o0 by decide) (List.mem_of_getElem? (i := 5) rfl) dX5_readWord_5 ?_
              refine aw_olen (v := nI 7) (List.mem_of_getElem? (i := 9) rfl) (by decide) rfl dX5_readWord_8 ?_
              refine aw_icmp_ge_n (by omega) (by omega) (tgt := 66) dX5_readWord_9 (by decide) (fun c_13 => by exfalso; omega) (fun c_13 => ?_)
              refine aw_getsN (v := .ref 26) (List.mem_of_getElem? (i := 1) rfl) (show 26 < o0 by decide) (List.mem_of_getElem? (i := 5) rfl) dX5_readWord_12 ?_
              refine aw_iload_n dX5_readWord_15 rfl rfl ?_
              refine aw_oaald (v := .ref (1 + 6)) (List.mem_of_getElem? (i := 9) rfl) (by decide) (vp_in_nI (by decide) (by decide)) rfl (show 1 + 6 < o0 by decide) dX5_readWord_16 ?_
              refine aw_astore_n (L' := [(3, .ref 7), (2, .int (nI 6)), (1, .int (nI (mxF tn tx sp 6))), (4, .int (nI (fitW tn tx sp 5))), (0, .ref o)]) dX5_readWord_17 rfl (by decide) rfl ?_
              refine aw_aload_n dX5_readWord_18 rfl rfl ?_
              refine aw_aload_n dX5_readWord_19 rfl rfl ?_
              refine aw_oget (v := .ref 14) (List.mem_of_getElem? (i := 25) rfl) (by decide) (show 14 < o0 by decide) sl_X5_71 dX5_readWord_20 ?_
              refine aw_vI (as := [Value.ref 14]) (rest := []) mV_X5_fittingSigns (p_fit6 hT h6 hs) ml_X5_75 pU_0 rfl dX5_readWord_23 rfl rfl (by decide) (Nat.le_of_ble_eq_true rfl) (by decide) ?_
              have hf6 : fitW tn tx sp 6 ≤ 5 := fit_le _ _
              refine aw_istore (L' := [(4, .int (nI (fitW tn tx sp 6))), (3, .ref 7), (2, .int (nI 6)), (1, .int (nI (mxF tn tx sp 6))), (0, .ref o)]) dX5_readWord_26 (by decide) rfl ?_
              refine aw_iload dX5_readWord_28 rfl ?_
              refine aw_aload_n dX5_readWord_30 rfl rfl ?_
              refine aw_oget (v := .ref 14) (List.mem_of_getElem? (i := 25) rfl) (by decide) (show 14 < o0 by decide) sl_X5_71 dX5_readWord_31 ?_
              refine aw_cI (as := []) (rest := [Value.int (nI (fitW tn tx sp 6))]) (MV.c mV_J0_length_8abf5) o_len14 ml_X5_79 (RC.o (List.mem_of_getElem? (i := 13) rfl) (by decide)) dX5_readWord_34 rfl rfl (by decide) (Nat.le_of_ble_eq_true rfl) (by decide) ?_
              refine aw_icmp_ne_n (by omega) (by omega) (tgt := 53) dX5_readWord_37 (by decide) (fun c_14 => ?_) (fun c_14 => ?_)
              · refine aw_iload_n dX5_readWord_53 rfl rfl ?_
                refine aw_iload dX5_readWord_54 rfl ?_
                refine aw_mmax_n (by omega) (by omega) ml_X5_84 (by decide) (Nat.le_of_ble_eq_true rfl) (by decide) (by decide) dX5_readWord_56 ?_
                have hx7 : mxF tn tx sp 7 ≤ 9 := mx_9 7 (by decide)
                refine aw_istore_n (L' := [(1, .int (nI (mxF tn tx sp 7))), (4, .int (nI (fitW tn tx sp 6))), (3, .ref 7), (2, .int (nI 6)), (0, .ref o)]) dX5_readWord_59 rfl (by decide) rfl ?_
                refine aw_iinc_n (L' := [(2, .int (nI (6 + 1))), (1, .int (nI (mxF tn tx sp 7))), (4, .int (nI (fitW tn tx sp 6))), (3, .ref 7), (0, .ref o)]) 1 dX5_readWord_60 rfl (by decide) (by decide) rfl ?_
                refine aw_goto (tgt := 4) dX5_readWord_63 (by decide) ?_
                refine aw_iload_n dX5_readWord_4 rfl rfl ?_
                refine aw_getsN (v := .ref 26) (List.mem_of_getElem? (i := 1) rfl) (show 26 < o0 by decide) (List.mem_of_getElem? (i := 5) rfl) dX5_readWord_5 ?_
                refine aw_olen (v := nI 7) (List.mem_of_getElem? (i := 9) rfl) (by decide) rfl dX5_readWord_8 ?_
                refine aw_icmp_ge_n (by omega) (by omega) (tgt := 66) dX5_readWord_9 (by decide) (fun c_15 => ?_) (fun c_15 => by exfalso; omega)
                refine aw_aload_n dX5_readWord_66 rfl rfl ?_
                refine aw_dup dX5_readWord_67 rfl ?_
                refine aw_get (v := .int (nI sp)) fl_X5_35 pU_0 (congrArg (fun z => some (Value.int z)) (h6)) dX5_readWord_68 ?_
                refine aw_iload_n dX5_readWord_71 rfl rfl ?_
                refine aw_iadd_n dX5_readWord_72 ?_
                refine aw_pput fp_X5_35 (by decide) rfl rfl dX5_readWord_73 ?_
                refine aw_null dX5_readWord_76 ?_
                exact aw_aret rfl (Or.inl ⟨_, rfl⟩) (Or.inl rfl) (by decide) (by decide) dX5_readWord_77 ⟨rfl, Or.inr ⟨fun w hw => by rcases (by omega : w = 0 ∨ w = 1 ∨ w = 2 ∨ w = 3 ∨ w = 4 ∨ w = 5 ∨ w = 6) with rfl | rfl | rfl | rfl | rfl | rfl | rfl <;> first | exact c_2 | exact c_4 | exact c_6 | exact c_8 | exact c_10 | exact c_12 | exact c_14, rfl, rfl⟩⟩
              · refine aw_aload_n dX5_readWord_40 rfl rfl ?_
                refine aw_dup dX5_readWord_41 rfl ?_
                refine aw_get (v := .int (nI sp)) fl_X5_35 pU_0 (congrArg (fun z => some (Value.int z)) (h6)) dX5_readWord_42 ?_
                refine aw_iload dX5_readWord_45 rfl ?_
                refine aw_iadd_n dX5_readWord_47 ?_
                refine aw_pput fp_X5_35 (by decide) rfl rfl dX5_readWord_48 ?_
                refine aw_aload_n dX5_readWord_51 rfl rfl ?_
                exact aw_aret rfl (Or.inl ⟨_, rfl⟩) (Or.inr ⟨_, rfl⟩) (by decide) (by decide) dX5_readWord_52 ⟨rfl, Or.inl ⟨6, by decide, c_14, rfl, by rw [show (wdL 6).length = fitW tn tx sp 6 from (c_14).symm]⟩⟩
            · refine aw_aload_n dX5_readWord_40 rfl rfl ?_
              refine aw_dup dX5_readWord_41 rfl ?_
              refine aw_get (v := .int (nI sp)) fl_X5_35 pU_0 (congrArg (fun z => some (Value.int z)) (h6)) dX5_readWord_42 ?_
              refine aw_iload dX5_readWord_45 rfl ?_
              refine aw_iadd_n dX5_readWord_47 ?_
              refine aw_pput fp_X5_35 (by decide) rfl rfl dX5_readWord_48 ?_
              refine aw_aload_n dX5_readWord_51 rfl rfl ?_
              exact aw_aret rfl (Or.inl ⟨_, rfl⟩) (Or.inr ⟨_, rfl⟩) (by decide) (by decide) dX5_readWord_52 ⟨rfl, Or.inl ⟨5, by decide, c_12, rfl, by rw [show (wdL 5).length = fitW tn tx sp 5 from (c_12).symm]⟩⟩
          · refine aw_aload_n dX5_readWord_40 rfl rfl ?_
            refine aw_dup dX5_readWord_41 rfl ?_
            refine aw_get (v := .int (nI sp)) fl_X5_35 pU_0 (congrArg (fun z => some (Value.int z)) (h6)) dX5_readWord_42 ?_
            refine aw_iload dX5_readWord_45 rfl ?_
            refine aw_iadd_n dX5_readWord_47 ?_
            refine aw_pput fp_X5_35 (by decide) rfl rfl dX5_readWord_48 ?_
            refine aw_aload_n dX5_readWord_51 rfl rfl ?_
            exact aw_aret rfl (Or.inl ⟨_, rfl⟩) (Or.inr ⟨_, rfl⟩) (by decide) (by decide) dX5_readWord_52 ⟨rfl, Or.inl ⟨4, by decide, c_10, rfl, by rw [show (wdL 4).length = fitW tn tx sp 4 from (c_10).symm]⟩⟩
        · refine aw_aload_n dX5_readWord_40 rfl rfl ?_
          refine aw_dup dX5_readWord_41 rfl ?_
          refine aw_get (v := .int (nI sp)) fl_X5_35 pU_0 (congrArg (fun z => some (Value.int z)) (h6)) dX5_readWord_42 ?_
          refine aw_iload dX5_readWord_45 rfl ?_
          refine aw_iadd_n dX5_readWord_47 ?_
          refine aw_pput fp_X5_35 (by decide) rfl rfl dX5_readWord_48 ?_
          refine aw_aload_n dX5_readWord_51 rfl rfl ?_
          exact aw_aret rfl (Or.inl ⟨_, rfl⟩) (Or.inr ⟨_, rfl⟩) (by decide) (by decide) dX5_readWord_52 ⟨rfl, Or.inl ⟨3, by decide, c_8, rfl, by rw [show (wdL 3).length = fitW tn tx sp 3 from (c_8).symm]⟩⟩
      · refine aw_aload_n dX5_readWord_40 rfl rfl ?_
        refine aw_dup dX5_readWord_41 rfl ?_
        refine aw_get (v := .int (nI sp)) fl_X5_35 pU_0 (congrArg (fun z => some (Value.int z)) (h6)) dX5_readWord_42 ?_
        refine aw_iload dX5_readWord_45 rfl ?_
        refine aw_iadd_n dX5_readWord_47 ?_
        refine aw_pput fp_X5_35 (by decide) rfl rfl dX5_readWord_48 ?_
        refine aw_aload_n dX5_readWord_51 rfl rfl ?_
        exact aw_aret rfl (Or.inl ⟨_, rfl⟩) (Or.inr ⟨_, rfl⟩) (by decide) (by decide) dX5_readWord_52 ⟨rfl, Or.inl ⟨2, by decide, c_6, rfl, by rw [show (wdL 2).length = fitW tn tx sp 2 from (c_6).symm]⟩⟩
    · refine aw_aload_n dX5_readWord_40 rfl rfl ?_
      refine aw_dup dX5_readWord_41 rfl ?_
      refine aw_get (v := .int (nI sp)) fl_X5_35 pU_0 (congrArg (fun z => some (Value.int z)) (h6)) dX5_readWord_42 ?_
      refine aw_iload dX5_readWord_45 rfl ?_
      refine aw_iadd_n dX5_readWord_47 ?_
      refine aw_pput fp_X5_35 (by decide) rfl rfl dX5_readWord_48 ?_
      refine aw_aload_n dX5_readWord_51 rfl rfl ?_
      exact aw_aret rfl (Or.inl ⟨_, rfl⟩) (Or.inr ⟨_, rfl⟩) (by decide) (by decide) dX5_readWord_52 ⟨rfl, Or.inl ⟨1, by decide, c_4, rfl, by rw [show (wdL 1).length = fitW tn tx sp 1 from (c_4).symm]⟩⟩
  · refine aw_aload_n dX5_readWord_40 rfl rfl ?_
    refine aw_dup dX5_readWord_41 rfl ?_
    refine aw_get (v := .int (nI sp)) fl_X5_35 pU_0 (congrArg (fun z => some (Value.int z)) (h6)) dX5_readWord_42 ?_
    refine aw_iload dX5_readWord_45 rfl ?_
    refine aw_iadd_n dX5_readWord_47 ?_
    refine aw_pput fp_X5_35 (by decide) rfl rfl dX5_readWord_48 ?_
    refine aw_aload_n dX5_readWord_51 rfl rfl ?_
    exact aw_aret rfl (Or.inl ⟨_, rfl⟩) (Or.inr ⟨_, rfl⟩) (by decide) (by decide) dX5_readWord_52 ⟨rfl, Or.inl ⟨0, by decide, c_2, rfl, by rw [show (wdL 0).length = fitW tn tx sp 0 from (c_2).symm]⟩⟩
abbrev MX5_readCommand : MT := (RX5, cX5_readCommand, 4, (some .boolean), [], "readCommand")
set_option maxHeartbeats 4000000 in
theorem p_rc {l : Launch} {G : GT} {n : Nat} {f : HT} {o : Nat} {I : Nat → Int32} {A : Nat → Nat → Int32} {g : Nat → Option Nat} {tn : Nat} {tx : Nat → Nat} (hT : TP9 I A tn tx) {sp c : Nat} (h5 : I 5 = nI c) (hc : c < 60) (h6 : I 6 = nI sp) (hs : sp ≤ tn) : AM l G yX5_readCommand (.code yX5_readCommand cX5_readCommand 4 (some .boolean)) 6 360 0 0 [.ref o] (pU f o I A g) n (RCo f o I A g c (cmdN tn tx sp) n) := by
  refine aw_enter (M := MX5_readCommand) rfl rfl (by decide +kernel) rfl (Nat.le_of_ble_eq_true rfl) ?_
  have ht60 := hT.2.1
  show AW l G MX5_readCommand 6 360 0 0 _ n 0 0 0 [(0, .ref o)] [] _ n
  refine aw_aload_n dX5_readCommand_0 rfl rfl ?_
  refine aw_vP (as := []) (rest := []) mV_X5_readWord (p_rw hT h6 (by omega)) ml_X5_49 pU_0 rfl dX5_readCommand_1 rfl rfl (by decide) (Nat.le_of_ble_eq_true rfl) (by decide) (fun _ _ _ h => by rcases h.2 with ⟨_, _, _, h, _⟩ | ⟨_, h, _⟩ <;> cases h) (fun r9 f9 n9 _ h => ?_)
  obtain ⟨h1, ⟨w9, hw9, hfit, h2, h3⟩ | ⟨hnf, h2, h3⟩⟩ := h
  · have hcmd := cmd_some hw9 hfit
    have hqt : sp + (wdL w9).length ≤ tn := by rw [← hfit]; exact fitW_tn hs
    cases h2; subst h1; subst h3
    rcases (by omega : w9 = 0 ∨ w9 = 1 ∨ w9 = 2 ∨ w9 = 3 ∨ w9 = 4 ∨ w9 = 5 ∨ w9 = 6) with rfl | rfl | rfl | rfl | rfl | rfl | rfl
    · have hqt : sp + 5 ≤ tn := hqt
      have hcmd : cmdN tn tx sp = wcN tn tx 0 (sp + 5, false) := hcmd
      show AW l G MX5_readCommand 6 360 0 0 _ _ _ _ 4 [(0, .ref o)] [.ref 1] (pU f o (va_up I 6 (nI (sp + 5))) A g) _
      refine aw_astore_n (L' := [(1, .ref 1), (0, .ref o)]) dX5_readCommand_4 rfl (by decide) rfl ?_
      refine aw_aload_n dX5_readCommand_5 rfl rfl ?_
      refine aw_ifnonnull (tgt := 11) dX5_readCommand_6 (by decide) ?_
      refine aw_aload_n dX5_readCommand_11 rfl rfl ?_
      refine aw_oget (v := .int (nI 0)) (List.mem_of_getElem? (i := 2) rfl) (by decide) trivial sl_X5_53 dX5_readCommand_12 ?_
      refine aw_if_eq_n (by omega) (tgt := 26) dX5_readCommand_15 (by decide) (fun c_1 => ?_) (fun c_1 => by exfalso; omega)
      refine aw_iconst_n 0 dX5_readCommand_26 (by decide) ?_
      refine aw_istore_n (L' := [(2, .int (nI 0)), (1, .ref 1), (0, .ref o)]) dX5_readCommand_27 rfl (by decide) rfl ?_
      refine aw_iload_n dX5_readCommand_28 rfl rfl ?_
      refine aw_iconst (v := -1) dX5_readCommand_29 (by decide) ?_
      refine aw_icmp_ne (tgt := 35) dX5_readCommand_30 (by decide) (fun c_2 => ?_) (fun c_2 => by exfalso; exact nI_m1 (by decide) c_2)
      refine aw_aload_n dX5_readCommand_35 rfl rfl ?_
      refine aw_oget (v := .int (nI 0)) (List.mem_of_getElem? (i := 2) rfl) (by decide) trivial sl_X5_53 dX5_readCommand_36 ?_
      refine aw_if_eq_n (by omega) (tgt := 60) dX5_readCommand_39 (by decide) (fun c_3 => ?_) (fun c_3 => by exfalso; omega)
      refine aw_aload_n dX5_readCommand_60 rfl rfl ?_
      refine aw_oget (v := .int (nI 1)) (List.mem_of_getElem? (i := 3) rfl) (by decide) trivial sl_X5_61 dX5_readCommand_61 ?_
      refine aw_if_eq_n (by omega) (tgt := 75) dX5_readCommand_64 (by decide) (fun c_4 => by exfalso; omega) (fun c_4 => ?_)
      refine aw_aload_n dX5_readCommand_67 rfl rfl ?_
      refine aw_iconst_n 3 dX5_readCommand_68 (by decide) ?_
      refine aw_vI (as := [Value.int (nI 3)]) (rest := []) mV_X5_readDigits (p_rd (hT.mv (I' := va_up I 6 (nI (sp + 5))) (A' := A) (up_ne (by decide)) rfl) (m := 3) (sp := (sp + 5)) (by decide) (by decide) up_self (by omega)) ml_X5_57 pU_0 rfl dX5_readCommand_69 rfl rfl (by decide) (Nat.le_of_ble_eq_true rfl) (by decide) ?_
      have hrg3 : rgP tn tx 3 (sp + 5) ≤ tn := rg_tn (by omega)
      refine aw_goto (tgt := 76) dX5_readCommand_72 (by decide) ?_
      refine aw_istore_n (L' := [(3, .int (rgI tn tx 3 (sp + 5))), (2, .int (nI 0)), (1, .ref 1), (0, .ref o)]) dX5_readCommand_76 rfl (by decide) rfl ?_
      refine aw_iload_n dX5_readCommand_77 rfl rfl ?_
      refine aw_iconst (v := -1) dX5_readCommand_78 (by decide) ?_
      refine aw_icmp_ne (tgt := 84) dX5_readCommand_79 (by decide) (fun c_5 => ?_) (fun c_5 => ?_)
      · have e3 := Classical.not_not.mp (mt (rg_m1 (tn := tn) (tx := tx) (m := 3) (sp := (sp + 5)) (by decide)).mpr c_5)
        have hrb3 : (runN tn tx 3 0 (sp + 5)).1 ≤ 1000 := run_b (by decide)
        rw [rg_y e3]
        refine aw_aload_n dX5_readCommand_84 rfl rfl ?_
        refine aw_aload_n dX5_readCommand_85 rfl rfl ?_
        refine aw_iload_n dX5_readCommand_86 rfl rfl ?_
        refine aw_iload_n dX5_readCommand_87 rfl rfl ?_
        refine aw_vV (as := [Value.ref 1, Value.int (nI 0), Value.int (nI ((runN tn tx 3 0 (sp + 5)).1))]) (rest := []) mV_X5_keepCommand (p_keep (c := c) ((up_ne (by decide)).trans ((up_ne (by decide)).trans (h5))) hc (List.mem_of_getElem? (i := 0) rfl) (by decide)) ml_X5_64 pU_0 rfl dX5_readCommand_88 rfl rfl (by decide) (Nat.le_of_ble_eq_true rfl) (by decide) ?_
        refine aw_iconst_n 1 dX5_readCommand_91 (by decide) ?_
        obtain ⟨ch9, k9, k8⟩ := wc_num_y (tn := tn) (tx := tx) (q := sp + 5) (w := 0) (by decide) e3
        exact aw_zret rfl rfl (by decide) (by decide) dX5_readCommand_92 (RCo.good (w := 0) (hcmd.trans k9) k8 ((up_ne (by decide)).trans (up_ne (by decide))) up_self)
      · have e3 := (rg_m1 (by decide)).mp c_5
        refine aw_iconst_n 0 dX5_readCommand_82 (by decide) ?_
        exact aw_zret rfl rfl (by decide) (by decide) dX5_readCommand_83 (RCo.bad (by rw [hcmd]; exact wc_num_n (by decide) e3) ((up_ne (by decide)).trans (up_ne (by decide))) ((up_ne (by decide)).trans (up_ne (by decide))) up_self)
    · have hqt : sp + 5 ≤ tn := hqt
      have hcmd : cmdN tn tx sp = wcN tn tx 1 (sp + 5, false) := hcmd
      show AW l G MX5_readCommand 6 360 0 0 _ _ _ _ 4 [(0, .ref o)] [.ref 2] (pU f o (va_up I 6 (nI (sp + 5))) A g) _
      refine aw_astore_n (L' := [(1, .ref 2), (0, .ref o)]) dX5_readCommand_4 rfl (by decide) rfl ?_
      refine aw_aload_n dX5_readCommand_5 rfl rfl ?_
      refine aw_ifnonnull (tgt := 11) dX5_readCommand_6 (by decide) ?_
      refine aw_aload_n dX5_readCommand_11 rfl rfl ?_
      refine aw_oget (v := .int (nI 1)) (List.mem_of_getElem? (i := 6) rfl) (by decide) trivial sl_X5_53 dX5_readCommand_12 ?_
      refine aw_if_eq_n (by omega) (tgt := 26) dX5_readCommand_15 (by decide) (fun c_6 => by exfalso; omega) (fun c_6 => ?_)
      refine aw_aload_n dX5_readCommand_18 rfl rfl ?_
      refine aw_iconst_n 1 dX5_readCommand_19 (by decide) ?_
      refine aw_vI (as := [Value.int (nI 1)]) (rest := []) mV_X5_readDigits (p_rd (hT.mv (I' := va_up I 6 (nI (sp + 5))) (A' := A) (up_ne (by decide)) rfl) (m := 1) (sp := (sp + 5)) (by decide) (by decide) up_self (by omega)) ml_X5_57 pU_0 rfl dX5_readCommand_20 rfl rfl (by decide) (Nat.le_of_ble_eq_true rfl) (by decide) ?_
      have hrg1 : rgP tn tx 1 (sp + 5) ≤ tn := rg_tn (by omega)
      refine aw_goto (tgt := 27) dX5_readCommand_23 (by decide) ?_
      refine aw_istore_n (L' := [(2, .int (rgI tn tx 1 (sp + 5))), (1, .ref 2), (0, .ref o)]) dX5_readCommand_27 rfl (by decide) rfl ?_
      refine aw_iload_n dX5_readCommand_28 rfl rfl ?_
      refine aw_iconst (v := -1) dX5_readCommand_29 (by decide) ?_
      refine aw_icmp_ne (tgt := 35) dX5_readCommand_30 (by decide) (fun c_7 => ?_) (fun c_7 => ?_)
      · have e1 := Classical.not_not.mp (mt (rg_m1 (tn := tn) (tx := tx) (m := 1) (sp := (sp + 5)) (by decide)).mpr c_7)
        have hrb1 : (runN tn tx 1 0 (sp + 5)).1 ≤ 1000 := run_b (by decide)
        rw [rg_y e1]
        refine aw_aload_n dX5_readCommand_35 rfl rfl ?_
        refine aw_oget (v := .int (nI 1)) (List.mem_of_getElem? (i := 6) rfl) (by decide) trivial sl_X5_53 dX5_readCommand_36 ?_
        refine aw_if_eq_n (by omega) (tgt := 60) dX5_readCommand_39 (by decide) (fun c_8 => by exfalso; omega) (fun c_8 => ?_)
        refine aw_aload_n dX5_readCommand_42 rfl rfl ?_
        refine aw_oget (v := .int (nI 1)) (List.mem_of_getElem? (i := 7) rfl) (by decide) trivial sl_X5_61 dX5_readCommand_43 ?_
        refine aw_if_eq_n (by omega) (tgt := 60) dX5_readCommand_46 (by decide) (fun c_9 => by exfalso; omega) (fun c_9 => ?_)
        refine aw_aload_n dX5_readCommand_49 rfl rfl ?_
        refine aw_bipush_n 32 dX5_readCommand_50 (by decide) ?_
        refine aw_vI (as := [Value.int (nI 32)]) (rest := []) mV_X5_readSign (p_rs (hT.mv (I' := va_up (va_up I 6 (nI (sp + 5))) 6 (nI (rgP tn tx 1 (sp + 5)))) (A' := A) ((up_ne (by decide)).trans (up_ne (by decide))) rfl) (sp := (rgP tn tx 1 (sp + 5))) (c := 32) up_self (by omega) (by decide)) ml_X5_45 pU_0 rfl dX5_readCommand_52 rfl rfl (by decide) (Nat.le_of_ble_eq_true rfl) (by decide) ?_
        refine aw_if_ne_b (tgt := 60) dX5_readCommand_55 (by decide) (fun c_10 => ?_) (fun c_10 => ?_)
        · have d_32 : hN tn tx (rgP tn tx 1 (sp + 5)) = 32 := by simpa using c_10
          rw [if_pos d_32]
          have hb32 : (rgP tn tx 1 (sp + 5)) < tn := hN_lt8 d_32 (by decide)
          refine aw_aload_n dX5_readCommand_60 rfl rfl ?_
          refine aw_oget (v := .int (nI 1)) (List.mem_of_getElem? (i := 7) rfl) (by decide) trivial sl_X5_61 dX5_readCommand_61 ?_
          refine aw_if_eq_n (by omega) (tgt := 75) dX5_readCommand_64 (by decide) (fun c_11 => by exfalso; omega) (fun c_11 => ?_)
          refine aw_aload_n dX5_readCommand_67 rfl rfl ?_
          refine aw_iconst_n 3 dX5_readCommand_68 (by decide) ?_
          refine aw_vI (as := [Value.int (nI 3)]) (rest := []) mV_X5_readDigits (p_rd (hT.mv (I' := va_up (va_up (va_up I 6 (nI (sp + 5))) 6 (nI (rgP tn tx 1 (sp + 5)))) 6 (nI ((rgP tn tx 1 (sp + 5)) + 1))) (A' := A) ((up_ne (by decide)).trans ((up_ne (by decide)).trans (up_ne (by decide)))) rfl) (m := 3) (sp := ((rgP tn tx 1 (sp + 5)) + 1)) (by decide) (by decide) up_self (by omega)) ml_X5_57 pU_0 rfl dX5_readCommand_69 rfl rfl (by decide) (Nat.le_of_ble_eq_true rfl) (by decide) ?_
          have hrg3 : rgP tn tx 3 ((rgP tn tx 1 (sp + 5)) + 1) ≤ tn := rg_tn (by omega)
          refine aw_goto (tgt := 76) dX5_readCommand_72 (by decide) ?_
          refine aw_istore_n (L' := [(3, .int (rgI tn tx 3 ((rgP tn tx 1 (sp + 5)) + 1))), (2, .int (nI ((runN tn tx 1 0 (sp + 5)).1))), (1, .ref 2), (0, .ref o)]) dX5_readCommand_76 rfl (by decide) rfl ?_
          refine aw_iload_n dX5_readCommand_77 rfl rfl ?_
          refine aw_iconst (v := -1) dX5_readCommand_78 (by decide) ?_
          refine aw_icmp_ne (tgt := 84) dX5_readCommand_79 (by decide) (fun c_12 => ?_) (fun c_12 => ?_)
          · have e3 := Classical.not_not.mp (mt (rg_m1 (tn := tn) (tx := tx) (m := 3) (sp := ((rgP tn tx 1 (sp + 5)) + 1)) (by decide)).mpr c_12)
            have hrb3 : (runN tn tx 3 0 ((rgP tn tx 1 (sp + 5)) + 1)).1 ≤ 1000 := run_b (by decide)
            rw [rg_y e3]
            refine aw_aload_n dX5_readCommand_84 rfl rfl ?_
            refine aw_aload_n dX5_readCommand_85 rfl rfl ?_
            refine aw_iload_n dX5_readCommand_86 rfl rfl ?_
            refine aw_iload_n dX5_readCommand_87 rfl rfl ?_
            refine aw_vV (as := [Value.ref 2, Value.int (nI ((runN tn tx 1 0 (sp + 5)).1)), Value.int (nI ((runN tn tx 3 0 ((rgP tn tx 1 (sp + 5)) + 1)).1))]) (rest := []) mV_X5_keepCommand (p_keep (c := c) ((up_ne (by decide)).trans ((up_ne (by decide)).trans ((up_ne (by decide)).trans ((up_ne (by decide)).trans (h5))))) hc (List.mem_of_getElem? (i := 1) rfl) (by decide)) ml_X5_64 pU_0 rfl dX5_readCommand_88 rfl rfl (by decide) (Nat.le_of_ble_eq_true rfl) (by decide) ?_
            refine aw_iconst_n 1 dX5_readCommand_91 (by decide) ?_
            exact aw_zret rfl rfl (by decide) (by decide) dX5_readCommand_92 (RCo.good (w := 1) (hcmd.trans (wc_p_y e1 d_32 e3)) rfl ((up_ne (by decide)).trans ((up_ne (by decide)).trans ((up_ne (by decide)).trans (up_ne (by decide))))) up_self)
          · have e3 := (rg_m1 (by decide)).mp c_12
            refine aw_iconst_n 0 dX5_readCommand_82 (by decide) ?_
            exact aw_zret rfl rfl (by decide) (by decide) dX5_readCommand_83 (RCo.bad (by rw [hcmd]; exact wc_p_n e1 d_32 e3) ((up_ne (by decide)).trans ((up_ne (by decide)).trans ((up_ne (by decide)).trans (up_ne (by decide))))) ((up_ne (by decide)).trans ((up_ne (by decide)).trans ((up_ne (by decide)).trans (up_ne (by decide))))) up_self)
        · have d_32 : ¬ hN tn tx (rgP tn tx 1 (sp + 5)) = 32 := by simpa using c_10
          rw [if_neg d_32]
          refine aw_iconst_n 0 dX5_readCommand_58 (by decide) ?_
          exact aw_zret rfl rfl (by decide) (by decide) dX5_readCommand_59 (RCo.bad (by rw [hcmd]; exact wc_p_b e1 d_32) ((up_ne (by decide)).trans ((up_ne (by decide)).trans (up_ne (by decide)))) ((up_ne (by decide)).trans ((up_ne (by decide)).trans (up_ne (by decide)))) up_self)
      · have e1 := (rg_m1 (by decide)).mp c_7
        refine aw_iconst_n 0 dX5_readCommand_33 (by decide) ?_
        exact aw_zret rfl rfl (by decide) (by decide) dX5_readCommand_34 (RCo.bad (by rw [hcmd]; exact wc_dig_n (by decide) e1) ((up_ne (by decide)).trans (up_ne (by decide))) ((up_ne (by decide)).trans (up_ne (by decide))) up_self)
    · have hqt : sp + 6 ≤ tn := hqt
      have hcmd : cmdN tn tx sp = wcN tn tx 2 (sp + 6, false) := hcmd
      show AW l G MX5_readCommand 6 360 0 0 _ _ _ _ 4 [(0, .ref o)] [.ref 3] (pU f o (va_up I 6 (nI (sp + 6))) A g) _
      refine aw_astore_n (L' := [(1, .ref 3), (0, .ref o)]) dX5_readCommand_4 rfl (by decide) rfl ?_
      refine aw_aload_n dX5_readCommand_5 rfl rfl ?_
      refine aw_ifnonnull (tgt := 11) dX5_readCommand_6 (by decide) ?_
      refine aw_aload_n dX5_readCommand_11 rfl rfl ?_
      refine aw_oget (v := .int (nI 1)) (List.mem_of_getElem? (i := 10) rfl) (by decide) trivial sl_X5_53 dX5_readCommand_12 ?_
      refine aw_if_eq_n (by omega) (tgt := 26) dX5_readCommand_15 (by decide) (fun c_13 => by exfalso; omega) (fun c_13 => ?_)
      refine aw_aload_n dX5_readCommand_18 rfl rfl ?_
      refine aw_iconst_n 1 dX5_readCommand_19 (by decide) ?_
      refine aw_vI (as := [Value.int (nI 1)]) (rest := []) mV_X5_readDigits (p_rd (hT.mv (I' := va_up I 6 (nI (sp + 6))) (A' := A) (up_ne (by decide)) rfl) (m := 1) (sp := (sp + 6)) (by decide) (by decide) up_self (by omega)) ml_X5_57 pU_0 rfl dX5_readCommand_20 rfl rfl (by decide) (Nat.le_of_ble_eq_true rfl) (by decide) ?_
      have hrg1 : rgP tn tx 1 (sp + 6) ≤ tn := rg_tn (by omega)
      refine aw_goto (tgt := 27) dX5_readCommand_23 (by decide) ?_
      refine aw_istore_n (L' := [(2, .int (rgI tn tx 1 (sp + 6))), (1, .ref 3), (0, .ref o)]) dX5_readCommand_27 rfl (by decide) rfl ?_
      refine aw_iload_n dX5_readCommand_28 rfl rfl ?_
      refine aw_iconst (v := -1) dX5_readCommand_29 (by decide) ?_
      refine aw_icmp_ne (tgt := 35) dX5_readCommand_30 (by decide) (fun c_14 => ?_) (fun c_14 => ?_)
      · have e1 := Classical.not_not.mp (mt (rg_m1 (tn := tn) (tx := tx) (m := 1) (sp := (sp + 6)) (by decide)).mpr c_14)
        have hrb1 : (runN tn tx 1 0 (sp + 6)).1 ≤ 1000 := run_b (by decide)
        rw [rg_y e1]
        refine aw_aload_n dX5_readCommand_35 rfl rfl ?_
        refine aw_oget (v := .int (nI 1)) (List.mem_of_getElem? (i := 10) rfl) (by decide) trivial sl_X5_53 dX5_readCommand_36 ?_
        refine aw_if_eq_n (by omega) (tgt := 60) dX5_readCommand_39 (by decide) (fun c_15 => by exfalso; omega) (fun c_15 => ?_)
        refine aw_aload_n dX5_readCommand_42 rfl rfl ?_
        refine aw_oget (v := .int (nI 0)) (List.mem_of_getElem? (i := 11) rfl) (by decide) trivial sl_X5_61 dX5_readCommand_43 ?_
        refine aw_if_eq_n (by omega) (tgt := 60) dX5_readCommand_46 (by decide) (fun c_16 => ?_) (fun c_16 => by exfalso; omega)
        refine aw_aload_n dX5_readCommand_60 rfl rfl ?_
        refine aw_oget (v := .int (nI 0)) (List.mem_of_getElem? (i := 11) rfl) (by decide) trivial sl_X5_61 dX5_readCommand_61 ?_
        refine aw_if_eq_n (by omega) (tgt := 75) dX5_readCommand_64 (by decide) (fun c_17 => ?_) (fun c_17 => by exfalso; omega)
        refine aw_iconst_n 0 dX5_readCommand_75 (by decide) ?_
        refine aw_istore_n (L' := [(3, .int (nI 0)), (2, .int (nI ((runN tn tx 1 0 (sp + 6)).1))), (1, .ref 3), (0, .ref o)]) dX5_readCommand_76 rfl (by decide) rfl ?_
        refine aw_iload_n dX5_readCommand_77 rfl rfl ?_
        refine aw_iconst (v := -1) dX5_readCommand_78 (by decide) ?_
        refine aw_icmp_ne (tgt := 84) dX5_readCommand_79 (by decide) (fun c_18 => ?_) (fun c_18 => by exfalso; exact nI_m1 (by decide) c_18)
        refine aw_aload_n dX5_readCommand_84 rfl rfl ?_
        refine aw_aload_n dX5_readCommand_85 rfl rfl ?_
        refine aw_iload_n dX5_readCommand_86 rfl rfl ?_
        refine aw_iload_n dX5_readCommand_87 rfl rfl ?_
        refine aw_vV (as := [Value.ref 3, Value.int (nI ((runN tn tx 1 0 (sp + 6)).1)), Value.int (nI 0)]) (rest := []) mV_X5_keepCommand (p_keep (c := c) ((up_ne (by decide)).trans ((up_ne (by decide)).trans (h5))) hc (List.mem_of_getElem? (i := 2) rfl) (by decide)) ml_X5_64 pU_0 rfl dX5_readCommand_88 rfl rfl (by decide) (Nat.le_of_ble_eq_true rfl) (by decide) ?_
        refine aw_iconst_n 1 dX5_readCommand_91 (by decide) ?_
        obtain ⟨ch9, k9, k8⟩ := wc_dig_y (tn := tn) (tx := tx) (q := sp + 6) (w := 2) (by decide) e1
        exact aw_zret rfl rfl (by decide) (by decide) dX5_readCommand_92 (RCo.good (w := 2) (hcmd.trans k9) k8 ((up_ne (by decide)).trans (up_ne (by decide))) up_self)
      · have e1 := (rg_m1 (by decide)).mp c_14
        refine aw_iconst_n 0 dX5_readCommand_33 (by decide) ?_
        exact aw_zret rfl rfl (by decide) (by decide) dX5_readCommand_34 (RCo.bad (by rw [hcmd]; exact wc_dig_n (by decide) e1) ((up_ne (by decide)).trans (up_ne (by decide))) ((up_ne (by decide)).trans (up_ne (by decide))) up_self)
    · have hqt : sp + 9 ≤ tn := hqt
      have hcmd : cmdN tn tx sp = wcN tn tx 3 (sp + 9, false) := hcmd
      show AW l G MX5_readCommand 6 360 0 0 _ _ _ _ 4 [(0, .ref o)] [.ref 4] (pU f o (va_up I 6 (nI (sp + 9))) A g) _
      refine aw_astore_n (L' := [(1, .ref 4), (0, .ref o)]) dX5_readCommand_4 rfl (by decide) rfl ?_
      refine aw_aload_n dX5_readCommand_5 rfl rfl ?_
      refine aw_ifnonnull (tgt := 11) dX5_readCommand_6 (by decide) ?_
      refine aw_aload_n dX5_readCommand_11 rfl rfl ?_
      refine aw_oget (v := .int (nI 0)) (List.mem_of_getElem? (i := 14) rfl) (by decide) trivial sl_X5_53 dX5_readCommand_12 ?_
      refine aw_if_eq_n (by omega) (tgt := 26) dX5_readCommand_15 (by decide) (fun c_19 => ?_) (fun c_19 => by exfalso; omega)
      refine aw_iconst_n 0 dX5_readCommand_26 (by decide) ?_
      refine aw_istore_n (L' := [(2, .int (nI 0)), (1, .ref 4), (0, .ref o)]) dX5_readCommand_27 rfl (by decide) rfl ?_
      refine aw_iload_n dX5_readCommand_28 rfl rfl ?_
      refine aw_iconst (v := -1) dX5_readCommand_29 (by decide) ?_
      refine aw_icmp_ne (tgt := 35) dX5_readCommand_30 (by decide) (fun c_20 => ?_) (fun c_20 => by exfalso; exact nI_m1 (by decide) c_20)
      refine aw_aload_n dX5_readCommand_35 rfl rfl ?_
      refine aw_oget (v := .int (nI 0)) (List.mem_of_getElem? (i := 14) rfl) (by decide) trivial sl_X5_53 dX5_readCommand_36 ?_
      refine aw_if_eq_n (by omega) (tgt := 60) dX5_readCommand_39 (by decide) (fun c_21 => ?_) (fun c_21 => by exfalso; omega)
      refine aw_aload_n dX5_readCommand_60 rfl rfl ?_
      refine aw_oget (v := .int (nI 1)) (List.mem_of_getElem? (i := 15) rfl) (by decide) trivial sl_X5_61 dX5_readCommand_61 ?_
      refine aw_if_eq_n (by omega) (tgt := 75) dX5_readCommand_64 (by decide) (fun c_22 => by exfalso; omega) (fun c_22 => ?_)
      refine aw_aload_n dX5_readCommand_67 rfl rfl ?_
      refine aw_iconst_n 3 dX5_readCommand_68 (by decide) ?_
      refine aw_vI (as := [Value.int (nI 3)]) (rest := []) mV_X5_readDigits (p_rd (hT.mv (I' := va_up I 6 (nI (sp + 9))) (A' := A) (up_ne (by decide)) rfl) (m := 3) (sp := (sp + 9)) (by decide) (by decide) up_self (by omega)) ml_X5_57 pU_0 rfl dX5_readCommand_69 rfl rfl (by decide) (Nat.le_of_ble_eq_true rfl) (by decide) ?_
      have hrg3 : rgP tn tx 3 (sp + 9) ≤ tn := rg_tn (by omega)
      refine aw_goto (tgt := 76) dX5_readCommand_72 (by decide) ?_
      refine aw_istore_n (L' := [(3, .int (rgI tn tx 3 (sp + 9))), (2, .int (nI 0)), (1, .ref 4), (0, .ref o)]) dX5_readCommand_76 rfl (by decide) rfl ?_
      refine aw_iload_n dX5_readCommand_77 rfl rfl ?_
      refine aw_iconst (v := -1) dX5_readCommand_78 (by decide) ?_
      refine aw_icmp_ne (tgt := 84) dX5_readCommand_79 (by decide) (fun c_23 => ?_) (fun c_23 => ?_)
      · have e3 := Classical.not_not.mp (mt (rg_m1 (tn := tn) (tx := tx) (m := 3) (sp := (sp + 9)) (by decide)).mpr c_23)
        have hrb3 : (runN tn tx 3 0 (sp + 9)).1 ≤ 1000 := run_b (by decide)
        rw [rg_y e3]
        refine aw_aload_n dX5_readCommand_84 rfl rfl ?_
        refine aw_aload_n dX5_readCommand_85 rfl rfl ?_
        refine aw_iload_n dX5_readCommand_86 rfl rfl ?_
        refine aw_iload_n dX5_readCommand_87 rfl rfl ?_
        refine aw_vV (as := [Value.ref 4, Value.int (nI 0), Value.int (nI ((runN tn tx 3 0 (sp + 9)).1))]) (rest := []) mV_X5_keepCommand (p_keep (c := c) ((up_ne (by decide)).trans ((up_ne (by decide)).trans (h5))) hc (List.mem_of_getElem? (i := 3) rfl) (by decide)) ml_X5_64 pU_0 rfl dX5_readCommand_88 rfl rfl (by decide) (Nat.le_of_ble_eq_true rfl) (by decide) ?_
        refine aw_iconst_n 1 dX5_readCommand_91 (by decide) ?_
        obtain ⟨ch9, k9, k8⟩ := wc_num_y (tn := tn) (tx := tx) (q := sp + 9) (w := 3) (by decide) e3
        exact aw_zret rfl rfl (by decide) (by decide) dX5_readCommand_92 (RCo.good (w := 3) (hcmd.trans k9) k8 ((up_ne (by decide)).trans (up_ne (by decide))) up_self)
      · have e3 := (rg_m1 (by decide)).mp c_23
        refine aw_iconst_n 0 dX5_readCommand_82 (by decide) ?_
        exact aw_zret rfl rfl (by decide) (by decide) dX5_readCommand_83 (RCo.bad (by rw [hcmd]; exact wc_num_n (by decide) e3) ((up_ne (by decide)).trans (up_ne (by decide))) ((up_ne (by decide)).trans (up_ne (by decide))) up_self)
    · have hqt : sp + 4 ≤ tn := hqt
      have hcmd : cmdN tn tx sp = wcN tn tx 4 (sp + 4, false) := hcmd
      show AW l G MX5_readCommand 6 360 0 0 _ _ _ _ 4 [(0, .ref o)] [.ref 5] (pU f o (va_up I 6 (nI (sp + 4))) A g) _
      refine aw_astore_n (L' := [(1, .ref 5), (0, .ref o)]) dX5_readCommand_4 rfl (by decide) rfl ?_
      refine aw_aload_n dX5_readCommand_5 rfl rfl ?_
      refine aw_ifnonnull (tgt := 11) dX5_readCommand_6 (by decide) ?_
      refine aw_aload_n dX5_readCommand_11 rfl rfl ?_
      refine aw_oget (v := .int (nI 0)) (List.mem_of_getElem? (i := 18) rfl) (by decide) trivial sl_X5_53 dX5_readCommand_12 ?_
      refine aw_if_eq_n (by omega) (tgt := 26) dX5_readCommand_15 (by decide) (fun c_24 => ?_) (fun c_24 => by exfalso; omega)
      refine aw_iconst_n 0 dX5_readCommand_26 (by decide) ?_
      refine aw_istore_n (L' := [(2, .int (nI 0)), (1, .ref 5), (0, .ref o)]) dX5_readCommand_27 rfl (by decide) rfl ?_
      refine aw_iload_n dX5_readCommand_28 rfl rfl ?_
      refine aw_iconst (v := -1) dX5_readCommand_29 (by decide) ?_
      refine aw_icmp_ne (tgt := 35) dX5_readCommand_30 (by decide) (fun c_25 => ?_) (fun c_25 => by exfalso; exact nI_m1 (by decide) c_25)
      refine aw_aload_n dX5_readCommand_35 rfl rfl ?_
      refine aw_oget (v := .int (nI 0)) (List.mem_of_getElem? (i := 18) rfl) (by decide) trivial sl_X5_53 dX5_readCommand_36 ?_
      refine aw_if_eq_n (by omega) (tgt := 60) dX5_readCommand_39 (by decide) (fun c_26 => ?_) (fun c_26 => by exfalso; omega)
      refine aw_aload_n dX5_readCommand_60 rfl rfl ?_
      refine aw_oget (v := .int (nI 1)) (List.mem_of_getElem? (i := 19) rfl) (by decide) trivial sl_X5_61 dX5_readCommand_61 ?_
      refine aw_if_eq_n (by omega) (tgt := 75) dX5_readCommand_64 (by decide) (fun c_27 => by exfalso; omega) (fun c_27 => ?_)
      refine aw_aload_n dX5_readCommand_67 rfl rfl ?_
      refine aw_iconst_n 3 dX5_readCommand_68 (by decide) ?_
      refine aw_vI (as := [Value.int (nI 3)]) (rest := []) mV_X5_readDigits (p_rd (hT.mv (I' := va_up I 6 (nI (sp + 4))) (A' := A) (up_ne (by decide)) rfl) (m := 3) (sp := (sp + 4)) (by decide) (by decide) up_self (by omega)) ml_X5_57 pU_0 rfl dX5_readCommand_69 rfl rfl (by decide) (Nat.le_of_ble_eq_true rfl) (by decide) ?_
      have hrg3 : rgP tn tx 3 (sp + 4) ≤ tn := rg_tn (by omega)
      refine aw_goto (tgt := 76) dX5_readCommand_72 (by decide) ?_
      refine aw_istore_n (L' := [(3, .int (rgI tn tx 3 (sp + 4))), (2, .int (nI 0)), (1, .ref 5), (0, .ref o)]) dX5_readCommand_76 rfl (by decide) rfl ?_
      refine aw_iload_n dX5_readCommand_77 rfl rfl ?_
      refine aw_iconst (v := -1) dX5_readCommand_78 (by decide) ?_
      refine aw_icmp_ne (tgt := 84) dX5_readCommand_79 (by decide) (fun c_28 => ?_) (fun c_28 => ?_)
      · have e3 := Classical.not_not.mp (mt (rg_m1 (tn := tn) (tx := tx) (m := 3) (sp := (sp + 4)) (by decide)).mpr c_28)
        have hrb3 : (runN tn tx 3 0 (sp + 4)).1 ≤ 1000 := run_b (by decide)
        rw [rg_y e3]
        refine aw_aload_n dX5_readCommand_84 rfl rfl ?_
        refine aw_aload_n dX5_readCommand_85 rfl rfl ?_
        refine aw_iload_n dX5_readCommand_86 rfl rfl ?_
        refine aw_iload_n dX5_readCommand_87 rfl rfl ?_
        refine aw_vV (as := [Value.ref 5, Value.int (nI 0), Value.int (nI ((runN tn tx 3 0 (sp + 4)).1))]) (rest := []) mV_X5_keepCommand (p_keep (c := c) ((up_ne (by decide)).trans ((up_ne (by decide)).trans (h5))) hc (List.mem_of_getElem? (i := 4) rfl) (by decide)) ml_X5_64 pU_0 rfl dX5_readCommand_88 rfl rfl (by decide) (Nat.le_of_ble_eq_true rfl) (by decide) ?_
        refine aw_iconst_n 1 dX5_readCommand_91 (by decide) ?_
        obtain ⟨ch9, k9, k8⟩ := wc_num_y (tn := tn) (tx := tx) (q := sp + 4) (w := 4) (by decide) e3
        exact aw_zret rfl rfl (by decide) (by decide) dX5_readCommand_92 (RCo.good (w := 4) (hcmd.trans k9) k8 ((up_ne (by decide)).trans (up_ne (by decide))) up_self)
      · have e3 := (rg_m1 (by decide)).mp c_28
        refine aw_iconst_n 0 dX5_readCommand_82 (by decide) ?_
        exact aw_zret rfl rfl (by decide) (by decide) dX5_readCommand_83 (RCo.bad (by rw [hcmd]; exact wc_num_n (by decide) e3) ((up_ne (by decide)).trans (up_ne (by decide))) ((up_ne (by decide)).trans (up_ne (by decide))) up_self)
    · have hqt : sp + 4 ≤ tn := hqt
      have hcmd : cmdN tn tx sp = wcN tn tx 5 (sp + 4, false) := hcmd
      show AW l G MX5_readCommand 6 360 0 0 _ _ _ _ 4 [(0, .ref o)] [.ref 6] (pU f o (va_up I 6 (nI (sp + 4))) A g) _
      refine aw_astore_n (L' := [(1, .ref 6), (0, .ref o)]) dX5_readCommand_4 rfl (by decide) rfl ?_
      refine aw_aload_n dX5_readCommand_5 rfl rfl ?_
      refine aw_ifnonnull (tgt := 11) dX5_readCommand_6 (by decide) ?_
      refine aw_aload_n dX5_readCommand_11 rfl rfl ?_
      refine aw_oget (v := .int (nI 1)) (List.mem_of_getElem? (i := 22) rfl) (by decide) trivial sl_X5_53 dX5_readCommand_12 ?_
      refine aw_if_eq_n (by omega) (tgt := 26) dX5_readCommand_15 (by decide) (fun c_29 => by exfalso; omega) (fun c_29 => ?_)
      refine aw_aload_n dX5_readCommand_18 rfl rfl ?_
      refine aw_iconst_n 1 dX5_readCommand_19 (by decide) ?_
      refine aw_vI (as := [Value.int (nI 1)]) (rest := []) mV_X5_readDigits (p_rd (hT.mv (I' := va_up I 6 (nI (sp + 4))) (A' := A) (up_ne (by decide)) rfl) (m := 1) (sp := (sp + 4)) (by decide) (by decide) up_self (by omega)) ml_X5_57 pU_0 rfl dX5_readCommand_20 rfl rfl (by decide) (Nat.le_of_ble_eq_true rfl) (by decide) ?_
      have hrg1 : rgP tn tx 1 (sp + 4) ≤ tn := rg_tn (by omega)
      refine aw_goto (tgt := 27) dX5_readCommand_23 (by decide) ?_
      refine aw_istore_n (L' := [(2, .int (rgI tn tx 1 (sp + 4))), (1, .ref 6), (0, .ref o)]) dX5_readCommand_27 rfl (by decide) rfl ?_
      refine aw_iload_n dX5_readCommand_28 rfl rfl ?_
      refine aw_iconst (v := -1) dX5_readCommand_29 (by decide) ?_
      refine aw_icmp_ne (tgt := 35) dX5_readCommand_30 (by decide) (fun c_30 => ?_) (fun c_30 => ?_)
      · have e1 := Classical.not_not.mp (mt (rg_m1 (tn := tn) (tx := tx) (m := 1) (sp := (sp + 4)) (by decide)).mpr c_30)
        have hrb1 : (runN tn tx 1 0 (sp + 4)).1 ≤ 1000 := run_b (by decide)
        rw [rg_y e1]
        refine aw_aload_n dX5_readCommand_35 rfl rfl ?_
        refine aw_oget (v := .int (nI 1)) (List.mem_of_getElem? (i := 22) rfl) (by decide) trivial sl_X5_53 dX5_readCommand_36 ?_
        refine aw_if_eq_n (by omega) (tgt := 60) dX5_readCommand_39 (by decide) (fun c_31 => by exfalso; omega) (fun c_31 => ?_)
        refine aw_aload_n dX5_readCommand_42 rfl rfl ?_
        refine aw_oget (v := .int (nI 0)) (List.mem_of_getElem? (i := 23) rfl) (by decide) trivial sl_X5_61 dX5_readCommand_43 ?_
        refine aw_if_eq_n (by omega) (tgt := 60) dX5_readCommand_46 (by decide) (fun c_32 => ?_) (fun c_32 => by exfalso; omega)
        refine aw_aload_n dX5_readCommand_60 rfl rfl ?_
        refine aw_oget (v := .int (nI 0)) (List.mem_of_getElem? (i := 23) rfl) (by decide) trivial sl_X5_61 dX5_readCommand_61 ?_
        refine aw_if_eq_n (by omega) (tgt := 75) dX5_readCommand_64 (by decide) (fun c_33 => ?_) (fun c_33 => by exfalso; omega)
        refine aw_iconst_n 0 dX5_readCommand_75 (by decide) ?_
        refine aw_istore_n (L' := [(3, .int (nI 0)), (2, .int (nI ((runN tn tx 1 0 (sp + 4)).1))), (1, .ref 6), (0, .ref o)]) dX5_readCommand_76 rfl (by decide) rfl ?_
        refine aw_iload_n dX5_readCommand_77 rfl rfl ?_
        refine aw_iconst (v := -1) dX5_readCommand_78 (by decide) ?_
        refine aw_icmp_ne (tgt := 84) dX5_readCommand_79 (by decide) (fun c_34 => ?_) (fun c_34 => by exfalso; exact nI_m1 (by decide) c_34)
        refine aw_aload_n dX5_readCommand_84 rfl rfl ?_
        refine aw_aload_n dX5_readCommand_85 rfl rfl ?_
        refine aw_iload_n dX5_readCommand_86 rfl rfl ?_
        refine aw_iload_n dX5_readCommand_87 rfl rfl ?_
        refine aw_vV (as := [Value.ref 6, Value.int (nI ((runN tn tx 1 0 (sp + 4)).1)), Value.int (nI 0)]) (rest := []) mV_X5_keepCommand (p_keep (c := c) ((up_ne (by decide)).trans ((up_ne (by decide)).trans (h5))) hc (List.mem_of_getElem? (i := 5) rfl) (by decide)) ml_X5_64 pU_0 rfl dX5_readCommand_88 rfl rfl (by decide) (Nat.le_of_ble_eq_true rfl) (by decide) ?_
        refine aw_iconst_n 1 dX5_readCommand_91 (by decide) ?_
        obtain ⟨ch9, k9, k8⟩ := wc_dig_y (tn := tn) (tx := tx) (q := sp + 4) (w := 5) (by decide) e1
        exact aw_zret rfl rfl (by decide) (by decide) dX5_readCommand_92 (RCo.good (w := 5) (hcmd.trans k9) k8 ((up_ne (by decide)).trans (up_ne (by decide))) up_self)
      · have e1 := (rg_m1 (by decide)).mp c_30
        refine aw_iconst_n 0 dX5_readCommand_33 (by decide) ?_
        exact aw_zret rfl rfl (by decide) (by decide) dX5_readCommand_34 (RCo.bad (by rw [hcmd]; exact wc_dig_n (by decide) e1) ((up_ne (by decide)).trans (up_ne (by decide))) ((up_ne (by decide)).trans (up_ne (by decide))) up_self)
    · have hqt : sp + 5 ≤ tn := hqt
      have hcmd : cmdN tn tx sp = wcN tn tx 6 (sp + 5, false) := hcmd
      show AW l G MX5_readCommand 6 360 0 0 _ _ _ _ 4 [(0, .ref o)] [.ref 7] (pU f o (va_up I 6 (nI (sp + 5))) A g) _
      refine aw_astore_n (L' := [(1, .ref 7), (0, .ref o)]) dX5_readCommand_4 rfl (by decide) rfl ?_
      refine aw_aload_n dX5_readCommand_5 rfl rfl ?_
      refine aw_ifnonnull (tgt := 11) dX5_readCommand_6 (by decide) ?_
      refine aw_aload_n dX5_readCommand_11 rfl rfl ?_
      refine aw_oget (v := .int (nI 0)) (List.mem_of_getElem? (i := 26) rfl) (by decide) trivial sl_X5_53 dX5_readCommand_12 ?_
      refine aw_if_eq_n (by omega) (tgt := 26) dX5_readCommand_15 (by decide) (fun c_35 => ?_) (fun c_35 => by exfalso; omega)
      refine aw_iconst_n 0 dX5_readCommand_26 (by decide) ?_
      refine aw_istore_n (L' := [(2, .int (nI 0)), (1, .ref 7), (0, .ref o)]) dX5_readCommand_27 rfl (by decide) rfl ?_
      refine aw_iload_n dX5_readCommand_28 rfl rfl ?_
      refine aw_iconst (v := -1) dX5_readCommand_29 (by decide) ?_
      refine aw_icmp_ne (tgt := 35) dX5_readCommand_30 (by decide) (fun c_36 => ?_) (fun c_36 => by exfalso; exact nI_m1 (by decide) c_36)
      refine aw_aload_n dX5_readCommand_35 rfl rfl ?_
      refine aw_oget (v := .int (nI 0)) (List.mem_of_getElem? (i := 26) rfl) (by decide) trivial sl_X5_53 dX5_readCommand_36 ?_
      refine aw_if_eq_n (by omega) (tgt := 60) dX5_readCommand_39 (by decide) (fun c_37 => ?_) (fun c_37 => by exfalso; omega)
      refine aw_aload_n dX5_readCommand_60 rfl rfl ?_
      refine aw_oget (v := .int (nI 1)) (List.mem_of_getElem? (i := 27) rfl) (by decide) trivial sl_X5_61 dX5_readCommand_61 ?_
      refine aw_if_eq_n (by omega) (tgt := 75) dX5_readCommand_64 (by decide) (fun c_38 => by exfalso; omega) (fun c_38 => ?_)
      refine aw_aload_n dX5_readCommand_67 rfl rfl ?_
      refine aw_iconst_n 3 dX5_readCommand_68 (by decide) ?_
      refine aw_vI (as := [Value.int (nI 3)]) (rest := []) mV_X5_readDigits (p_rd (hT.mv (I' := va_up I 6 (nI (sp + 5))) (A' := A) (up_ne (by decide)) rfl) (m := 3) (sp := (sp + 5)) (by decide) (by decide) up_self (by omega)) ml_X5_57 pU_0 rfl dX5_readCommand_69 rfl rfl (by decide) (Nat.le_of_ble_eq_true rfl) (by decide) ?_
      have hrg3 : rgP tn tx 3 (sp + 5) ≤ tn := rg_tn (by omega)
      refine aw_goto (tgt := 76) dX5_readCommand_72 (by decide) ?_
      refine aw_istore_n (L' := [(3, .int (rgI tn tx 3 (sp + 5))), (2, .int (nI 0)), (1, .ref 7), (0, .ref o)]) dX5_readCommand_76 rfl (by decide) rfl ?_
      refine aw_iload_n dX5_readCommand_77 rfl rfl ?_
      refine aw_iconst (v := -1) dX5_readCommand_78 (by decide) ?_
      refine aw_icmp_ne (tgt := 84) dX5_readCommand_79 (by decide) (fun c_39 => ?_) (fun c_39 => ?_)
      · have e3 := Classical.not_not.mp (mt (rg_m1 (tn := tn) (tx := tx) (m := 3) (sp := (sp + 5)) (by decide)).mpr c_39)
        have hrb3 : (runN tn tx 3 0 (sp + 5)).1 ≤ 1000 := run_b (by decide)
        rw [rg_y e3]
        refine aw_aload_n dX5_readCommand_84 rfl rfl ?_
        refine aw_aload_n dX5_readCommand_85 rfl rfl ?_
        refine aw_iload_n dX5_readCommand_86 rfl rfl ?_
        refine aw_iload_n dX5_readCommand_87 rfl rfl ?_
        refine aw_vV (as := [Value.ref 7, Value.int (nI 0), Value.int (nI ((runN tn tx 3 0 (sp + 5)).1))]) (rest := []) mV_X5_keepCommand (p_keep (c := c) ((up_ne (by decide)).trans ((up_ne (by decide)).trans (h5))) hc (List.mem_of_getElem? (i := 6) rfl) (by decide)) ml_X5_64 pU_0 rfl dX5_readCommand_88 rfl rfl (by decide) (Nat.le_of_ble_eq_true rfl) (by decide) ?_
        refine aw_iconst_n 1 dX5_readCommand_91 (by decide) ?_
        obtain ⟨ch9, k9, k8⟩ := wc_num_y (tn := tn) (tx := tx) (q := sp + 5) (w := 6) (by decide) e3
        exact aw_zret rfl rfl (by decide) (by decide) dX5_readCommand_92 (RCo.good (w := 6) (hcmd.trans k9) k8 ((up_ne (by decide)).trans (up_ne (by decide))) up_self)
      · have e3 := (rg_m1 (by decide)).mp c_39
        refine aw_iconst_n 0 dX5_readCommand_82 (by decide) ?_
        exact aw_zret rfl rfl (by decide) (by decide) dX5_readCommand_83 (RCo.bad (by rw [hcmd]; exact wc_num_n (by decide) e3) ((up_ne (by decide)).trans (up_ne (by decide))) ((up_ne (by decide)).trans (up_ne (by decide))) up_self)
  · have hcmd := cmd_none hnf
    have hx9 : mxF tn tx sp 7 ≤ 9 := mx_9 7 (by decide)
    cases h2; subst h1; subst h3
    refine aw_astore_nN (L' := [(1, .null), (0, .ref o)]) dX5_readCommand_4 rfl (by decide) rfl ?_
    refine aw_aload_nN dX5_readCommand_5 rfl rfl ?_
    refine aw_ifnonnullN dX5_readCommand_6 ?_
    refine aw_iconst_n 0 dX5_readCommand_9 (by decide) ?_
    exact aw_zret rfl rfl (by decide) (by decide) dX5_readCommand_10 (RCo.bad hcmd (up_ne (by decide)) (up_ne (by decide)) up_self)
