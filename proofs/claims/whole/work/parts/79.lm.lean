theorem law_sw {l : Launch} {G : GT} {n0 t : Nat} {hh : List ExceptionTableEntry} {nm : String} (hG9 : gN G ≤ 1536) (ht : 3 * t + 2 < gN G) (ht9 : t < 512) (hgo : LGo l G n0 t hh nm) {f : HT} {bp n : Nat} {s : SG} {nc ns : Nat} (hI : LI f bp n s) (hSB : SB (30500 * t) s) (hnc : nc ≤ 200 + 12 * t) (hns : ns ≤ 3000 + 360 * t) (y : Int32) : AW l G (ML hh nm) 2048 94400 603072 7207018 LPo n0 nc ns 44 [(5, .int (nI (3 * t))), (4, .ref 154), (3, .ref 153), (2, .ref 144), (1, .ref 31), (0, .ref 0)] [.int y] f n := by
  rcases Classical.em (isK y 46 = true) with c | c
  · obtain ⟨k, hk, rfl⟩ := isK_of (by decide) c
    rcases (by omega : k = 0 ∨ k = 1 ∨ k = 2 ∨ k = 3 ∨ k = 4 ∨ k = 5 ∨ k = 6 ∨ k = 7 ∨ k = 8 ∨ k = 9 ∨ k = 10 ∨ k = 11 ∨ k = 12 ∨ k = 13 ∨ k = 14 ∨ k = 15 ∨ k = 16 ∨ k = 17 ∨ k = 18 ∨ k = 19 ∨ k = 20 ∨ k = 21 ∨ k = 22 ∨ k = 23 ∨ k = 24 ∨ k = 25 ∨ k = 26 ∨ k = 27 ∨ k = 28 ∨ k = 29 ∨ k = 30 ∨ k = 31 ∨ k = 32 ∨ k = 33 ∨ k = 34 ∨ k = 35 ∨ k = 36 ∨ k = 37 ∨ k = 38 ∨ k = 39 ∨ k = 40 ∨ k = 41 ∨ k = 42 ∨ k = 43 ∨ k = 44 ∨ k = 45) with rfl | rfl | rfl | rfl | rfl | rfl | rfl | rfl | rfl | rfl | rfl | rfl | rfl | rfl | rfl | rfl | rfl | rfl | rfl | rfl | rfl | rfl | rfl | rfl | rfl | rfl | rfl | rfl | rfl | rfl | rfl | rfl | rfl | rfl | rfl | rfl | rfl | rfl | rfl | rfl | rfl | rfl | rfl | rfl | rfl | rfl
    · exact aw_tableIn (tgt := 244) dL_law_44 (by decide) (by decide) rfl (by decide) (lc_0 hG9 ht ht9 hgo f bp n s nc ns hI hSB hnc hns)
    · exact aw_tableIn (tgt := 300) dL_law_44 (by decide) (by decide) rfl (by decide) (lc_1 hG9 ht ht9 hgo f bp n s nc ns hI hSB hnc hns)
    · exact aw_tableIn (tgt := 368) dL_law_44 (by decide) (by decide) rfl (by decide) (lc_2 hG9 ht ht9 hgo f bp n s nc ns hI hSB hnc hns)
    · exact aw_tableIn (tgt := 424) dL_law_44 (by decide) (by decide) rfl (by decide) (lc_3 hG9 ht ht9 hgo f bp n s nc ns hI hSB hnc hns)
    · exact aw_tableIn (tgt := 480) dL_law_44 (by decide) (by decide) rfl (by decide) (lc_4 hG9 ht ht9 hgo f bp n s nc ns hI hSB hnc hns)
    · exact aw_tableIn (tgt := 536) dL_law_44 (by decide) (by decide) rfl (by decide) (lc_5 hG9 ht ht9 hgo f bp n s nc ns hI hSB hnc hns)
    · exact aw_tableIn (tgt := 549) dL_law_44 (by decide) (by decide) rfl (by decide) (lc_6 hG9 ht ht9 hgo f bp n s nc ns hI hSB hnc hns)
    · exact aw_tableIn (tgt := 605) dL_law_44 (by decide) (by decide) rfl (by decide) (lc_7 hG9 ht ht9 hgo f bp n s nc ns hI hSB hnc hns)
    · exact aw_tableIn (tgt := 661) dL_law_44 (by decide) (by decide) rfl (by decide) (lc_8 hG9 ht ht9 hgo f bp n s nc ns hI hSB hnc hns)
    · exact aw_tableIn (tgt := 717) dL_law_44 (by decide) (by decide) rfl (by decide) (lc_9 hG9 ht ht9 hgo f bp n s nc ns hI hSB hnc hns)
    · exact aw_tableIn (tgt := 773) dL_law_44 (by decide) (by decide) rfl (by decide) (lc_10 hG9 ht ht9 hgo f bp n s nc ns hI hSB hnc hns)
    · exact aw_tableIn (tgt := 829) dL_law_44 (by decide) (by decide) rfl (by decide) (lc_11 hG9 ht ht9 hgo f bp n s nc ns hI hSB hnc hns)
    · exact aw_tableIn (tgt := 885) dL_law_44 (by decide) (by decide) rfl (by decide) (lc_12 hG9 ht ht9 hgo f bp n s nc ns hI hSB hnc hns)
    · exact aw_tableIn (tgt := 941) dL_law_44 (by decide) (by decide) rfl (by decide) (lc_13 hG9 ht ht9 hgo f bp n s nc ns hI hSB hnc hns)
    · exact aw_tableIn (tgt := 954) dL_law_44 (by decide) (by decide) rfl (by decide) (lc_14 hG9 ht ht9 hgo f bp n s nc ns hI hSB hnc hns)
    · exact aw_tableIn (tgt := 967) dL_law_44 (by decide) (by decide) rfl (by decide) (lc_15 hG9 ht ht9 hgo f bp n s nc ns hI hSB hnc hns)
    · exact aw_tableIn (tgt := 1023) dL_law_44 (by decide) (by decide) rfl (by decide) (lc_16 hG9 ht ht9 hgo f bp n s nc ns hI hSB hnc hns)
    · exact aw_tableIn (tgt := 1079) dL_law_44 (by decide) (by decide) rfl (by decide) (lc_17 hG9 ht ht9 hgo f bp n s nc ns hI hSB hnc hns)
    · exact aw_tableIn (tgt := 1135) dL_law_44 (by decide) (by decide) rfl (by decide) (lc_18 hG9 ht ht9 hgo f bp n s nc ns hI hSB hnc hns)
    · exact aw_tableIn (tgt := 1191) dL_law_44 (by decide) (by decide) rfl (by decide) (lc_19 hG9 ht ht9 hgo f bp n s nc ns hI hSB hnc hns)
    · exact aw_tableIn (tgt := 1247) dL_law_44 (by decide) (by decide) rfl (by decide) (lc_20 hG9 ht ht9 hgo f bp n s nc ns hI hSB hnc hns)
    · exact aw_tableIn (tgt := 1303) dL_law_44 (by decide) (by decide) rfl (by decide) (lc_21 hG9 ht ht9 hgo f bp n s nc ns hI hSB hnc hns)
    · exact aw_tableIn (tgt := 1371) dL_law_44 (by decide) (by decide) rfl (by decide) (lc_22 hG9 ht ht9 hgo f bp n s nc ns hI hSB hnc hns)
    · exact aw_tableIn (tgt := 1439) dL_law_44 (by decide) (by decide) rfl (by decide) (lc_23 hG9 ht ht9 hgo f bp n s nc ns hI hSB hnc hns)
    · exact aw_tableIn (tgt := 1507) dL_law_44 (by decide) (by decide) rfl (by decide) (lc_24 hG9 ht ht9 hgo f bp n s nc ns hI hSB hnc hns)
    · exact aw_tableIn (tgt := 1520) dL_law_44 (by decide) (by decide) rfl (by decide) (lc_25 hG9 ht ht9 hgo f bp n s nc ns hI hSB hnc hns)
    · exact aw_tableIn (tgt := 1588) dL_law_44 (by decide) (by decide) rfl (by decide) (lc_26 hG9 ht ht9 hgo f bp n s nc ns hI hSB hnc hns)
    · exact aw_tableIn (tgt := 1644) dL_law_44 (by decide) (by decide) rfl (by decide) (lc_27 hG9 ht ht9 hgo f bp n s nc ns hI hSB hnc hns)
    · exact aw_tableIn (tgt := 1700) dL_law_44 (by decide) (by decide) rfl (by decide) (lc_28 hG9 ht ht9 hgo f bp n s nc ns hI hSB hnc hns)
    · exact aw_tableIn (tgt := 1713) dL_law_44 (by decide) (by decide) rfl (by decide) (lc_29 hG9 ht ht9 hgo f bp n s nc ns hI hSB hnc hns)
    · exact aw_tableIn (tgt := 1769) dL_law_44 (by decide) (by decide) rfl (by decide) (lc_30 hG9 ht ht9 hgo f bp n s nc ns hI hSB hnc hns)
    · exact aw_tableIn (tgt := 1813) dL_law_44 (by decide) (by decide) rfl (by decide) (lc_31 hG9 ht ht9 hgo f bp n s nc ns hI hSB hnc hns)
    · exact aw_tableIn (tgt := 1857) dL_law_44 (by decide) (by decide) rfl (by decide) (lc_32 hG9 ht ht9 hgo f bp n s nc ns hI hSB hnc hns)
    · exact aw_tableIn (tgt := 1913) dL_law_44 (by decide) (by decide) rfl (by decide) (lc_33 hG9 ht ht9 hgo f bp n s nc ns hI hSB hnc hns)
    · exact aw_tableIn (tgt := 1969) dL_law_44 (by decide) (by decide) rfl (by decide) (lc_34 hG9 ht ht9 hgo f bp n s nc ns hI hSB hnc hns)
    · exact aw_tableIn (tgt := 2025) dL_law_44 (by decide) (by decide) rfl (by decide) (lc_35 hG9 ht ht9 hgo f bp n s nc ns hI hSB hnc hns)
    · exact aw_tableIn (tgt := 2081) dL_law_44 (by decide) (by decide) rfl (by decide) (lc_36 hG9 ht ht9 hgo f bp n s nc ns hI hSB hnc hns)
    · exact aw_tableIn (tgt := 2146) dL_law_44 (by decide) (by decide) rfl (by decide) (lc_37 hG9 ht ht9 hgo f bp n s nc ns hI hSB hnc hns)
    · exact aw_tableIn (tgt := 2202) dL_law_44 (by decide) (by decide) rfl (by decide) (lc_38 hG9 ht ht9 hgo f bp n s nc ns hI hSB hnc hns)
    · exact aw_tableIn (tgt := 2258) dL_law_44 (by decide) (by decide) rfl (by decide) (lc_39 hG9 ht ht9 hgo f bp n s nc ns hI hSB hnc hns)
    · exact aw_tableIn (tgt := 2316) dL_law_44 (by decide) (by decide) rfl (by decide) (lc_40 hG9 ht ht9 hgo f bp n s nc ns hI hSB hnc hns)
    · exact aw_tableIn (tgt := 2360) dL_law_44 (by decide) (by decide) rfl (by decide) (lc_41 hG9 ht ht9 hgo f bp n s nc ns hI hSB hnc hns)
    · exact aw_tableIn (tgt := 2404) dL_law_44 (by decide) (by decide) rfl (by decide) (lc_42 hG9 ht ht9 hgo f bp n s nc ns hI hSB hnc hns)
    · exact aw_tableIn (tgt := 2448) dL_law_44 (by decide) (by decide) rfl (by decide) (lc_43 hG9 ht ht9 hgo f bp n s nc ns hI hSB hnc hns)
    · exact aw_tableIn (tgt := 2492) dL_law_44 (by decide) (by decide) rfl (by decide) (lc_44 hG9 ht ht9 hgo f bp n s nc ns hI hSB hnc hns)
    · exact aw_tableIn (tgt := 2505) dL_law_44 (by decide) (by decide) rfl (by decide) (lc_45 hG9 ht ht9 hgo f bp n s nc ns hI hSB hnc hns)
  · refine aw_tableOut (tgt := 2549) dL_law_44 ?_ (by decide) (hgo f bp n s nc ns hI (hSB.mono (by omega) (by omega)) (by omega) (by omega))
    apply Classical.byContradiction
    intro z
    exact c (decide_eq_true (by omega))
theorem law_loop {l : Launch} {G : GT} {n0 : Nat} {hh : List ExceptionTableEntry} {nm : String} (hG9 : gN G ≤ 1536) : ∀ (N t : Nat), gN G + 3 - 3 * t = N → 3 * t ≤ gN G + 2 → LCase l G n0 t hh nm 28 := by
  intro N
  induction N using Nat.strongRecOn with
  | ind N ih =>
    intro t hN ht f bp n s nc ns hI hSB hnc hns
    refine aw_iload dL_law_28 rfl ?_
    refine aw_aload_n dL_law_30 rfl rfl ?_
    refine aw_slen dL_law_31 ?_
    refine aw_iconst_n 3 dL_law_32 (by decide) ?_
    refine aw_isub dL_law_33 ?_
    have e : (Int32.ofNat (gN G) - nI 3).toInt = (gN G : Int) - 3 := pk_sub_toInt (a := gN G) (b := 3) (by omega) (by decide)
    refine aw_icmp_gt (tgt := 2555) dL_law_34 (by decide) (fun c => ?_) (fun c => ?_)
    · refine aw_iconst_n 1 dL_law_2555 (by decide) ?_
      exact aw_zret rfl rfl (by omega) (by omega) dL_law_2556 rfl
    · have hlt : 3 * t + 2 < gN G := by
        rw [Int32.lt_iff_toInt_lt, e, nI_toInt (by omega)] at c
        omega
      refine aw_aload_n dL_law_37 rfl rfl ?_
      refine aw_iload dL_law_38 rfl ?_
      refine aw_sald (sc_in (by omega) hG9) dL_law_40 ?_
      refine aw_bipush_n 63 dL_law_41 (by decide) ?_
      refine aw_iand dL_law_43 ?_
      refine law_sw hG9 hlt (by omega) (fun f' bp' n' s' nc' ns' hI' hSB' hnc' hns' => ?_) hI hSB hnc hns _
      refine aw_iinc_n (L' := [(5, .int (nI (3 * t + 3))), (4, .ref 154), (3, .ref 153), (2, .ref 144), (1, .ref 31), (0, .ref 0)]) 3 dL_law_2549 rfl (by decide) (Nat.le_of_ble_eq_true rfl) rfl ?_
      refine aw_goto (tgt := 28) dL_law_2552 (by decide) ?_
      exact ih _ (by omega) (t + 1) rfl (by omega) f' bp' n' s' nc' ns' hI' hSB' hnc' hns'
theorem m_initH {l : Launch} {G : GT} {H : HT} {o : Nat} (h0 : H o = .inr (7, [.null, .null, .null, .int 0, .null, .int 0, .null, .int 0, .int 0, .int 0, .null, .int 0, .int 0, .null, .int 0, .int 0, .null])) : AM l G yX11_init (.code yX11_init cX11_init 1 none) 1 60 8 1084 [.ref o] H (o + 1) (rV (mU H o I00 A00) (o + 9)) := by
  have h := m_init (l := l) (G := G) (g := H) (o := o) (C0 := fun j => H (o + j)) h0
  rw [rU_self (fun _ _ => rfl)] at h
  exact AM.post h fun r f' n' hr => ⟨hr.1, hr.2.2, hr.2.1⟩
theorem law_AW {l : Launch} {G : GT} {hh : List ExceptionTableEntry} {nm : String} (hG9 : gN G ≤ 1536) (f : HT) : AW l G (ML hh nm) 2048 94400 603072 7207018 LPo 31 0 0 0 [(0, .ref 0)] [] f 31 := by
  refine aw_new fn_L_8 (zv_all rfl) (by decide) (Nat.le_of_ble_eq_true rfl) dL_law_0 ?_
  refine aw_dup dL_law_3 rfl ?_
  refine aw_iP (as := []) (rest := [.ref 31]) mI_X10_init (g_init (x := 31) (by decide) up_self) ml_L_145 dL_law_4 rfl rfl (by decide) (Nat.le_of_ble_eq_true rfl) ⟨Nat.le_of_ble_eq_true rfl, Nat.le_of_ble_eq_true rfl⟩ (fun _ _ _ h => by cases h.1) (fun r1 f1 n1 _ h => ?_)
  obtain ⟨g1, g2, hG, -⟩ := h
  cases g1; subst g2
  refine aw_astore_n (L' := [(1, .ref 31), (0, .ref 0)]) dL_law_7 rfl (Nat.le_of_ble_eq_true rfl) rfl ?_
  refine aw_new fn_L_146 (zv_all rfl) (Nat.le_of_ble_eq_true rfl) (Nat.le_of_ble_eq_true rfl) dL_law_8 ?_
  refine aw_dup dL_law_11 rfl ?_
  refine aw_iV (as := []) (rest := [.ref 144]) mI_X11_init (m_initH (o := 144) up_self) ml_L_148 dL_law_12 rfl rfl (by decide) (Nat.le_of_ble_eq_true rfl) ⟨Nat.le_of_ble_eq_true rfl, Nat.le_of_ble_eq_true rfl⟩ ?_
  refine aw_astore_n (L' := [(2, .ref 144), (1, .ref 31), (0, .ref 0)]) dL_law_15 rfl (Nat.le_of_ble_eq_true rfl) rfl ?_
  refine aw_iconst_n 1 dL_law_16 (by decide) ?_
  refine aw_newa_long (N := 1) (by decide) (nIc (by decide)) (by decide) (Nat.le_of_ble_eq_true rfl) (Nat.le_of_ble_eq_true rfl) dL_law_17 ?_
  refine aw_astore_n (L' := [(3, .ref 153), (2, .ref 144), (1, .ref 31), (0, .ref 0)]) dL_law_19 rfl (Nat.le_of_ble_eq_true rfl) rfl ?_
  refine aw_iconst_n 1 dL_law_20 (by decide) ?_
  refine aw_newa_double (N := 1) (by decide) (nIc (by decide)) (by decide) (Nat.le_of_ble_eq_true rfl) (Nat.le_of_ble_eq_true rfl) dL_law_21 ?_
  refine aw_astore (L' := [(4, .ref 154), (3, .ref 153), (2, .ref 144), (1, .ref 31), (0, .ref 0)]) dL_law_23 (Nat.le_of_ble_eq_true rfl) rfl ?_
  refine aw_iconst_n 0 dL_law_25 (by decide) ?_
  refine aw_istore (L' := [(5, .int (nI (3 * 0))), (4, .ref 154), (3, .ref 153), (2, .ref 144), (1, .ref 31), (0, .ref 0)]) dL_law_26 (Nat.le_of_ble_eq_true rfl) rfl ?_
  refine law_loop hG9 _ 0 rfl (Nat.zero_le _) _ 143 155 sg0 _ _ ?_ SB_0 (Nat.le_of_ble_eq_true rfl) (Nat.le_of_ble_eq_true rfl)
  have e : ∀ (c1 c2 c3 : va_E) a, a < 144 → va_up (va_up (mU (va_up f1 144 c1) 144 I00 A00) 153 c2) 154 c3 a = f1 a := fun c1 c2 c3 a h => (up_ne (by omega)).trans ((up_ne (by omega)).trans ((rU_out (by omega)).trans (up_ne (by omega))))
  exact ⟨hG.fr (fun a h1 h2 => e _ _ _ a (by omega)) (e _ _ _ _ (by decide)) (by decide), ⟨I00, A00, mAt.new.fr (fun a h1 h2 => (up_ne (by omega)).trans (up_ne (by omega))), MR_0⟩, ⟨_, (up_ne (by decide)).trans up_self⟩, ⟨_, up_self⟩, by decide, Or.inl rfl⟩
