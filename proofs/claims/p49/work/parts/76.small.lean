theorem inB_nI {k a b : Nat} (hk : k < 2 ^ 31) (ha : a < 2 ^ 31) (hb : b < 2 ^ 31) : inB (nI k) (nI a) (nI b) = (decide (a ≤ k) && decide (k ≤ b)) := by
  unfold inB
  rw [decide_eq_decide.mpr (nI_leI ha hk), decide_eq_decide.mpr (nI_leI hk hb)]
abbrev ML_at : MT := (RL, cL_at, 2, some .int, [], "at")
abbrev ML_put : MT := (RL, cL_put, 3, none, [], "put")
abbrev ML_isCard : MT := (RL, cL_isCard, 4, some .boolean, [], "isCard")
abbrev ML_runs : MT := (RL, cL_runs, 2, some .int, tableOf [(0, 4, 5, 98), (0, 4, 8, 100)], "runs")
abbrev ML_fails : MT := (RL, cL_fails, 3, some .boolean, [], "fails")
abbrev ML_state : MT := (RL, cL_state, 3, some .int, [], "state")
/-- the script, 0 behind its end -/
def atX (G : GT) (k : Nat) : Int32 := if k < gN G then gX G k else 0
theorem l_at {l : Launch} {G : GT} {f : HT} {n k : Nat} (hG9 : gN G ≤ 260) (hk : k < 100) : AM l G yL_at (.code yL_at cL_at 2 (some .int)) 0 0 0 0 [.ref 0, .int (nI k)] f n (rI (atX G k) f n) := by
  refine aw_enter (M := ML_at) rfl rfl (by decide +kernel) rfl (Nat.le_of_ble_eq_true rfl) ?_
  show AW l G ML_at 0 0 0 0 _ n 0 0 0 [(0, .ref 0), (1, .int (nI k))] [] _ n
  refine aw_iload_n dL_at_0 rfl rfl ?_
  refine aw_aload_n dL_at_1 rfl rfl ?_
  refine aw_slen dL_at_2 ?_
  refine aw_icmp_ge_n (a := k) (b := gN G) (by omega) (by omega) (tgt := 12) dL_at_3 (by decide) (fun c => ?_) (fun c => ?_)
  · refine aw_iconst_n 0 dL_at_12 (by decide) ?_
    exact aw_iret rfl (by decide) (by decide) dL_at_13 (rI_of (by unfold atX; rw [if_neg (by omega)]; rfl))
  · refine aw_aload_n dL_at_6 rfl rfl ?_
    refine aw_iload_n dL_at_7 rfl rfl ?_
    refine aw_sald (vp_in_nI c (by omega)) dL_at_8 ?_
    rw [nIc (by omega)]
    refine aw_goto (tgt := 13) dL_at_9 (by decide) ?_
    exact aw_iret rfl (by decide) (by decide) dL_at_13 (rI_of (by unfold atX; rw [if_pos c]))
/-- the state with a text of k signs -/
def txS (s : SG) (k : Nat) (T : List Nat) : SG := (s.1, s.2.1, s.2.2.1, (k, fun i => T.getD i 0), s.2.2.2.2)
theorem GW.tx {H : HT} {x bp n : Nat} {s : SG} (h : GW H x bp n s) (h0 : s.2.2.2.1.1 = 0) (T : List Nat) : GW H x bp n (txS s 0 T) := by
  obtain ⟨a0, a1, a2, a3, a4, a5, a6, ⟨I, A, g, a7, a8⟩, a9⟩ := h
  refine ⟨a0, a1, a2, a3, a4, a5, a6, ⟨I, A, g, a7, ?_⟩, a9⟩
  rw [h0] at a8
  exact ⟨a8.1, Nat.zero_le _, fun i hi => absurd hi (Nat.not_lt_zero _), fun i hi => absurd hi (Nat.not_lt_zero _)⟩
def okT (T : List Nat) : Prop := T.length ≤ 60 ∧ ∀ i, i < T.length → 32 ≤ T.getD i 0 ∧ T.getD i 0 ≤ 126
theorem SB.tx {K k : Nat} {s : SG} {T : List Nat} (h : SB K s) (hT : okT T) (hk : k ≤ T.length) : SB K (txS s k T) :=
  ⟨h.1, h.2.1, h.2.2.1, h.2.2.2.1, Nat.le_trans hk hT.1, fun i hi => hT.2 i (Nat.lt_of_lt_of_le hi hk), h.2.2.2.2.2.2⟩
theorem typ_tx {s : SG} {T : List Nat} {k : Nat} (hT : okT T) (hk : k < T.length) : qType (txS s k T) (nI (T.getD k 0)) = (0, k + 1) ∧ typS (txS s k T) (nI (T.getD k 0)) = txS s (k + 1) T := by
  obtain ⟨h1, h2⟩ := hT.2 k hk
  have h60 := hT.1
  have hb : inB (nI (T.getD k 0)) (nI 32) (nI 126) = true := by
    rw [inB_nI (by omega) (by decide) (by decide)]
    simp only [Bool.and_eq_true, decide_eq_true_eq]
    exact ⟨h1, h2⟩
  have e1 : qType (txS s k T) (nI (T.getD k 0)) = (0, k + 1) := by
    unfold qType
    rw [if_pos hb, if_neg (show ¬ (txS s k T).2.2.2.1.1 = 60 from by show ¬ k = 60; omega)]
    rfl
  refine ⟨e1, ?_⟩
  unfold typS
  rw [if_pos (by rw [e1])]
  have e2 : va_up (txS s k T).2.2.2.1.2 (txS s k T).2.2.2.1.1 (nI (T.getD k 0)).toNatClampNeg = fun i => T.getD i 0 := by
    rw [nIc (by omega)]
    funext i
    by_cases z : i = k
    · subst z; exact up_self
    · exact up_ne z
  rw [e2]
  rfl
theorem SA.keep {H f : HT} {n x bp q b : Nat} {T : List Nat} (h : SA H q b T) (hq : OS q b T ∨ (q < n ∧ b < n ∧ (q < x ∨ x + 112 ≤ q) ∧ (b < x ∨ x + 112 ≤ b) ∧ q ≠ bp ∧ b ≠ bp)) (hF : ∀ a, a < n → (a < x ∨ x + 112 ≤ a) → a ≠ bp → f a = H a) : SA f q b T := by
  rcases hq with hq | ⟨h1, h2, h3, h4, h5, h6⟩
  · exact Or.inl hq
  · rcases h with h | h
    · exact Or.inl h
    · exact Or.inr (h.fr (hF q h1 h3 h5) (hF b h2 h4 h6))
set_option maxHeartbeats 4000000 in
theorem put_loop {l : Launch} {G : GT} {n : Nat} {H : HT} {x bp K q b : Nat} {s : SG} {T : List Nat} (hSB : SB K s) (hK : K + 30500 < 16000000) (hT : okT T) (hS : SA H q b T) (hq : OS q b T ∨ (q < n ∧ b < n ∧ (q < x ∨ x + 112 ≤ q) ∧ (b < x ∨ x + 112 ≤ b) ∧ q ≠ bp ∧ b ≠ bp)) :
    ∀ (N k : Nat) (f : HT) (n1 bx nc ns : Nat), T.length - k = N → k ≤ T.length → n ≤ n1 → (bx = bp ∨ n ≤ bx) → GW f x bx n1 (txS s k T) → (∀ a, a < n → (a < x ∨ x + 112 ≤ a) → a ≠ bp → f a = H a) → nc ≤ 4 * k → ns ≤ 24 * k →
      AW l G ML_put 11 660 240 1440 (GA none x bp H n (txS s T.length T)) n nc ns 2 [(2, .int (nI k)), (1, .ref q), (0, .ref x)] [] f n1 := by
  intro N
  induction N using Nat.strongRecOn with
  | ind N ih =>
    intro k f n1 bx nc ns hN hk hn hb hG hF hnc hns
    have h60 := hT.1
    have hS1 := hS.keep hq hF
    refine aw_iload_n dL_put_2 rfl rfl ?_
    refine aw_aload_n dL_put_3 rfl rfl ?_
    refine aw_cI (as := []) (rest := [Value.int (nI k)]) (MV.c mV_J0_length_8abf5) (sa_len hS1) ml_L_7 hS1.rc dL_put_4 rfl rfl (by decide) (Nat.le_of_ble_eq_true rfl) ⟨by omega, by omega⟩ ?_
    refine aw_icmp_ge_n (a := k) (b := T.length) (by omega) (by omega) (tgt := 26) dL_put_7 (by decide) (fun c => ?_) (fun c => ?_)
    · have hkT : k = T.length := by omega
      subst hkT
      exact aw_vret rfl (by omega) (by omega) dL_put_26 ⟨rfl, hn, bx, hb, hG, hF⟩
    · refine aw_aload_n dL_put_10 rfl rfl ?_
      refine aw_aload_n dL_put_11 rfl rfl ?_
      refine aw_iload_n dL_put_12 rfl rfl ?_
      refine aw_cI (as := [Value.int (nI k)]) (rest := [Value.ref x]) (MV.c mV_J0_charAt_5068e) (sa_ch hS1 c) ml_L_13 hS1.rc dL_put_13 rfl rfl (by decide) (Nat.le_of_ble_eq_true rfl) ⟨by omega, by omega⟩ ?_
      have hty := typ_tx (s := s) hT c
      have hA := q_type (l := l) (G := G) hG (hSB.tx hT (Nat.le_of_lt c)) hK (nI (T.getD k 0))
      rw [hty.1, hty.2] at hA
      refine aw_v0 (as := [Value.int (nI (T.getD k 0))]) (rest := []) mV_X10_type rfl (GX.ga rfl hA) hG ml_L_17 dL_put_16 rfl rfl (by decide) (Nat.le_of_ble_eq_true rfl) ⟨by omega, by omega⟩ (fun f2 n2 bx2 hn2 hb2 hG2 hF2 => ?_)
      refine aw_pop dL_put_19 rfl ?_
      refine aw_iinc_n (L' := [(2, .int (nI (k + 1))), (1, .ref q), (0, .ref x)]) 1 dL_put_20 rfl (by decide) (Nat.le_of_ble_eq_true rfl) rfl ?_
      refine aw_goto (tgt := 2) dL_put_23 (by decide) ?_
      exact ih _ (by omega) (k + 1) f2 n2 bx2 _ _ rfl (by omega) (by omega) (by omega) hG2 (fun a z1 z2 z3 => (hF2 a (by omega) z2 (by omega)).trans (hF a z1 z2 z3)) (by omega) (by omega)
theorem l_put {l : Launch} {G : GT} {n : Nat} {H : HT} {x bp K q b : Nat} {s : SG} {T : List Nat} (hW : GW H x bp n s) (hSB : SB K s) (hK : K + 30500 < 16000000) (h0 : s.2.2.2.1.1 = 0) (hT : okT T) (hS : SA H q b T) (hq : OS q b T ∨ (q < n ∧ b < n ∧ (q < x ∨ x + 112 ≤ q) ∧ (b < x ∨ x + 112 ≤ b) ∧ q ≠ bp ∧ b ≠ bp)) : AM l G yL_put (.code yL_put cL_put 3 none) 11 660 240 1440 [.ref x, .ref q] H n (GA none x bp H n (txS s T.length T)) := by
  refine aw_enter (M := ML_put) rfl rfl (by decide +kernel) rfl (Nat.le_of_ble_eq_true rfl) ?_
  show AW l G ML_put 11 660 240 1440 _ n 0 0 0 [(0, .ref x), (1, .ref q)] [] _ n
  refine aw_iconst_n 0 dL_put_0 (by decide) ?_
  refine aw_istore_n (L' := [(2, .int (nI 0)), (0, .ref x), (1, .ref q)]) dL_put_1 rfl (Nat.le_of_ble_eq_true rfl) rfl ?_
  refine aw_sub [(2, .int (nI 0)), (1, .ref q), (0, .ref x)] (by simp) ?_
  exact put_loop hSB hK hT hS hq _ 0 H n bp 0 0 rfl (Nat.zero_le _) (Nat.le_refl _) (Or.inl rfl) (hW.tx h0 T) (fun _ _ _ _ => rfl) (Nat.le_refl _) (Nat.le_refl _)
set_option maxHeartbeats 4000000 in
theorem l_runs {l : Launch} {G : GT} {n : Nat} {H : HT} {x bp K : Nat} {s : SG} (hW : GW H x bp n s) (hSB : SB K s) (hK : K + 30500 < 16000000) : AM l G yL_runs (.codeWith yL_runs cL_runs 2 (some .int) [(0, 4, 5, 98), (0, 4, 8, 100)]) 11 660 4 24 [.ref x] H n (GA (some (.int (acI [-1, -2] (qExe s).1 (nI (qExe s).2.1)))) x bp H n ((qExe s).2.2)) := by
  refine aw_enterW (M := ML_runs) (hh := [(0, 4, 5, 98), (0, 4, 8, 100)]) rfl rfl (by decide +kernel) rfl (Nat.le_of_ble_eq_true rfl) ?_
  show AW l G ML_runs 11 660 4 24 _ n 0 0 0 [(0, .ref x)] [] _ n
  refine aw_aload_n dL_runs_0 rfl rfl ?_
  refine aw_cC (as := []) (rest := []) (MV.c mV_X10_execute) (q_execute (l := l) (G := G) hW hSB hK) ml_L_150 (RC.w hW.1 rfl) dL_runs_1 rfl rfl (by decide) (Nat.le_of_ble_eq_true rfl) (by decide) (fun E f9 n9 hn h => ?_) (fun r f9 n9 hn h => ?_)
  · obtain ⟨hr, h9⟩ := h
    obtain ⟨hc0, hE⟩ := xA_inr hr
    have hcm : (qExe s).1 ≤ 2 := by unfold qExe exT exR; (repeat' split) <;> exact Nat.le_of_ble_eq_true rfl
    rcases (by omega : (qExe s).1 = 1 ∨ (qExe s).1 = 2) with z | z
    · have hE2 : E = eIA := hE.trans (by rw [z]; rfl)
      subst hE2
      refine ax_catch2 (j := 1) (w := 1) ((tableOf [(0, 4, 5, 98), (0, 4, 8, 100)]).take 0) ⟨0, 4, 5, 98⟩ ((tableOf [(0, 4, 5, 98), (0, 4, 8, 100)]).drop 1) rfl (okP (j := 1) (by decide) (by decide)) (by decide) (by decide) cl_L_98 (by simp [lw_nest]) (Or.inl ⟨1, rfl, dL_runs_5, rfl⟩) (by decide) (fun q hq => by simp only [List.mem_cons, List.not_mem_nil, or_false] at hq; rcases hq with rfl <;> exact ⟨Nat.ne_of_beq_eq_false rfl, fun _ => Nat.ne_of_beq_eq_false rfl⟩) ?_
      refine aw_iconst (v := -1) dL_runs_6 (by decide) ?_
      exact aw_iret rfl (by decide) (by decide) dL_runs_7 ⟨by rw [acI, if_neg hc0, z]; rfl, h9⟩
    · have hE2 : E = eIS := hE.trans (by rw [z]; rfl)
      subst hE2
      refine ax_catch2 (j := 1) (w := 1) ((tableOf [(0, 4, 5, 98), (0, 4, 8, 100)]).take 1) ⟨0, 4, 8, 100⟩ ((tableOf [(0, 4, 5, 98), (0, 4, 8, 100)]).drop 2) rfl (okP (j := 2) (by decide) (by decide)) (by decide) (by decide) cl_L_100 (by simp [lw_nest]) (Or.inl ⟨1, rfl, dL_runs_8, rfl⟩) (by decide) (fun q hq => by simp only [List.mem_cons, List.not_mem_nil, or_false] at hq; rcases hq with rfl <;> exact ⟨Nat.ne_of_beq_eq_false rfl, fun _ => Nat.ne_of_beq_eq_false rfl⟩) ?_
      refine aw_bipush (v := -2) dL_runs_9 (by decide) ?_
      exact aw_iret rfl (by decide) (by decide) dL_runs_11 ⟨by rw [acI, if_neg hc0, z]; rfl, h9⟩
  · obtain ⟨hr, h9⟩ := h
    obtain ⟨hc0, hrv⟩ := xA_inl hr
    subst hrv
    exact aw_iret rfl (by decide) (by decide) dL_runs_4 ⟨by rw [acI, if_pos hc0], h9⟩
theorem qE_nI {k : Nat} (h : k < 100) : qE (nI k) = (0, nI k) := by
  have key : ∀ k, k < 100 → ¬ nI k = -1 := by decide +kernel
  unfold qE; rw [if_neg (key k h)]
theorem HQ.i {l : Launch} {G : GT} {y : MethodName} {w : Cond} {fr lo mc ms : Nat} {as : List Value} {H : HT} {n : Nat} {es : List String} {c : Nat} {v : Int32} (hc : c = 0) (h : AM l G y w fr lo mc ms as H n (HQ (xA es c (.int v)) H n)) : AM l G y w fr lo mc ms as H n (rI v H n) :=
  AM.post h fun r f' n' hr => ⟨hr.1.trans (by rw [xA, if_pos hc]), hr.2⟩
set_option maxHeartbeats 4000000 in
theorem l_fails {l : Launch} {G : GT} {n : Nat} {H : HT} {x bp K q b w ps : Nat} {s s2 : SG} {T : List Nat} (hW : GW H x bp n s) (hSB : SB K s) (hK : K + 30500 < 16000000) (h0 : s.2.2.2.1.1 = 0) (hT : okT T) (hS : SA H q b T) (hq : OS q b T ∨ (q < n ∧ b < n ∧ (q < x ∨ x + 112 ≤ q) ∧ (b < x ∨ x + 112 ≤ b) ∧ q ≠ bp ∧ b ≠ bp)) (hx : qExe (txS s T.length T) = (1, w, s2)) (hps : s2.2.2.2.2.1.1 = nI ps) (hp9 : ps < 100) : AM l G yL_fails (.code yL_fails cL_fails 3 (some .boolean)) 12 720 248 1488 [.ref x, .ref q, .int (nI ps)] H n (GA (some (.int (nI 1))) x bp H n s2) := by
  refine aw_enter (M := ML_fails) rfl rfl (by decide +kernel) rfl (Nat.le_of_ble_eq_true rfl) ?_
  show AW l G ML_fails 12 720 248 1488 _ n 0 0 0 [(0, .ref x), (1, .ref q), (2, .int (nI ps))] [] _ n
  refine aw_aload_n dL_fails_0 rfl rfl ?_
  refine aw_aload_n dL_fails_1 rfl rfl ?_
  refine aw_s0 (as := [Value.ref x, Value.ref q]) (rest := []) mS_L_put (l_put (l := l) (G := G) hW hSB hK h0 hT hS hq) ml_L_146 dL_fails_2 rfl rfl (by decide) (Nat.le_of_ble_eq_true rfl) ⟨by omega, by omega⟩ (fun f1 n1 b1 hn1 hb1 hG1 hF1 => ?_)
  refine aw_aload_n dL_fails_5 rfl rfl ?_
  have hS1 := hSB.tx hT (Nat.le_refl _)
  have hA := l_runs (l := l) (G := G) hG1 hS1 hK
  rw [hx] at hA
  refine aw_x0 (as := [Value.ref x]) (rest := []) mW_L_runs hA ml_L_158 dL_fails_6 rfl rfl (by decide) (Nat.le_of_ble_eq_true rfl) ⟨by omega, by omega⟩ (fun f2 n2 b2 hn2 hb2 hG2 hF2 => ?_)
  have hS2 : SB (K + 30500) s2 := by
    have h9 := hS1.exe hK
    rw [hx] at h9
    exact h9
  refine aw_iconst (v := -1) dL_fails_9 (by decide) ?_
  refine aw_icmp_ne (tgt := 25) dL_fails_10 (by decide) (fun c => by exfalso; exact c rfl) (fun c => ?_)
  refine aw_aload_n dL_fails_13 rfl rfl ?_
  obtain ⟨g0, ⟨J, B, hst, hSV⟩, -⟩ := id hG2
  have hE := HQ.i (by rw [hps, qE_nI hp9]) (g_errorPosition (l := l) (G := G) (n := n2) g0 hst hSV hS2.1)
  rw [hps, qE_nI hp9] at hE
  refine aw_cI (as := []) (rest := []) (MV.c mV_X10_errorPosition) hE ml_L_260 (RC.w g0 rfl) dL_fails_14 rfl rfl (by decide) (Nat.le_of_ble_eq_true rfl) ⟨by omega, by omega⟩ ?_
  refine aw_iload_n dL_fails_17 rfl rfl ?_
  refine aw_icmp_ne (tgt := 25) dL_fails_18 (by decide) (fun c => by exfalso; exact c rfl) (fun c => ?_)
  refine aw_iconst_n 1 dL_fails_21 (by decide) ?_
  refine aw_goto (tgt := 26) dL_fails_22 (by decide) ?_
  exact aw_zret rfl rfl (by omega) (by omega) dL_fails_26 (GA.after hn1 hb1 hF1 ⟨rfl, hn2, b2, hb2, hG2, hF2⟩)
set_option maxHeartbeats 4000000 in
theorem card_loop {l : Launch} {G : GT} {n : Nat} {H : HT} {x bp K q b : Nat} {s : SG} {T : List Nat} (hW : GW H x bp n s) (hSB : SB K s) (hc : s.2.2.2.2.2.1 = T.length) (hx : ∀ i, i < T.length → s.2.2.2.2.2.2 i = T.getD i 0) (hS : SA H q b T) (h60 : T.length ≤ 60) : ∀ (N k nc ns : Nat), T.length - k = N → k ≤ T.length → nc ≤ 4 * k → ns ≤ 24 * k →
      AW l G ML_isCard 11 660 240 1440 (rI (nI 1) H n) n nc ns 12 [(3, .int (nI k)), (2, .ref q), (1, .int (nI T.length)), (0, .ref x)] [] H n := by
  obtain ⟨a0, ⟨J, B, hst, hSV⟩, -, -, -, -, -, -, ⟨Lc, hcd, hcl, hcx⟩, -⟩ := id hW
  intro N
  induction N using Nat.strongRecOn with
  | ind N ih =>
    intro k nc ns hN hk hnc hns
    refine aw_iload_n dL_isCard_12 rfl rfl ?_
    refine aw_iload_n dL_isCard_13 rfl rfl ?_
    refine aw_icmp_ge_n (a := k) (b := T.length) (by omega) (by omega) (tgt := 38) dL_isCard_14 (by decide) (fun c => ?_) (fun c => ?_)
    · refine aw_iconst_n 1 dL_isCard_38 (by decide) ?_
      exact aw_zret rfl rfl (by omega) (by omega) dL_isCard_39 ⟨rfl, rfl, rfl⟩
    · refine aw_aload_n dL_isCard_17 rfl rfl ?_
      refine aw_iload_n dL_isCard_18 rfl rfl ?_
      have hA := g_cardAt (l := l) (G := G) (n := n) a0 hst hSV hSB.1 hcd (nI k)
      rw [if_pos (show isK (nI k) Lc.length = true from by rw [isK_nI (by omega), hcl, hc]; exact decide_eq_true c), nIc (by omega), hcx k (by omega), hx k c] at hA
      refine aw_cI (as := [Value.int (nI k)]) (rest := []) (MV.c mV_X10_cardAt) (HQ.i rfl hA) ml_L_257 (RC.w a0 rfl) dL_isCard_19 rfl rfl (by decide) (Nat.le_of_ble_eq_true rfl) ⟨by omega, by omega⟩ ?_
      refine aw_aload_n dL_isCard_22 rfl rfl ?_
      refine aw_iload_n dL_isCard_23 rfl rfl ?_
      refine aw_cI (as := [Value.int (nI k)]) (rest := [Value.int (nI (T.getD k 0))]) (MV.c mV_J0_charAt_5068e) (sa_ch hS c) ml_L_13 hS.rc dL_isCard_24 rfl rfl (by decide) (Nat.le_of_ble_eq_true rfl) ⟨by omega, by omega⟩ ?_
      refine aw_icmp_eq (tgt := 32) dL_isCard_27 (by decide) (fun _ => ?_) (fun c9 => by exfalso; exact c9 rfl)
      refine aw_iinc_n (L' := [(3, .int (nI (k + 1))), (2, .ref q), (1, .int (nI T.length)), (0, .ref x)]) 1 dL_isCard_32 rfl (by decide) (Nat.le_of_ble_eq_true rfl) rfl ?_
      refine aw_goto (tgt := 12) dL_isCard_35 (by decide) ?_
      exact ih _ (by omega) (k + 1) _ _ rfl (by omega) (by omega) (by omega)
theorem l_isCard {l : Launch} {G : GT} {n : Nat} {H : HT} {x bp K q b : Nat} {s : SG} {T : List Nat} (hW : GW H x bp n s) (hSB : SB K s) (hc : s.2.2.2.2.2.1 = T.length) (hx : ∀ i, i < T.length → s.2.2.2.2.2.2 i = T.getD i 0) (hS : SA H q b T) (h60 : T.length ≤ 60) : AM l G yL_isCard (.code yL_isCard cL_isCard 4 (some .boolean)) 11 660 240 1440 [.ref x, .int (nI T.length), .ref q] H n (rI (nI 1) H n) := by
  refine aw_enter (M := ML_isCard) rfl rfl (by decide +kernel) rfl (Nat.le_of_ble_eq_true rfl) ?_
  show AW l G ML_isCard 11 660 240 1440 _ n 0 0 0 [(0, .ref x), (1, .int (nI T.length)), (2, .ref q)] [] _ n
  refine aw_iload_n dL_isCard_0 rfl rfl ?_
  refine aw_aload_n dL_isCard_1 rfl rfl ?_
  refine aw_cI (as := []) (rest := [Value.int (nI T.length)]) (MV.c mV_J0_length_8abf5) (sa_len hS) ml_L_7 hS.rc dL_isCard_2 rfl rfl (by decide) (Nat.le_of_ble_eq_true rfl) (by decide) ?_
  refine aw_icmp_eq (tgt := 10) dL_isCard_5 (by decide) (fun _ => ?_) (fun c9 => by exfalso; exact c9 rfl)
  refine aw_iconst_n 0 dL_isCard_10 (by decide) ?_
  refine aw_istore_n (L' := [(3, .int (nI 0)), (0, .ref x), (1, .int (nI T.length)), (2, .ref q)]) dL_isCard_11 rfl (Nat.le_of_ble_eq_true rfl) rfl ?_
  refine aw_sub [(3, .int (nI 0)), (2, .ref q), (1, .int (nI T.length)), (0, .ref x)] (by simp) ?_
  exact card_loop hW hSB hc hx hS h60 _ 0 _ _ rfl (Nat.zero_le _) (Nat.le_refl _) (Nat.le_refl _)
