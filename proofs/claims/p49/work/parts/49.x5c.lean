def rdOK (tn : Nat) (tx : Nat → Nat) : Bool := !((rdN tn tx 61 0).2.2 || decide ((rdN tn tx 61 0).2.1 < tn))
def RDo (f : HT) (o : Nat) (A : Nat → Nat → Int32) (tn : Nat) (tx : Nat → Nat) (n : Nat) : PT := fun r f' n' => n' = n ∧ ∃ (I' : Nat → Int32) (A' : Nat → Nat → Int32) (g' : Nat → Option Nat), f' = pU f o I' A' g' ∧ I' 4 = nI tn ∧ I' 6 = nI (rdN tn tx 61 0).2.1 ∧ A' 0 = A 0 ∧ r = .inl (some (.int (bI (rdOK tn tx)))) ∧ (rdOK tn tx = true → I' 5 = nI (rdN tn tx 61 0).1.length ∧ (rdN tn tx 61 0).1.length ≤ 60 ∧ ∀ i, i < (rdN tn tx 61 0).1.length → CE A' g' i ((rdN tn tx 61 0).1.getD i (0, 0, 0)))
theorem RDo.bad {f : HT} {o tn n q : Nat} {tx : Nat → Nat} {e : Bool} {I' : Nat → Int32} {A A' : Nat → Nat → Int32} {g' : Nat → Option Nat} (h : (rdN tn tx 61 0).2 = (q, e)) (hb : e = true ∨ q < tn) (h4 : I' 4 = nI tn) (h6 : I' 6 = nI q) (h0 : A' 0 = A 0) : RDo f o A tn tx n (.inl (some (.int (nI 0)))) (pU f o I' A' g') n := by
  have e1 : rdOK tn tx = false := by
    unfold rdOK
    rw [h]
    rcases hb with z | z
    · rw [z]; rfl
    · show (!(e || decide (q < tn))) = false
      rw [decide_eq_true z, Bool.or_true]; rfl
  exact ⟨rfl, I', A', g', rfl, h4, by rw [h]; exact h6, h0, by rw [e1]; rfl, fun z => by rw [e1] at z; cases z⟩
theorem RDo.good {f : HT} {o tn n q : Nat} {tx : Nat → Nat} {D : List (Nat × Nat × Nat)} {I' : Nat → Int32} {A A' : Nat → Nat → Int32} {g' : Nat → Option Nat} (h : rdN tn tx 61 0 = (D, (q, false))) (hq : ¬ q < tn) (h4 : I' 4 = nI tn) (h6 : I' 6 = nI q) (h0 : A' 0 = A 0) (h5 : I' 5 = nI D.length) (hl : D.length ≤ 60) (hE : ∀ k, k < D.length → CE A' g' k (D.getD k (0, 0, 0))) : RDo f o A tn tx n (.inl (some (.int (nI 1)))) (pU f o I' A' g') n := by
  have e1 : rdOK tn tx = true := by
    unfold rdOK
    rw [h]
    show (!(false || decide (q < tn))) = true
    rw [decide_eq_false hq]; rfl
  exact ⟨rfl, I', A', g', rfl, h4, by rw [h]; exact h6, h0, by rw [e1]; rfl, fun _ => by rw [h]; exact ⟨h5, hl, hE⟩⟩
abbrev MX5_read : MT := (RX5, cX5_read, 2, (some .boolean), [], "read")
set_option maxHeartbeats 4000000 in
theorem p_read_loop {l : Launch} {G : GT} {n : Nat} {f : HT} {o : Nat} {A0 : Nat → Nat → Int32} {tn : Nat} {tx : Nat → Nat} : ∀ (N : Nat) (i sp : Nat) (D : List (Nat × Nat × Nat)) (I : Nat → Int32) (A : Nat → Nat → Int32) (g : Nat → Option Nat), (60 - i = N) → (D.length = i) → (2 * i ≤ sp) → (sp ≤ tn) → (TP9 I A tn tx) → (A 0 = A0 0) → (I 5 = nI i) → (I 6 = nI sp) → (∀ k, k < i → CE A g k (D.getD k (0, 0, 0))) → ((D ++ (rdN tn tx (61 - i) sp).1, (rdN tn tx (61 - i) sp).2) = rdN tn tx 61 0) → AW l G MX5_read 7 420 0 0 (RDo f o A0 tn tx n) n 0 0 12 [(1, .int (nI i)), (0, .ref o)] [] (pU f o I A g) n := by
  intro N
  induction N using Nat.strongRecOn with
  | ind N ih =>
    intro i sp D I A g hNN hi h2 hs hT h0 h5 h6 hE he
    have ht60 := hT.2.1
    refine aw_iload_n dX5_read_12 rfl rfl ?_
    refine aw_bipush_n 60 dX5_read_13 (by decide) ?_
    refine aw_icmp_ge_n (by omega) (by omega) (tgt := 57) dX5_read_15 (by decide) (fun c_1 => by exfalso; omega) (fun c_1 => ?_)
    refine aw_aload_n dX5_read_18 rfl rfl ?_
    refine aw_vP (as := []) (rest := []) mV_X5_readCommand (p_rc hT h5 (by omega) h6 hs) ml_X5_42 pU_0 rfl dX5_read_19 rfl rfl (by decide) (Nat.le_of_ble_eq_true rfl) (by decide) (fun _ _ _ h => by obtain ⟨_, _, _, _, _, _, _, _, h, _⟩ := h; cases h) (fun r9 f9 n9 _ h => ?_)
    obtain ⟨h1, I1, A1, g1, h3, k4, k6, k0, k9, kE, kb, kg⟩ := h
    cases k9; subst h1; subst h3
    have hpos := cmd_tn (tx := tx) hs
    refine aw_if_ne_b (tgt := 27) dX5_read_22 (by decide) (fun c_2 => ?_) (fun c_2 => ?_)
    · have d_ok : (cmdN tn tx sp).2.2 = false := by simpa using c_2
      refine aw_aload_n dX5_read_27 rfl rfl ?_
      refine aw_get (v := .int (nI ((cmdN tn tx sp).2.1))) fl_X5_35 pU_0 (congrArg (fun z => some (Value.int z)) (k6)) dX5_read_28 ?_
      refine aw_aload_n dX5_read_31 rfl rfl ?_
      refine aw_get (v := .int (nI tn)) fl_X5_28 pU_0 (congrArg (fun z => some (Value.int z)) (k4.trans hT.1)) dX5_read_32 ?_
      refine aw_icmp_ne_n (by omega) (by omega) (tgt := 40) dX5_read_35 (by decide) (fun c_3 => ?_) (fun c_3 => ?_)
      · refine aw_aload_n dX5_read_40 rfl rfl ?_
        refine aw_bipush_n 59 dX5_read_41 (by decide) ?_
        refine aw_vI (as := [Value.int (nI 59)]) (rest := []) mV_X5_readSign (p_rs (hT.mv (I' := I1) (A' := A1) k4 k0) (sp := (cmdN tn tx sp).2.1) (c := 59) k6 (by omega) (by decide)) ml_X5_45 pU_0 rfl dX5_read_43 rfl rfl (by decide) (Nat.le_of_ble_eq_true rfl) (by decide) ?_
        refine aw_if_ne_b (tgt := 51) dX5_read_46 (by decide) (fun c_4 => ?_) (fun c_4 => ?_)
        · have d_59 : hN tn tx (cmdN tn tx sp).2.1 = 59 := by simpa using c_4
          refine aw_iinc_n (L' := [(1, .int (nI (i + 1))), (0, .ref o)]) 1 dX5_read_51 rfl (by decide) (by decide) rfl ?_
          refine aw_goto (tgt := 12) dX5_read_54 (by decide) ?_
          have hb59 := hN_lt8 d_59 (by decide)
          obtain ⟨kgt, kis⟩ := cmd_ge (tn := tn) (tx := tx) (sp := sp) d_ok
          obtain ⟨kg5, kgE⟩ := kg d_ok
          rw [if_pos d_59]
          exact ih _ (by omega) (i + 1) ((cmdN tn tx sp).2.1 + 1) (D ++ [(cmdN tn tx sp).1]) (va_up I1 6 (nI ((cmdN tn tx sp).2.1 + 1))) A1 g1 rfl (by rw [List.length_append, hi]; rfl) (by omega) (by omega) (hT.mv ((up_ne (by decide)).trans k4) k0) (k0.trans h0) ((up_ne (by decide)).trans kg5) up_self (fun k hk => CE_snoc hi hE kE kgE k (by rw [List.length_append, hi]; exact hk)) (by rw [← he, show 61 - i = (60 - i) + 1 by omega, rd_yes ⟨d_ok, d_59⟩, show 61 - (i + 1) = 60 - i by omega, List.append_assoc]; rfl)
        · have d_59 : ¬ hN tn tx (cmdN tn tx sp).2.1 = 59 := by simpa using c_4
          refine aw_iconst_n 0 dX5_read_49 (by decide) ?_
          rw [if_neg d_59, up_id6 k6]
          have er : (rdN tn tx 61 0).2 = ((cmdN tn tx sp).2.1, false) := by
            rw [← he, show 61 - i = (60 - i) + 1 by omega, rd_no (fun z => d_59 z.2)]
            exact Prod.ext rfl d_ok
          exact aw_zret rfl rfl (by decide) (by decide) dX5_read_50 (RDo.bad er (Or.inr (by omega)) (k4.trans hT.1) k6 (k0.trans h0))
      · refine aw_iconst_n 1 dX5_read_38 (by decide) ?_
        have hne : ¬ hN tn tx (cmdN tn tx sp).2.1 = 59 := fun z => by have := hN_lt8 z (by decide); omega
        obtain ⟨kg5, kgE⟩ := kg d_ok
        have er : rdN tn tx 61 0 = (D ++ [(cmdN tn tx sp).1], ((cmdN tn tx sp).2.1, false)) := by
          rw [← he, show 61 - i = (60 - i) + 1 by omega, rd_no (fun z => hne z.2)]
          exact Prod.ext rfl (Prod.ext rfl d_ok)
        exact aw_zret rfl rfl (by decide) (by decide) dX5_read_39 (RDo.good er (by omega) (k4.trans hT.1) k6 (k0.trans h0) (by rw [List.length_append, hi]; exact kg5) (by rw [List.length_append, hi]; show i + 1 ≤ 60; omega) (CE_snoc hi hE kE kgE))
    · have d_ok : (cmdN tn tx sp).2.2 = true := by simpa using c_2
      refine aw_iconst_n 0 dX5_read_25 (by decide) ?_
      have er : (rdN tn tx 61 0).2 = (cmdN tn tx sp).2 := by rw [← he, show 61 - i = (60 - i) + 1 by omega, rd_no (fun z => by rw [d_ok] at z; exact Bool.noConfusion z.1)]
      exact aw_zret rfl rfl (by decide) (by decide) dX5_read_26 (RDo.bad (q := (cmdN tn tx sp).2.1) (e := true) (er.trans (Prod.ext rfl d_ok)) (Or.inl rfl) (k4.trans hT.1) k6 (k0.trans h0))
set_option maxHeartbeats 4000000 in
theorem p_read {l : Launch} {G : GT} {n : Nat} {f : HT} {o : Nat} {I : Nat → Int32} {A : Nat → Nat → Int32} {g : Nat → Option Nat} {tn : Nat} {tx : Nat → Nat} (hT : TP9 I A tn tx) : AM l G yX5_read (.code yX5_read cX5_read 2 (some .boolean)) 7 420 0 0 [.ref o] (pU f o I A g) n (RDo f o A tn tx n) := by
  refine aw_enter (M := MX5_read) rfl rfl (by decide +kernel) rfl (Nat.le_of_ble_eq_true rfl) ?_
  show AW l G MX5_read 7 420 0 0 _ n 0 0 0 [(0, .ref o)] [] _ n
  refine aw_aload_n dX5_read_0 rfl rfl ?_
  refine aw_iconst_n 0 dX5_read_1 (by decide) ?_
  refine aw_pput fp_X5_35 (by decide) rfl rfl dX5_read_2 ?_
  refine aw_aload_n dX5_read_5 rfl rfl ?_
  refine aw_iconst_n 0 dX5_read_6 (by decide) ?_
  refine aw_pput fp_X5_32 (by decide) rfl rfl dX5_read_7 ?_
  refine aw_iconst_n 0 dX5_read_10 (by decide) ?_
  refine aw_istore_n (L' := [(1, .int (nI 0)), (0, .ref o)]) dX5_read_11 rfl (by decide) rfl ?_
  refine aw_sub [(1, .int (nI 0)), (0, .ref o)] (by simp) (p_read_loop _ 0 0 [] _ A g rfl rfl (Nat.le_refl _) (Nat.zero_le _) (hT.mv (by rw [up_ne (by decide), up_ne (by decide)]) rfl) rfl up_self (by rw [up_ne (by decide)]; exact up_self) (fun k hk => absurd hk (Nat.not_lt_zero _)) rfl)
