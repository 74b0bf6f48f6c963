theorem cpy_0 {gf gt : Nat → Int32} {p q : Nat} : va_cpy gf gt p q 0 = gt := by
  funext j
  unfold va_cpy
  rw [if_neg (by omega)]
theorem cpy_step {gf gt : Nat → Int32} {p q k : Nat} : upd (va_cpy gf gt p q k) (q + k) (gf (p + k)) = va_cpy gf gt p q (k + 1) := by
  funext j
  by_cases hj : j = q + k
  · subst hj
    rw [pk_us]
    unfold va_cpy
    rw [if_pos (by omega), show p + (q + k - q) = p + k by omega]
  · rw [pk_un hj]
    unfold va_cpy
    by_cases h : q ≤ j ∧ j < q + k
    · rw [if_pos h, if_pos (by omega)]
    · rw [if_neg h, if_neg (by omega)]
theorem up_same {f : HT} {b : Nat} {c : va_E} (h : f b = c) : va_up f b c = f := by
  funext j
  by_cases hj : j = b
  · subst hj; rw [up_self, h]
  · rw [up_ne hj]
abbrev MX11_copy : MT := (RX11, cX11_copy, 5, none, [], "copy")
set_option maxHeartbeats 4000000 in
theorem m_copy_loop {l : Launch} {G : GT} {n : Nat} {f : HT} {a b N1 N2 p q : Nat} {gf gt : Nat → Int32} (hab : a ≠ b) (hfa : f a = .inl (0, (N1, .inl gf))) (hfb : f b = .inl (0, (N2, .inl gt))) (h1 : p + 48 ≤ N1) (h2 : q + 48 ≤ N2) (h3 : N1 < 1000) (h4 : N2 < 1000) : ∀ (N : Nat) (k : Nat), (48 - k = N) → (k ≤ 48) → AW l G MX11_copy 0 0 0 0 (rV (va_up f b (.inl (0, (N2, .inl (va_cpy gf gt p q 48))))) n) n 0 0 3 [(4, .int (nI k)), (0, .ref a), (1, .int (nI p)), (2, .ref b), (3, .int (nI q))] [] (va_up f b (.inl (0, (N2, .inl (va_cpy gf gt p q k))))) n := by
  intro N
  induction N using Nat.strongRecOn with
  | ind N ih =>
    intro k hN hk
    refine aw_iload dX11_copy_3 rfl ?_
    refine aw_bipush_n 48 dX11_copy_5 (by decide) ?_
    refine aw_icmp_ge_n (by omega) (by omega) (tgt := 28) dX11_copy_7 (by decide) (fun c_1 => ?_) (fun c_1 => ?_)
    · exact aw_vret rfl (by decide) (by decide) dX11_copy_28 (rV_of (by rw [show k = 48 by omega]))
    · refine aw_aload_n dX11_copy_10 rfl rfl ?_
      refine aw_iload_n dX11_copy_11 rfl rfl ?_
      refine aw_iload dX11_copy_12 rfl ?_
      refine aw_iadd_n dX11_copy_14 ?_
      refine aw_aload_n dX11_copy_15 rfl rfl ?_
      refine aw_iload_n dX11_copy_16 rfl rfl ?_
      refine aw_iload dX11_copy_17 rfl ?_
      refine aw_iadd_n dX11_copy_19 ?_
      refine aw_iald_n (k := p + k) (v := gf (p + k)) ((up_ne hab).trans hfa) (by omega) (by omega) rfl dX11_copy_20 ?_
      refine aw_iast_n (k := q + k) up_self (by omega) (by omega) dX11_copy_21 ?_
      rw [bx_uu, cpy_step]
      refine aw_iinc_n (L' := [(4, .int (nI (k + 1))), (0, .ref a), (1, .int (nI p)), (2, .ref b), (3, .int (nI q))]) 1 dX11_copy_22 rfl (by decide) (by decide) rfl ?_
      refine aw_goto (tgt := 3) dX11_copy_25 (by decide) ?_
      refine aw_sub [(4, .int (nI (k + 1))), (0, .ref a), (1, .int (nI p)), (2, .ref b), (3, .int (nI q))] (by simp) ?_
      exact ih _ (by omega) (k + 1) rfl (by omega)
set_option maxHeartbeats 4000000 in
theorem m_copy {l : Launch} {G : GT} {n : Nat} {f : HT} {a b N1 N2 p q : Nat} {gf gt : Nat → Int32} (hab : a ≠ b) (hfa : f a = .inl (0, (N1, .inl gf))) (hfb : f b = .inl (0, (N2, .inl gt))) (h1 : p + 48 ≤ N1) (h2 : q + 48 ≤ N2) (h3 : N1 < 1000) (h4 : N2 < 1000) : AM l G yX11_copy (.code yX11_copy cX11_copy 5 none) 0 0 0 0 [.ref a, .int (nI p), .ref b, .int (nI q)] (f) n (rV (va_up f b (.inl (0, (N2, .inl (va_cpy gf gt p q 48))))) n) := by
  refine aw_enter (M := MX11_copy) rfl rfl (by decide +kernel) rfl (Nat.le_of_ble_eq_true rfl) ?_
  show AW l G MX11_copy 0 0 0 0 _ n 0 0 0 [(0, .ref a), (1, .int (nI p)), (2, .ref b), (3, .int (nI q))] [] _ n
  refine aw_iconst_n 0 dX11_copy_0 (by decide) ?_
  refine aw_istore (L' := [(4, .int (nI 0)), (0, .ref a), (1, .int (nI p)), (2, .ref b), (3, .int (nI q))]) dX11_copy_1 (by decide) rfl ?_
  have h := m_copy_loop (l := l) (G := G) (n := n) (p := p) (q := q) hab hfa hfb h1 h2 h3 h4 48 0 rfl (by decide)
  rw [cpy_0, up_same hfb] at h
  exact h
abbrev MX11_begin : MT := (RX11, cX11_begin, 1, none, [], "begin")
set_option maxHeartbeats 4000000 in
theorem m_begin {l : Launch} {G : GT} {n : Nat} {f : HT} {o : Nat} {I : Nat → Int32} {A : Nat → Nat → Int32} : AM l G yX11_begin (.code yX11_begin cX11_begin 1 none) 1 60 0 0 [.ref o] (mU f o I A) n (rV (mU f o I (va_up A 1 (va_cpy (A 0) (A 1) 0 0 48))) n) := by
  refine aw_enter (M := MX11_begin) rfl rfl (by decide +kernel) rfl (Nat.le_of_ble_eq_true rfl) ?_
  show AW l G MX11_begin 1 60 0 0 _ n 0 0 0 [(0, .ref o)] [] _ n
  refine aw_aload_n dX11_begin_0 rfl rfl ?_
  refine aw_get (v := .ref (o + 1)) fl_X11_7 mU_0 rfl dX11_begin_1 ?_
  refine aw_iconst_n 0 dX11_begin_4 (by decide) ?_
  refine aw_aload_n dX11_begin_5 rfl rfl ?_
  refine aw_get (v := .ref (o + 2)) fl_X11_13 mU_0 rfl dX11_begin_6 ?_
  refine aw_iconst_n 0 dX11_begin_9 (by decide) ?_
  refine aw_sV (as := [Value.ref (o + 1), Value.int (nI 0), Value.ref (o + 2), Value.int (nI 0)]) (rest := []) mS_X11_copy (m_copy (by omega) mU_1 mU_2 (by omega) (by omega) (by decide) (by decide)) ml_X11_45 dX11_begin_10 rfl rfl (by decide) (Nat.le_of_ble_eq_true rfl) (by decide) ?_
  rw [mU_A1]
  exact aw_vret rfl (by decide) (by decide) dX11_begin_13 (rV_of (by rfl))
