/-- the kept states move down by one -/
def shN (h : Nat → Int32) (k : Nat) : Nat → Int32 := fun i => if i < k then h (i + 48) else h i
theorem shN_hi {h : Nat → Int32} {k i : Nat} (hi : k ≤ i) : shN h k i = h i := by
  unfold shN
  rw [if_neg (by omega)]
theorem sh_0 {h : Nat → Int32} : shN h 0 = h := by
  funext i
  exact shN_hi (Nat.zero_le i)
theorem up_A {α : Type} {A : Nat → α} {j : Nat} : va_up A j (A j) = A := by
  funext i
  by_cases h : i = j
  · subst h; rw [up_self]
  · rw [up_ne h]
theorem sh_step {A : Nat → Nat → Int32} {k : Nat} : va_up (va_up A 2 (shN (A 2) k)) 2 (upd (va_up A 2 (shN (A 2) k) 2) k (A 2 (k + 48))) = va_up A 2 (shN (A 2) (k + 1)) := by
  rw [up_self, bx_uu]
  congr 1
  funext i
  by_cases h : i = k
  · subst h
    rw [pk_us]
    unfold shN
    rw [if_pos (by omega)]
  · rw [pk_un h]
    unfold shN
    by_cases h1 : i < k
    · rw [if_pos h1, if_pos (by omega)]
    · rw [if_neg h1, if_neg (by omega)]
abbrev MX11_kept : MT := (RX11, cX11_kept, 3, (some .int), [], "kept")
set_option maxHeartbeats 4000000 in
theorem m_kept_tail {l : Launch} {G : GT} {n : Nat} {f : HT} {o : Nat} {I : Nat → Int32} {A : Nat → Nat → Int32} {c x : Nat} (h3 : I 3 = nI c) (hc : c ≤ 7) : ∀ (N : Nat), (0 = N) → AW l G MX11_kept 2 120 0 0 (rI (nI x) (mU f o (va_up I 3 (nI (c + 1))) (va_up A 2 (va_cpy (A 1) (A 2) 0 (c * 48) 48))) n) n 0 0 71 [(0, .ref o), (1, .int (nI x))] [] (mU f o I A) n := by
  intro N
  induction N using Nat.strongRecOn with
  | ind N ih =>
    intro  hN
    refine aw_aload_n dX11_kept_71 rfl rfl ?_
    refine aw_get (v := .ref (o + 2)) fl_X11_13 mU_0 rfl dX11_kept_72 ?_
    refine aw_iconst_n 0 dX11_kept_75 (by decide) ?_
    refine aw_aload_n dX11_kept_76 rfl rfl ?_
    refine aw_get (v := .ref (o + 3)) fl_X11_16 mU_0 rfl dX11_kept_77 ?_
    refine aw_aload_n dX11_kept_80 rfl rfl ?_
    refine aw_get (v := .int (nI c)) fl_X11_49 mU_0 (congrArg (fun z => some (Value.int z)) h3) dX11_kept_81 ?_
    refine aw_bipush_n 48 dX11_kept_84 (by decide) ?_
    refine aw_imul_n dX11_kept_86 ?_
    refine aw_sV (as := [Value.ref (o + 2), Value.int (nI 0), Value.ref (o + 3), Value.int (nI (c * 48))]) (rest := []) mS_X11_copy (m_copy (by omega) mU_2 mU_3 (by omega) (by omega) (by decide) (by decide)) ml_X11_45 dX11_kept_87 rfl rfl (by decide) (Nat.le_of_ble_eq_true rfl) (by decide) ?_
    rw [mU_A2]
    refine aw_aload_n dX11_kept_90 rfl rfl ?_
    refine aw_dup dX11_kept_91 rfl ?_
    refine aw_get (v := .int (nI c)) fl_X11_49 mU_0 (congrArg (fun z => some (Value.int z)) h3) dX11_kept_92 ?_
    refine aw_iconst_n 1 dX11_kept_95 (by decide) ?_
    refine aw_iadd_n dX11_kept_96 ?_
    refine aw_mput fp_X11_49 (by decide) rfl rfl dX11_kept_97 ?_
    refine aw_iload_n dX11_kept_100 rfl rfl ?_
    exact aw_iret rfl (by decide) (by decide) dX11_kept_101 (rI_of (by rfl))
set_option maxHeartbeats 4000000 in
theorem m_kept_loop {l : Launch} {G : GT} {n : Nat} {f : HT} {o : Nat} {I : Nat → Int32} {A : Nat → Nat → Int32} {x : Nat} (h3 : I 3 = nI 8) : ∀ (N : Nat) (k : Nat), (336 - k = N) → (k ≤ 336) → AW l G MX11_kept 2 120 0 0 (rI (nI x) (mU f o (va_up (va_up I 3 (nI (8 - 1))) 3 (nI (8 - 1 + 1))) (va_up (va_up A 2 (shN (A 2) 336)) 2 (va_cpy (A 1) (shN (A 2) 336) 0 ((8 - 1) * 48) 48))) n) n 0 0 33 [(2, .int (nI k)), (0, .ref o), (1, .int (nI x))] [] (mU f o I (va_up A 2 (shN (A 2) k))) n := by
  intro N
  induction N using Nat.strongRecOn with
  | ind N ih =>
    intro k hN hk
    refine aw_iload_n dX11_kept_33 rfl rfl ?_
    refine aw_sipush_n 336 dX11_kept_34 (by decide) ?_
    refine aw_icmp_ge_n (by omega) (by omega) (tgt := 61) dX11_kept_37 (by decide) (fun c_1 => ?_) (fun c_1 => ?_)
    · have e : k = 336 := by omega
      subst e
      refine aw_aload_n dX11_kept_61 rfl rfl ?_
      refine aw_dup dX11_kept_62 rfl ?_
      refine aw_get (v := .int (nI 8)) fl_X11_49 mU_0 (congrArg (fun z => some (Value.int z)) h3) dX11_kept_63 ?_
      refine aw_iconst_n 1 dX11_kept_66 (by decide) ?_
      refine aw_isub_n (by omega) dX11_kept_67 ?_
      refine aw_mput fp_X11_49 (by decide) rfl rfl dX11_kept_68 ?_
      refine aw_sub [(0, .ref o), (1, .int (nI x))] (by simp) ?_
      exact m_kept_tail (I := va_up I 3 (nI (8 - 1))) (A := va_up A 2 (shN (A 2) 336)) rfl (by decide) 0 rfl
    · refine aw_aload_n dX11_kept_40 rfl rfl ?_
      refine aw_get (v := .ref (o + 3)) fl_X11_16 mU_0 rfl dX11_kept_41 ?_
      refine aw_iload_n dX11_kept_44 rfl rfl ?_
      refine aw_aload_n dX11_kept_45 rfl rfl ?_
      refine aw_get (v := .ref (o + 3)) fl_X11_16 mU_0 rfl dX11_kept_46 ?_
      refine aw_iload_n dX11_kept_49 rfl rfl ?_
      refine aw_bipush_n 48 dX11_kept_50 (by decide) ?_
      refine aw_iadd_n dX11_kept_52 ?_
      refine aw_iald_n (k := k + 48) (v := (A 2 (k + 48))) mU_3 (by omega) (by decide) (by rw [up_self]; exact shN_hi (by omega)) dX11_kept_53 ?_
      refine aw_iast_n (k := k) mU_3 (by omega) (by decide) dX11_kept_54 ?_
      rw [mU_A2]
      refine aw_iinc_n (L' := [(2, .int (nI (k + 1))), (0, .ref o), (1, .int (nI x))]) 1 dX11_kept_55 rfl (by decide) (by decide) rfl ?_
      refine aw_goto (tgt := 33) dX11_kept_58 (by decide) ?_
      rw [sh_step]
      refine aw_sub [(2, .int (nI (k + 1))), (0, .ref o), (1, .int (nI x))] (by simp) ?_
      exact ih _ (by omega) (k + 1) rfl (by omega)
set_option maxHeartbeats 4000000 in
theorem m_kept_8 {l : Launch} {G : GT} {n : Nat} {f : HT} {o : Nat} {I : Nat → Int32} {A : Nat → Nat → Int32} {x : Nat} (h3 : I 3 = nI 8) (h12 : I 12 = nI 0) : AM l G yX11_kept (.code yX11_kept cX11_kept 3 (some .int)) 2 120 0 0 [.ref o, .int (nI x)] (mU f o I A) n (rI (nI x) (mU f o (va_up (va_up I 3 (nI (8 - 1))) 3 (nI (8 - 1 + 1))) (va_up (va_up A 2 (shN (A 2) 336)) 2 (va_cpy (A 1) (shN (A 2) 336) 0 ((8 - 1) * 48) 48))) n) := by
  refine aw_enter (M := MX11_kept) rfl rfl (by decide +kernel) rfl (Nat.le_of_ble_eq_true rfl) ?_
  show AW l G MX11_kept 2 120 0 0 _ n 0 0 0 [(0, .ref o), (1, .int (nI x))] [] _ n
  refine aw_aload_n dX11_kept_0 rfl rfl ?_
  refine aw_get (v := .int (nI 0)) fl_X11_42 mU_0 (congrArg (fun z => some (Value.int z)) h12) dX11_kept_1 ?_
  refine aw_if_eq_n (by omega) (tgt := 22) dX11_kept_4 (by decide) (fun c_1 => ?_) (fun c_1 => by exfalso; omega)
  refine aw_aload_n dX11_kept_22 rfl rfl ?_
  refine aw_get (v := .int (nI 8)) fl_X11_49 mU_0 (congrArg (fun z => some (Value.int z)) h3) dX11_kept_23 ?_
  refine aw_bipush_n 8 dX11_kept_26 (by decide) ?_
  refine aw_icmp_ne_n (by omega) (by omega) (tgt := 71) dX11_kept_28 (by decide) (fun c_2 => by exfalso; omega) (fun c_2 => ?_)
  refine aw_iconst_n 0 dX11_kept_31 (by decide) ?_
  refine aw_istore_n (L' := [(2, .int (nI 0)), (0, .ref o), (1, .int (nI x))]) dX11_kept_32 rfl (by decide) rfl ?_
  have h := m_kept_loop (l := l) (G := G) (n := n) (f := f) (o := o) (A := A) (x := x) h3 336 0 rfl (by decide)
  rw [sh_0, up_A] at h
  exact h
set_option maxHeartbeats 4000000 in
theorem m_kept_lt {l : Launch} {G : GT} {n : Nat} {f : HT} {o : Nat} {I : Nat → Int32} {A : Nat → Nat → Int32} {c x : Nat} (h3 : I 3 = nI c) (hc : c ≤ 7) (h12 : I 12 = nI 0) : AM l G yX11_kept (.code yX11_kept cX11_kept 3 (some .int)) 2 120 0 0 [.ref o, .int (nI x)] (mU f o I A) n (rI (nI x) (mU f o (va_up I 3 (nI (c + 1))) (va_up A 2 (va_cpy (A 1) (A 2) 0 (c * 48) 48))) n) := by
  refine aw_enter (M := MX11_kept) rfl rfl (by decide +kernel) rfl (Nat.le_of_ble_eq_true rfl) ?_
  show AW l G MX11_kept 2 120 0 0 _ n 0 0 0 [(0, .ref o), (1, .int (nI x))] [] _ n
  refine aw_aload_n dX11_kept_0 rfl rfl ?_
  refine aw_get (v := .int (nI 0)) fl_X11_42 mU_0 (congrArg (fun z => some (Value.int z)) h12) dX11_kept_1 ?_
  refine aw_if_eq_n (by omega) (tgt := 22) dX11_kept_4 (by decide) (fun c_1 => ?_) (fun c_1 => by exfalso; omega)
  refine aw_aload_n dX11_kept_22 rfl rfl ?_
  refine aw_get (v := .int (nI c)) fl_X11_49 mU_0 (congrArg (fun z => some (Value.int z)) h3) dX11_kept_23 ?_
  refine aw_bipush_n 8 dX11_kept_26 (by decide) ?_
  refine aw_icmp_ne_n (by omega) (by omega) (tgt := 71) dX11_kept_28 (by decide) (fun c_2 => ?_) (fun c_2 => by exfalso; omega)
  exact m_kept_tail h3 hc 0 rfl
set_option maxHeartbeats 4000000 in
theorem m_kept_f {l : Launch} {G : GT} {n : Nat} {f : HT} {o : Nat} {I : Nat → Int32} {A : Nat → Nat → Int32} {d x : Nat} (h12 : I 12 = nI d) (hd : d ≠ 0) (hd4 : d < 4) : AM l G yX11_kept (.code yX11_kept cX11_kept 3 (some .int)) 2 120 0 0 [.ref o, .int (nI x)] (mU f o I A) n (rI (nI 0) (mU f o I (va_up A 0 (va_cpy (A 1) (A 0) 0 0 48))) n) := by
  refine aw_enter (M := MX11_kept) rfl rfl (by decide +kernel) rfl (Nat.le_of_ble_eq_true rfl) ?_
  show AW l G MX11_kept 2 120 0 0 _ n 0 0 0 [(0, .ref o), (1, .int (nI x))] [] _ n
  refine aw_aload_n dX11_kept_0 rfl rfl ?_
  refine aw_get (v := .int (nI d)) fl_X11_42 mU_0 (congrArg (fun z => some (Value.int z)) h12) dX11_kept_1 ?_
  refine aw_if_eq_n (by omega) (tgt := 22) dX11_kept_4 (by decide) (fun c_1 => by exfalso; omega) (fun c_1 => ?_)
  refine aw_aload_n dX11_kept_7 rfl rfl ?_
  refine aw_get (v := .ref (o + 2)) fl_X11_13 mU_0 rfl dX11_kept_8 ?_
  refine aw_iconst_n 0 dX11_kept_11 (by decide) ?_
  refine aw_aload_n dX11_kept_12 rfl rfl ?_
  refine aw_get (v := .ref (o + 1)) fl_X11_7 mU_0 rfl dX11_kept_13 ?_
  refine aw_iconst_n 0 dX11_kept_16 (by decide) ?_
  refine aw_sV (as := [Value.ref (o + 2), Value.int (nI 0), Value.ref (o + 1), Value.int (nI 0)]) (rest := []) mS_X11_copy (m_copy (by omega) mU_2 mU_1 (by omega) (by omega) (by decide) (by decide)) ml_X11_45 dX11_kept_17 rfl rfl (by decide) (Nat.le_of_ble_eq_true rfl) (by decide) ?_
  rw [mU_A0]
  refine aw_iconst_n 0 dX11_kept_20 (by decide) ?_
  exact aw_iret rfl (by decide) (by decide) dX11_kept_21 (rI_of (by rfl))
