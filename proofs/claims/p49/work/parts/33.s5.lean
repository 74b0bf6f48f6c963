theorem nrB_2 {B : Nat → Nat → Int32} {q p r a : Nat} : nrB B q p r a 2 = B 2 := by
  unfold nrB
  split
  · rw [up_ne (by decide), up_ne (by decide)]
  · rfl
theorem push_ok {V : Nat → Nat} {v d : Int32} (h : (opPush V v d).1 = 0) : isK v (V 2) = true ∧ inB d (nI 1) (nI 60) = true ∧ ¬ 60 < V (12 + v.toNatClampNeg) + d.toNatClampNeg := by
  unfold opPush at h
  split at h
  · exact absurd (show (1 : Nat) = 0 from h) (by decide)
  · next h1 =>
    split at h
    · exact absurd (show (2 : Nat) = 0 from h) (by decide)
    · next h2 =>
      split at h
      · exact absurd (show (3 : Nat) = 0 from h) (by decide)
      · next h3 => exact ⟨eq_true_of_ne_false h1, eq_true_of_ne_false h2, h3⟩
theorem push_no {V : Nat → Nat} {v d : Int32} (h : (opPush V v d).1 ≠ 0) : (opPush V v d).2.2 = V := by
  unfold opPush at h ⊢
  split
  · rfl
  · split
    · rfl
    · split
      · rfl
      · next h1 h2 h3 => exact absurd (by rw [if_neg h1, if_neg h2, if_neg h3]) h
abbrev MX8_swingUp : MT := (RX8, cX8_swingUp, 3, (some .int), [], "swingUp")
set_option maxHeartbeats 4000000 in
theorem s_swingUp {l : Launch} {G : GT} {n : Nat} {f : HT} {o : Nat} {J : Nat → Int32} {B : Nat → Nat → Int32} {K : Nat} {V : Nat → Nat} (hS : SV J B V) (hB : VB K V) (v d : Int32) : AM l G yX8_swingUp (.code yX8_swingUp cX8_swingUp 3 (some .int)) 3 180 0 0 [.ref o, .int v, .int d] (sU f o J B) n (PSo f o (opPush V v d) n) := by
  refine aw_enter (M := MX8_swingUp) rfl rfl (by decide +kernel) rfl (Nat.le_of_ble_eq_true rfl) ?_
  have hcnt := VB.cnt hB
  have hleg := VB.legs hB
  have hfr := VB.fric hB
  have hnow := VB.now hB
  have hkk := VB.kk hB
  have hq4 := opPush_4 V v d
  show AW l G MX8_swingUp 3 180 0 0 _ n 0 0 0 [(0, .ref o), (1, .int v), (2, .int d)] [] _ n
  refine aw_aload_n dX8_swingUp_0 rfl rfl ?_
  refine aw_iload_n dX8_swingUp_1 rfl rfl ?_
  refine aw_iload_n dX8_swingUp_2 rfl rfl ?_
  refine aw_vI (as := [Value.int v, Value.int d]) (rest := []) mV_X8_refusalToSwingUp (s_rfPush hS hB v d) ml_X8_77 sU_0 rfl dX8_swingUp_3 rfl rfl (by decide) (Nat.le_of_ble_eq_true rfl) (by decide) ?_
  refine aw_if_eq_n (by omega) (tgt := 11) dX8_swingUp_6 (by decide) (fun c_1 => ?_) (fun c_1 => ?_)
  · have hok := push_ok c_1
    obtain ⟨x, hx1, rfl⟩ := isK_of (c := V 2) (by omega) hok.1
    obtain ⟨y, hy0, hy1, rfl⟩ := inB_of (a := 1) (b := 60) (by decide) (by decide) hok.2.1
    have hnx := nIc (show x < 2 ^ 31 by omega)
    have hny := nIc (show y < 2 ^ 31 by omega)
    have h60 := hok.2.2
    rw [hnx, hny] at h60
    have hax := VB.amp hB (k := x) (by omega)
    refine aw_aload_n dX8_swingUp_11 rfl rfl ?_
    refine aw_get (v := .ref (o + 3)) fl_X8_18 sU_0 rfl dX8_swingUp_12 ?_
    refine aw_iload_n dX8_swingUp_15 rfl rfl ?_
    refine aw_iald_n (k := x) (v := (nI (V (12 + x)))) sU_3 (by omega) (by decide) (by first | exact hS.amp x hx1 | (rw [up_ne (by decide)]; exact hS.amp x hx1)) dX8_swingUp_16 ?_
    refine aw_if_ne_n (by omega) (tgt := 30) dX8_swingUp_17 (by decide) (fun c_2 => ?_) (fun c_2 => ?_)
    · refine aw_aload_n dX8_swingUp_30 rfl rfl ?_
      refine aw_get (v := .ref (o + 3)) fl_X8_18 sU_0 rfl dX8_swingUp_31 ?_
      refine aw_iload_n dX8_swingUp_34 rfl rfl ?_
      refine aw_dup2 dX8_swingUp_35 rfl rfl ?_
      refine aw_iald_n (k := x) (v := (nI (V (12 + x)))) sU_3 (by omega) (by decide) (by first | exact hS.amp x hx1 | (rw [up_ne (by decide)]; exact hS.amp x hx1)) dX8_swingUp_36 ?_
      refine aw_iload_n dX8_swingUp_37 rfl rfl ?_
      refine aw_iadd_n dX8_swingUp_38 ?_
      refine aw_iast_n (k := x) sU_3 (by omega) (by decide) dX8_swingUp_39 ?_
      rw [sU_A2]
      refine aw_aload_n dX8_swingUp_40 rfl rfl ?_
      refine aw_aload_n dX8_swingUp_41 rfl rfl ?_
      refine aw_iload_n dX8_swingUp_42 rfl rfl ?_
      have hS1 : SV J (va_up B 2 (upd (B 2) x ((nI ((V (12 + x)) + y))))) (va_up V (12 + x) (V (12 + x) + y)) := (hS.amp9 (x := x) (a := (V (12 + x) + y)) hcnt hleg (by omega))
      have hB1 : VB K (va_up V (12 + x) (V (12 + x) + y)) := (hB.amp99 (k := x) (a := (V (12 + x) + y)) hx1 (by omega))
      have e4 : (va_up V (12 + x) (V (12 + x) + y)) (4 + x) = V (4 + x) := by (repeat rw [up_ne (by omega)])
      have e2 : (va_up V (12 + x) (V (12 + x) + y)) 2 = V 2 := by (repeat rw [up_ne (by omega)])
      have hkl := kindN_lt (V (4 + x))
      have hrc := VB.rec hB hkl
      have er : (va_up V (12 + x) (V (12 + x) + y)) (36 + kindN (V (4 + x))) = V (36 + kindN (V (4 + x))) := by (repeat rw [up_ne (by omega)])
      refine aw_vI (as := [Value.int (nI x)]) (rest := [Value.ref o]) mV_X8_kindOf (s_kind hS1 hB1 (k := x) (by rw [e2]; exact hx1)) ml_X8_81 sU_0 rfl dX8_swingUp_43 rfl rfl (by decide) (Nat.le_of_ble_eq_true rfl) (by decide) ?_
      rw [e4]
      refine aw_iload_n dX8_swingUp_46 rfl rfl ?_
      refine aw_aload_n dX8_swingUp_47 rfl rfl ?_
      refine aw_get (v := .ref (o + 3)) fl_X8_18 sU_0 rfl dX8_swingUp_48 ?_
      refine aw_iload_n dX8_swingUp_51 rfl rfl ?_
      refine aw_iald_n (k := x) (v := (nI (V (12 + x) + y))) sU_3 (by omega) (by decide) (by rw [up_self, pk_us]) dX8_swingUp_52 ?_
      refine aw_vV (as := [Value.int (nI (kindN (V (4 + x)))), Value.int (nI x), Value.int (nI (V (12 + x) + y))]) (rest := []) mV_X8_noteRecord (s_note hkl (r := V (36 + kindN (V (4 + x)))) ((hS1.rec _ hkl).trans (by rw [er])) hrc (by omega)) ml_X8_84 sU_0 rfl dX8_swingUp_53 rfl rfl (by decide) (Nat.le_of_ble_eq_true rfl) (by decide) ?_
      refine aw_aload_n dX8_swingUp_56 rfl rfl ?_
      refine aw_get (v := .ref (o + 3)) fl_X8_18 sU_0 rfl dX8_swingUp_57 ?_
      refine aw_iload_n dX8_swingUp_60 rfl rfl ?_
      refine aw_iald_n (k := x) (v := (nI (V (12 + x) + y))) sU_3 (by omega) (by decide) (by rw [nrB_2, up_self, pk_us]) dX8_swingUp_61 ?_
      have hn9 := hS1.note9 (q := kindN (V (4 + x))) (p := x) (r := V (36 + kindN (V (4 + x)))) (a := (V (12 + x) + y)) (by rw [e2]; exact hcnt) hkl
      have e : opPush V (nI x) (nI y) = (0, (V (12 + x) + y), pushV V x (V (12 + x) + y)) := by unfold opPush; rw [if_neg (by rw [hok.1]; decide), if_neg (by rw [hok.2.1]; decide), hnx, hny, if_neg (by omega)]
      have ep : pushV V x (V (12 + x) + y) = (if V (36 + kindN (V (4 + x))) < (V (12 + x) + y) then va_up (va_up (va_up V (12 + x) (V (12 + x) + y)) (36 + kindN (V (4 + x))) (V (12 + x) + y)) (39 + kindN (V (4 + x))) x else (va_up V (12 + x) (V (12 + x) + y))) := by unfold pushV; rw [if_neg (show ¬ V (12 + x) = 0 by omega)]
      rw [e]
      exact aw_iret rfl (by decide) (by decide) dX8_swingUp_62 ⟨rfl, rfl, _, _, rfl, by show SV _ _ (pushV V x (V (12 + x) + y)); rw [ep]; exact hn9⟩
    · refine aw_aload_n dX8_swingUp_20 rfl rfl ?_
      refine aw_get (v := .ref (o + 4)) fl_X8_21 sU_0 rfl dX8_swingUp_21 ?_
      refine aw_iload_n dX8_swingUp_24 rfl rfl ?_
      refine aw_aload_n dX8_swingUp_25 rfl rfl ?_
      refine aw_get (v := .int (nI (V 0))) fl_X8_43 sU_0 (congrArg (fun z => some (Value.int z)) hS.now) dX8_swingUp_26 ?_
      refine aw_iast_n (k := x) sU_4 (by omega) (by decide) dX8_swingUp_29 ?_
      rw [sU_A3]
      refine aw_aload_n dX8_swingUp_30 rfl rfl ?_
      refine aw_get (v := .ref (o + 3)) fl_X8_18 sU_0 rfl dX8_swingUp_31 ?_
      refine aw_iload_n dX8_swingUp_34 rfl rfl ?_
      refine aw_dup2 dX8_swingUp_35 rfl rfl ?_
      refine aw_iald_n (k := x) (v := (nI (V (12 + x)))) sU_3 (by omega) (by decide) (by first | exact hS.amp x hx1 | (rw [up_ne (by decide)]; exact hS.amp x hx1)) dX8_swingUp_36 ?_
      refine aw_iload_n dX8_swingUp_37 rfl rfl ?_
      refine aw_iadd_n dX8_swingUp_38 ?_
      refine aw_iast_n (k := x) sU_3 (by omega) (by decide) dX8_swingUp_39 ?_
      rw [sU_A2]
      refine aw_aload_n dX8_swingUp_40 rfl rfl ?_
      refine aw_aload_n dX8_swingUp_41 rfl rfl ?_
      refine aw_iload_n dX8_swingUp_42 rfl rfl ?_
      have hS1 : SV J (va_up (va_up B 3 (upd (B 3) x ((nI (V 0))))) 2 (upd ((va_up B 3 (upd (B 3) x ((nI (V 0))))) 2) x ((nI ((V (12 + x)) + y))))) (va_up (va_up V (20 + x) (V 0)) (12 + x) (V (12 + x) + y)) := ((hS.start9 (x := x) (a := V 0) hcnt hleg (by omega)).amp9 (x := x) (a := (V (12 + x) + y)) (by rw [up_ne (by omega)]; exact hcnt) (by rw [up_ne (by omega)]; exact hleg) (by omega))
      have hB1 : VB K (va_up (va_up V (20 + x) (V 0)) (12 + x) (V (12 + x) + y)) := ((VB.start99 hB hx1).amp99 (k := x) (a := (V (12 + x) + y)) (by rw [up_ne (by omega)]; exact hx1) (by omega))
      have e4 : (va_up (va_up V (20 + x) (V 0)) (12 + x) (V (12 + x) + y)) (4 + x) = V (4 + x) := by (repeat rw [up_ne (by omega)])
      have e2 : (va_up (va_up V (20 + x) (V 0)) (12 + x) (V (12 + x) + y)) 2 = V 2 := by (repeat rw [up_ne (by omega)])
      have hkl := kindN_lt (V (4 + x))
      have hrc := VB.rec hB hkl
      have er : (va_up (va_up V (20 + x) (V 0)) (12 + x) (V (12 + x) + y)) (36 + kindN (V (4 + x))) = V (36 + kindN (V (4 + x))) := by (repeat rw [up_ne (by omega)])
      refine aw_vI (as := [Value.int (nI x)]) (rest := [Value.ref o]) mV_X8_kindOf (s_kind hS1 hB1 (k := x) (by rw [e2]; exact hx1)) ml_X8_81 sU_0 rfl dX8_swingUp_43 rfl rfl (by decide) (Nat.le_of_ble_eq_true rfl) (by decide) ?_
      rw [e4]
      refine aw_iload_n dX8_swingUp_46 rfl rfl ?_
      refine aw_aload_n dX8_swingUp_47 rfl rfl ?_
      refine aw_get (v := .ref (o + 3)) fl_X8_18 sU_0 rfl dX8_swingUp_48 ?_
      refine aw_iload_n dX8_swingUp_51 rfl rfl ?_
      refine aw_iald_n (k := x) (v := (nI (V (12 + x) + y))) sU_3 (by omega) (by decide) (by rw [up_self, pk_us]) dX8_swingUp_52 ?_
      refine aw_vV (as := [Value.int (nI (kindN (V (4 + x)))), Value.int (nI x), Value.int (nI (V (12 + x) + y))]) (rest := []) mV_X8_noteRecord (s_note hkl (r := V (36 + kindN (V (4 + x)))) ((hS1.rec _ hkl).trans (by rw [er])) hrc (by omega)) ml_X8_84 sU_0 rfl dX8_swingUp_53 rfl rfl (by decide) (Nat.le_of_ble_eq_true rfl) (by decide) ?_
      refine aw_aload_n dX8_swingUp_56 rfl rfl ?_
      refine aw_get (v := .ref (o + 3)) fl_X8_18 sU_0 rfl dX8_swingUp_57 ?_
      refine aw_iload_n dX8_swingUp_60 rfl rfl ?_
      refine aw_iald_n (k := x) (v := (nI (V (12 + x) + y))) sU_3 (by omega) (by decide) (by rw [nrB_2, up_self, pk_us]) dX8_swingUp_61 ?_
      have hn9 := hS1.note9 (q := kindN (V (4 + x))) (p := x) (r := V (36 + kindN (V (4 + x)))) (a := (V (12 + x) + y)) (by rw [e2]; exact hcnt) hkl
      have e : opPush V (nI x) (nI y) = (0, (V (12 + x) + y), pushV V x (V (12 + x) + y)) := by unfold opPush; rw [if_neg (by rw [hok.1]; decide), if_neg (by rw [hok.2.1]; decide), hnx, hny, if_neg (by omega)]
      have ep : pushV V x (V (12 + x) + y) = (if V (36 + kindN (V (4 + x))) < (V (12 + x) + y) then va_up (va_up (va_up (va_up V (20 + x) (V 0)) (12 + x) (V (12 + x) + y)) (36 + kindN (V (4 + x))) (V (12 + x) + y)) (39 + kindN (V (4 + x))) x else (va_up (va_up V (20 + x) (V 0)) (12 + x) (V (12 + x) + y))) := by unfold pushV; rw [if_pos (show V (12 + x) = 0 by omega)]
      rw [e]
      exact aw_iret rfl (by decide) (by decide) dX8_swingUp_62 ⟨rfl, rfl, _, _, rfl, by show SV _ _ (pushV V x (V (12 + x) + y)); rw [ep]; exact hn9⟩
  · refine aw_iconst (v := -1) dX8_swingUp_9 (by decide) ?_
    exact aw_iret rfl (by decide) (by decide) dX8_swingUp_10 ⟨by rw [if_neg c_1], rfl, _, _, rfl, by rw [push_no c_1]; exact hS⟩
