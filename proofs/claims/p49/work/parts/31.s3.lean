def PSo (f : HT) (o : Nat) (q : Nat × Nat × (Nat → Nat)) (n : Nat) : PT := fun r f' n' => r = .inl (some (.int (if q.1 = 0 then nI q.2.1 else -1))) ∧ n' = n ∧ ∃ (J' : Nat → Int32) (B' : Nat → Nat → Int32), f' = sU f o J' B' ∧ SV J' B' q.2.2
theorem SV.amp9 {J : Nat → Int32} {B : Nat → Nat → Int32} {V : Nat → Nat} (h : SV J B V) (hc : V 2 ≤ 8) (hl : V 3 ≤ 6) {x a : Nat} (hx : x < 8) : SV J (va_up B 2 (upd (B 2) x (nI a))) (va_up V (12 + x) a) := by
  have e2 : va_up V (12 + x) a 2 = V 2 := up_ne (by omega)
  have e3 : va_up V (12 + x) a 3 = V 3 := up_ne (by omega)
  have e : ∀ j, j ≠ 2 → va_up B 2 (upd (B 2) x (nI a)) j = B j := fun j hj => up_ne hj
  refine ⟨by rw [e2]; exact h.cnt, by rw [e3]; exact h.leg, by rw [up_ne (by omega)]; exact h.now, by rw [up_ne (by omega)]; exact h.fric, fun k hk => ?_, fun k hk => ?_, fun k hk => ?_, fun k hk => ?_, fun k hk => ?_, fun k hk => ?_, fun k hk => ?_, fun k hk => ?_⟩
  · rw [e2] at hk; rw [e _ (by decide), up_ne (by omega)]; exact h.len k hk
  · rw [e2] at hk; rw [e _ (by decide), up_ne (by omega)]; exact h.per k hk
  · rw [e2] at hk; rw [up_self]
    by_cases z : k = x
    · rw [z, pk_us, up_self]
    · rw [pk_un z, up_ne (by omega)]; exact h.amp k hk
  · rw [e2] at hk; rw [e _ (by decide), up_ne (by omega)]; exact h.start k hk
  · rw [e2] at hk; rw [e _ (by decide), up_ne (by omega)]; exact h.sw k hk
  · rw [e _ (by decide), up_ne (by omega)]; exact h.rec k hk
  · rw [e _ (by decide), up_ne (by omega)]; exact h.hol k hk
  · rw [e3] at hk; rw [e _ (by decide), up_ne (by omega)]; exact h.wish k hk
theorem c3_le {x : Nat} (h : x < 4) : c3 x < 4 := by unfold c3; split <;> omega
theorem c2_le {x : Nat} (h : x < 4) : c2 x < 5 := by unfold c2; split <;> omega
theorem catch_ok {V : Nat → Nat} {v : Int32} (h : c3 (opCatch V v).1 = 0) : isK v (V 2) = true ∧ V (12 + v.toNatClampNeg) ≠ 0 := by
  unfold opCatch at h
  split at h
  · exact absurd (show (1 : Nat) = 0 from h) (by decide)
  · next h1 =>
    split at h
    · exact absurd (show (3 : Nat) = 0 from h) (by decide)
    · next h2 => exact ⟨eq_true_of_ne_false h1, h2⟩
theorem catch_no {V : Nat → Nat} {v : Int32} (h : c3 (opCatch V v).1 ≠ 0) : (opCatch V v).1 ≠ 0 ∧ (opCatch V v).2.2 = V := by
  refine ⟨fun z => h (by rw [z]; rfl), ?_⟩
  unfold opCatch at h ⊢
  split
  · rfl
  · split
    · rfl
    · next h1 h2 => exact absurd (by rw [if_neg h1, if_neg h2]; rfl) h
theorem SV.leg9 {J : Nat → Int32} {B : Nat → Nat → Int32} {V : Nat → Nat} (h : SV J B V) (hc : V 2 ≤ 8) {a : Nat} : SV (va_up J 9 (nI (V 3 + 1))) (va_up B 7 (upd (B 7) (V 3) (nI a))) (va_up (va_up V (42 + V 3) a) 3 (V 3 + 1)) := by
  have e2 : va_up (va_up V (42 + V 3) a) 3 (V 3 + 1) 2 = V 2 := by rw [up_ne (by decide), up_ne (by omega)]
  have e3 : va_up (va_up V (42 + V 3) a) 3 (V 3 + 1) 3 = V 3 + 1 := up_self
  have e : ∀ j, j ≠ 7 → va_up B 7 (upd (B 7) (V 3) (nI a)) j = B j := fun j hj => up_ne hj
  have ev : ∀ j, j ≠ 3 → j < 42 → va_up (va_up V (42 + V 3) a) 3 (V 3 + 1) j = V j := fun j h1 h2 => by rw [up_ne h1, up_ne (by omega)]
  refine ⟨by rw [e2, up_ne (by decide)]; exact h.cnt, by rw [e3, up_self], by rw [ev _ (by decide) (by decide), up_ne (by decide)]; exact h.now, by rw [ev _ (by decide) (by decide), up_ne (by decide)]; exact h.fric, fun k hk => ?_, fun k hk => ?_, fun k hk => ?_, fun k hk => ?_, fun k hk => ?_, fun k hk => ?_, fun k hk => ?_, fun k hk => ?_⟩
  · rw [e2] at hk; rw [e _ (by decide), ev _ (by omega) (by omega)]; exact h.len k hk
  · rw [e2] at hk; rw [e _ (by decide), ev _ (by omega) (by omega)]; exact h.per k hk
  · rw [e2] at hk; rw [e _ (by decide), ev _ (by omega) (by omega)]; exact h.amp k hk
  · rw [e2] at hk; rw [e _ (by decide), ev _ (by omega) (by omega)]; exact h.start k hk
  · rw [e2] at hk; rw [e _ (by decide), ev _ (by omega) (by omega)]; exact h.sw k hk
  · rw [e _ (by decide), ev _ (by omega) (by omega)]; exact h.rec k hk
  · rw [e _ (by decide), ev _ (by omega) (by omega)]; exact h.hol k hk
  · rw [e3] at hk; rw [up_self, up_ne (by omega)]
    by_cases z : k = V 3
    · rw [z, pk_us, up_self]
    · rw [pk_un z, up_ne (by omega)]; exact h.wish k (by omega)
theorem leg_ok {V : Nat → Nat} {v : Int32} (h : c2 (opLeg V v).1 = 0) : inB v (nI 1) (nI 60) = true ∧ V 3 ≠ 6 := by
  unfold opLeg at h
  split at h
  · exact absurd (show (2 : Nat) = 0 from h) (by decide)
  · next h1 =>
    split at h
    · exact absurd (show (3 : Nat) = 0 from h) (by decide)
    · next h2 => exact ⟨eq_true_of_ne_false h1, h2⟩
theorem leg_no {V : Nat → Nat} {v : Int32} (h : c2 (opLeg V v).1 ≠ 0) : (opLeg V v).1 ≠ 0 ∧ (opLeg V v).2.2 = V := by
  refine ⟨fun z => h (by rw [z]; rfl), ?_⟩
  unfold opLeg at h ⊢
  split
  · rfl
  · split
    · rfl
    · next h1 h2 => exact absurd (by rw [if_neg h1, if_neg h2]; rfl) h
theorem SV.fric9 {J : Nat → Int32} {B : Nat → Nat → Int32} {V : Nat → Nat} (h : SV J B V) {a : Nat} : SV (va_up J 11 (nI a)) B (va_up V 1 a) := by
  have ev : ∀ j, j ≠ 1 → va_up V 1 a j = V j := fun j h1 => up_ne h1
  refine ⟨by rw [ev _ (by decide), up_ne (by decide)]; exact h.cnt, by rw [ev _ (by decide), up_ne (by decide)]; exact h.leg, by rw [ev _ (by decide), up_ne (by decide)]; exact h.now, by rw [up_self, up_self], fun k hk => ?_, fun k hk => ?_, fun k hk => ?_, fun k hk => ?_, fun k hk => ?_, fun k hk => ?_, fun k hk => ?_, fun k hk => ?_⟩
  · rw [ev _ (by decide)] at hk; rw [ev _ (by omega)]; exact h.len k hk
  · rw [ev _ (by decide)] at hk; rw [ev _ (by omega)]; exact h.per k hk
  · rw [ev _ (by decide)] at hk; rw [ev _ (by omega)]; exact h.amp k hk
  · rw [ev _ (by decide)] at hk; rw [ev _ (by omega)]; exact h.start k hk
  · rw [ev _ (by decide)] at hk; rw [ev _ (by omega)]; exact h.sw k hk
  · rw [ev _ (by omega)]; exact h.rec k hk
  · rw [ev _ (by omega)]; exact h.hol k hk
  · rw [ev _ (by decide)] at hk; rw [ev _ (by omega)]; exact h.wish k hk
theorem fric_ok {V : Nat → Nat} {v : Int32} (h : c2 (opFric V v).1 = 0) : inB v (nI 0) (nI 30) = true := by
  unfold opFric at h
  split at h
  · exact absurd (show (2 : Nat) = 0 from h) (by decide)
  · next h1 => exact eq_true_of_ne_false h1
theorem fric_no {V : Nat → Nat} {v : Int32} (h : c2 (opFric V v).1 ≠ 0) : (opFric V v).1 ≠ 0 ∧ (opFric V v).2.2 = V := by
  refine ⟨fun z => h (by rw [z]; rfl), ?_⟩
  unfold opFric at h ⊢
  split
  · rfl
  · next h1 => exact absurd (by rw [if_neg h1]; rfl) h
abbrev MX8_stop : MT := (RX8, cX8_stop, 3, (some .int), [], "stop")
set_option maxHeartbeats 4000000 in
theorem s_stop {l : Launch} {G : GT} {n : Nat} {f : HT} {o : Nat} {J : Nat → Int32} {B : Nat → Nat → Int32} {K : Nat} {V : Nat → Nat} (hS : SV J B V) (hB : VB K V) (v : Int32) : AM l G yX8_stop (.code yX8_stop cX8_stop 3 (some .int)) 2 120 0 0 [.ref o, .int v] (sU f o J B) n (PSo f o (opCatch V v) n) := by
  refine aw_enter (M := MX8_stop) rfl rfl (by decide +kernel) rfl (Nat.le_of_ble_eq_true rfl) ?_
  have hcnt := VB.cnt hB
  have hleg := VB.legs hB
  have hfr := VB.fric hB
  have hnow := VB.now hB
  have hkk := VB.kk hB
  have hq4 := c3_le (opCatch_4 V v)
  show AW l G MX8_stop 2 120 0 0 _ n 0 0 0 [(0, .ref o), (1, .int v)] [] _ n
  refine aw_aload_n dX8_stop_0 rfl rfl ?_
  refine aw_iload_n dX8_stop_1 rfl rfl ?_
  refine aw_vI (as := [Value.int v]) (rest := []) mV_X8_refusalToStop (s_rfStop hS hB v) ml_X8_88 sU_0 rfl dX8_stop_2 rfl rfl (by decide) (Nat.le_of_ble_eq_true rfl) (by decide) ?_
  refine aw_if_eq_n (by omega) (tgt := 10) dX8_stop_5 (by decide) (fun c_1 => ?_) (fun c_1 => ?_)
  · have hok := catch_ok c_1
    obtain ⟨x, hx1, rfl⟩ := isK_of (c := V 2) (by omega) hok.1
    have hnx := nIc (show x < 2 ^ 31 by omega)
    refine aw_aload_n dX8_stop_10 rfl rfl ?_
    refine aw_get (v := .ref (o + 3)) fl_X8_18 sU_0 rfl dX8_stop_11 ?_
    refine aw_iload_n dX8_stop_14 rfl rfl ?_
    refine aw_iald_n (k := x) (v := (nI (V (12 + x)))) sU_3 (by omega) (by decide) (hS.amp _ (by omega)) dX8_stop_15 ?_
    refine aw_istore_n (L' := [(2, .int (nI (V (12 + x)))), (0, .ref o), (1, .int (nI x))]) dX8_stop_16 rfl (by decide) rfl ?_
    refine aw_aload_n dX8_stop_17 rfl rfl ?_
    refine aw_get (v := .ref (o + 3)) fl_X8_18 sU_0 rfl dX8_stop_18 ?_
    refine aw_iload_n dX8_stop_21 rfl rfl ?_
    refine aw_iconst_n 0 dX8_stop_22 (by decide) ?_
    refine aw_iast_n (k := x) sU_3 (by omega) (by decide) dX8_stop_23 ?_
    rw [sU_A2]
    refine aw_iload_n dX8_stop_24 rfl rfl ?_
    have e : opCatch V (nI x) = (0, V (12 + x), va_up V (12 + x) 0) := by unfold opCatch; rw [if_neg (by rw [hok.1]; decide), if_neg hok.2, hnx]
    rw [e]
    exact aw_iret rfl (by decide) (by decide) dX8_stop_25 ⟨rfl, rfl, _, _, rfl, hS.amp9 hcnt hleg (by omega)⟩
  · refine aw_iconst (v := -1) dX8_stop_8 (by decide) ?_
    exact aw_iret rfl (by decide) (by decide) dX8_stop_9 ⟨by rw [if_neg (catch_no c_1).1], rfl, _, _, rfl, by rw [(catch_no c_1).2]; exact hS⟩
abbrev MX8_appendLeg : MT := (RX8, cX8_appendLeg, 2, (some .int), [], "appendLeg")
set_option maxHeartbeats 4000000 in
theorem s_appendLeg {l : Launch} {G : GT} {n : Nat} {f : HT} {o : Nat} {J : Nat → Int32} {B : Nat → Nat → Int32} {K : Nat} {V : Nat → Nat} (hS : SV J B V) (hB : VB K V) (v : Int32) : AM l G yX8_appendLeg (.code yX8_appendLeg cX8_appendLeg 2 (some .int)) 1 60 0 0 [.ref o, .int v] (sU f o J B) n (PSo f o (opLeg V v) n) := by
  refine aw_enter (M := MX8_appendLeg) rfl rfl (by decide +kernel) rfl (Nat.le_of_ble_eq_true rfl) ?_
  have hcnt := VB.cnt hB
  have hleg := VB.legs hB
  have hfr := VB.fric hB
  have hnow := VB.now hB
  have hkk := VB.kk hB
  have hq4 := c2_le (opLeg_4 V v)
  show AW l G MX8_appendLeg 1 60 0 0 _ n 0 0 0 [(0, .ref o), (1, .int v)] [] _ n
  refine aw_aload_n dX8_appendLeg_0 rfl rfl ?_
  refine aw_iload_n dX8_appendLeg_1 rfl rfl ?_
  refine aw_vI (as := [Value.int v]) (rest := []) mV_X8_refusalToAppendLeg (s_rfLeg hS hB v) ml_X8_116 sU_0 rfl dX8_appendLeg_2 rfl rfl (by decide) (Nat.le_of_ble_eq_true rfl) (by decide) ?_
  refine aw_if_eq_n (by omega) (tgt := 10) dX8_appendLeg_5 (by decide) (fun c_1 => ?_) (fun c_1 => ?_)
  · have hok := leg_ok c_1
    obtain ⟨x, hx0, hx1, rfl⟩ := inB_of (a := 1) (b := 60) (by decide) (by decide) hok.1
    have hnx := nIc (show x < 2 ^ 31 by omega)
    have h36 := hok.2
    refine aw_aload_n dX8_appendLeg_10 rfl rfl ?_
    refine aw_get (v := .ref (o + 8)) fl_X8_33 sU_0 rfl dX8_appendLeg_11 ?_
    refine aw_aload_n dX8_appendLeg_14 rfl rfl ?_
    refine aw_get (v := .int (nI (V 3))) fl_X8_40 sU_0 (congrArg (fun z => some (Value.int z)) hS.leg) dX8_appendLeg_15 ?_
    refine aw_iload_n dX8_appendLeg_18 rfl rfl ?_
    refine aw_iast_n (k := V 3) sU_8 (by omega) (by decide) dX8_appendLeg_19 ?_
    rw [sU_A7]
    refine aw_aload_n dX8_appendLeg_20 rfl rfl ?_
    refine aw_dup dX8_appendLeg_21 rfl ?_
    refine aw_get (v := .int (nI (V 3))) fl_X8_40 sU_0 (congrArg (fun z => some (Value.int z)) hS.leg) dX8_appendLeg_22 ?_
    refine aw_iconst_n 1 dX8_appendLeg_25 (by decide) ?_
    refine aw_iadd_n dX8_appendLeg_26 ?_
    refine aw_sput fp_X8_40 (by decide) rfl rfl dX8_appendLeg_27 ?_
    refine aw_aload_n dX8_appendLeg_30 rfl rfl ?_
    refine aw_get (v := .int (nI ((V 3) + 1))) fl_X8_40 sU_0 rfl dX8_appendLeg_31 ?_
    have e : opLeg V (nI x) = (0, V 3 + 1, va_up (va_up V (42 + V 3) x) 3 (V 3 + 1)) := by unfold opLeg; rw [if_neg (by rw [hok.1]; decide), if_neg hok.2, hnx]
    rw [e]
    exact aw_iret rfl (by decide) (by decide) dX8_appendLeg_34 ⟨rfl, rfl, _, _, rfl, hS.leg9 hcnt⟩
  · refine aw_iconst (v := -1) dX8_appendLeg_8 (by decide) ?_
    exact aw_iret rfl (by decide) (by decide) dX8_appendLeg_9 ⟨by rw [if_neg (leg_no c_1).1], rfl, _, _, rfl, by rw [(leg_no c_1).2]; exact hS⟩
abbrev MX8_changeFriction : MT := (RX8, cX8_changeFriction, 3, (some .int), [], "changeFriction")
set_option maxHeartbeats 4000000 in
theorem s_changeFriction {l : Launch} {G : GT} {n : Nat} {f : HT} {o : Nat} {J : Nat → Int32} {B : Nat → Nat → Int32} {K : Nat} {V : Nat → Nat} (hS : SV J B V) (hB : VB K V) (v : Int32) : AM l G yX8_changeFriction (.code yX8_changeFriction cX8_changeFriction 3 (some .int)) 1 60 0 0 [.ref o, .int v] (sU f o J B) n (PSo f o (opFric V v) n) := by
  refine aw_enter (M := MX8_changeFriction) rfl rfl (by decide +kernel) rfl (Nat.le_of_ble_eq_true rfl) ?_
  have hcnt := VB.cnt hB
  have hleg := VB.legs hB
  have hfr := VB.fric hB
  have hnow := VB.now hB
  have hkk := VB.kk hB
  have hq4 := c2_le (opFric_4 V v)
  show AW l G MX8_changeFriction 1 60 0 0 _ n 0 0 0 [(0, .ref o), (1, .int v)] [] _ n
  refine aw_aload_n dX8_changeFriction_0 rfl rfl ?_
  refine aw_iload_n dX8_changeFriction_1 rfl rfl ?_
  refine aw_vI (as := [Value.int v]) (rest := []) mV_X8_refusalOfFriction (s_rfFric hS hB v) ml_X8_91 sU_0 rfl dX8_changeFriction_2 rfl rfl (by decide) (Nat.le_of_ble_eq_true rfl) (by decide) ?_
  refine aw_if_eq_n (by omega) (tgt := 10) dX8_changeFriction_5 (by decide) (fun c_1 => ?_) (fun c_1 => ?_)
  · have hok := fric_ok c_1
    obtain ⟨x, hx0, hx1, rfl⟩ := inB_of (a := 0) (b := 30) (by decide) (by decide) hok
    have hnx := nIc (show x < 2 ^ 31 by omega)
    refine aw_aload_n dX8_changeFriction_10 rfl rfl ?_
    refine aw_get (v := .int (nI (V 1))) fl_X8_46 sU_0 (congrArg (fun z => some (Value.int z)) hS.fric) dX8_changeFriction_11 ?_
    refine aw_istore_n (L' := [(2, .int (nI (V 1))), (0, .ref o), (1, .int (nI x))]) dX8_changeFriction_14 rfl (by decide) rfl ?_
    refine aw_aload_n dX8_changeFriction_15 rfl rfl ?_
    refine aw_iload_n dX8_changeFriction_16 rfl rfl ?_
    refine aw_sput fp_X8_46 (by decide) rfl rfl dX8_changeFriction_17 ?_
    refine aw_iload_n dX8_changeFriction_20 rfl rfl ?_
    have e : opFric V (nI x) = (0, V 1, va_up V 1 x) := by unfold opFric; rw [if_neg (by rw [hok]; decide), hnx]
    rw [e]
    exact aw_iret rfl (by decide) (by decide) dX8_changeFriction_21 ⟨rfl, rfl, _, _, rfl, hS.fric9⟩
  · refine aw_iconst (v := -1) dX8_changeFriction_8 (by decide) ?_
    exact aw_iret rfl (by decide) (by decide) dX8_changeFriction_9 ⟨by rw [if_neg (fric_no c_1).1], rfl, _, _, rfl, by rw [(fric_no c_1).2]; exact hS⟩
