def shB (g : Nat → Int32) (k i : Nat) : Nat → Int32 := fun j => if k ≤ j ∧ j < i then g (j + 1) else g j
theorem shB_0 {g : Nat → Int32} {k : Nat} : shB g k k = g := by
  funext j
  unfold shB
  rw [if_neg (by omega)]
theorem shB_hi {g : Nat → Int32} {k i j : Nat} (h : i ≤ j) : shB g k i j = g j := by
  unfold shB
  rw [if_neg (by omega)]
theorem shB_s {g : Nat → Int32} {k i : Nat} (h : k ≤ i) : upd (shB g k i) i (g (i + 1)) = shB g k (i + 1) := by
  funext j
  by_cases z : j = i
  · rw [z, pk_us]; unfold shB; rw [if_pos (by omega)]
  · rw [pk_un z]; unfold shB
    by_cases y : k ≤ j ∧ j < i
    · rw [if_pos y, if_pos (by omega)]
    · rw [if_neg y, if_neg (by omega)]
theorem SV.cut9 {J : Nat → Int32} {B : Nat → Nat → Int32} {V : Nat → Nat} (h : SV J B V) (hl : V 3 ≤ 6) (hc : V 2 ≤ 8) {k : Nat} (hk : k < V 3) : SV (va_up J 9 (nI (V 3 - 1))) (va_up B 7 (shB (B 7) k (V 3 - 1))) (va_up (cutV V k 5) 3 (V 3 - 1)) := by
  have ev : ∀ j, j ≠ 3 → j < 42 → va_up (cutV V k 5) 3 (V 3 - 1) j = V j := fun j h1 h2 => by rw [up_ne h1]; unfold cutV; rw [if_neg (by omega)]
  have e : ∀ j, j ≠ 7 → va_up B 7 (shB (B 7) k (V 3 - 1)) j = B j := fun j hj => up_ne hj
  have e3 : va_up (cutV V k 5) 3 (V 3 - 1) 3 = V 3 - 1 := up_self
  refine ⟨by rw [ev _ (by decide) (by decide), up_ne (by decide)]; exact h.cnt, by rw [e3, up_self], by rw [ev _ (by decide) (by decide), up_ne (by decide)]; exact h.now, by rw [ev _ (by decide) (by decide), up_ne (by decide)]; exact h.fric, fun i hi => ?_, fun i hi => ?_, fun i hi => ?_, fun i hi => ?_, fun i hi => ?_, fun i hi => ?_, fun i hi => ?_, fun i hi => ?_⟩
  · rw [ev _ (by decide) (by decide)] at hi; rw [e _ (by decide), ev _ (by omega) (by omega)]; exact h.len i hi
  · rw [ev _ (by decide) (by decide)] at hi; rw [e _ (by decide), ev _ (by omega) (by omega)]; exact h.per i hi
  · rw [ev _ (by decide) (by decide)] at hi; rw [e _ (by decide), ev _ (by omega) (by omega)]; exact h.amp i hi
  · rw [ev _ (by decide) (by decide)] at hi; rw [e _ (by decide), ev _ (by omega) (by omega)]; exact h.start i hi
  · rw [ev _ (by decide) (by decide)] at hi; rw [e _ (by decide), ev _ (by omega) (by omega)]; exact h.sw i hi
  · rw [e _ (by decide), ev _ (by omega) (by omega)]; exact h.rec i hi
  · rw [e _ (by decide), ev _ (by omega) (by omega)]; exact h.hol i hi
  · rw [e3] at hi
    rw [up_self, up_ne (by omega)]
    unfold shB cutV
    by_cases z : k ≤ i
    · rw [if_pos (by omega), if_pos (by omega), show 42 + i + 1 = 42 + (i + 1) by omega]; exact h.wish _ (by omega)
    · rw [if_neg (by omega), if_neg (by omega)]; exact h.wish _ (by omega)
theorem cut_ok {V : Nat → Nat} {v : Int32} (h : (opCut V v).1 = 0) : isK v (V 3) = true := by
  unfold opCut at h
  split at h
  · exact absurd (show (1 : Nat) = 0 from h) (by decide)
  · next h1 => exact eq_true_of_ne_false h1
theorem cut_no {V : Nat → Nat} {v : Int32} (h : (opCut V v).1 ≠ 0) : (opCut V v).2.2 = V := by
  unfold opCut at h ⊢
  split
  · rfl
  · next h1 => exact absurd (by rw [if_neg h1]) h
def nrB (B : Nat → Nat → Int32) (q p r a : Nat) : Nat → Nat → Int32 := if r < a then va_up (va_up B 5 (upd (B 5) q (nI a))) 6 (upd (B 6) q (nI p)) else B
theorem VB.amp99 {K : Nat} {V : Nat → Nat} {k a : Nat} (h : VB K V) (hk : k < V 2) (ha : a ≤ 60) : VB K (va_up V (12 + k) a) := by
  have hc := h.cnt
  refine VB.by9 h (up_ne (by omega)) (by rw [up_ne (by omega)]; exact h.fric) (up_ne (by omega)) (by rw [up_ne (by omega)]; exact h.legs) (fun i hi => up_ne (by omega)) (fun i hi => ?_) (fun i hi => Or.inl (up_ne (by omega))) (fun i hi => up_ne (by omega)) (fun i hi => by rw [up_ne (by omega), up_ne (by omega)]; exact ⟨h.rec hi, h.hol hi⟩) (fun i hi => by rw [up_ne (by omega)]; exact h.wish hi)
  by_cases z : i = k
  · subst z; rw [up_self]; exact Or.inr ⟨hk, ha⟩
  · exact Or.inl (up_ne (by omega))
theorem VB.start99 {K : Nat} {V : Nat → Nat} {k : Nat} (h : VB K V) (hk : k < V 2) : VB K (va_up V (20 + k) (V 0)) := by
  have hc := h.cnt
  refine VB.by9 h (up_ne (by omega)) (by rw [up_ne (by omega)]; exact h.fric) (up_ne (by omega)) (by rw [up_ne (by omega)]; exact h.legs) (fun i hi => up_ne (by omega)) (fun i hi => Or.inl (up_ne (by omega))) (fun i hi => ?_) (fun i hi => up_ne (by omega)) (fun i hi => by rw [up_ne (by omega), up_ne (by omega)]; exact ⟨h.rec hi, h.hol hi⟩) (fun i hi => by rw [up_ne (by omega)]; exact h.wish hi)
  by_cases z : i = k
  · subst z; rw [up_self]; exact Or.inr ⟨hk, Nat.le_refl _⟩
  · exact Or.inl (up_ne (by omega))
theorem SV.start9 {J : Nat → Int32} {B : Nat → Nat → Int32} {V : Nat → Nat} (h : SV J B V) (hc : V 2 ≤ 8) (hl : V 3 ≤ 6) {x a : Nat} (hx : x < 8) : SV J (va_up B 3 (upd (B 3) x (nI a))) (va_up V (20 + x) a) := by
  have e2 : va_up V (20 + x) a 2 = V 2 := up_ne (by omega)
  have e3 : va_up V (20 + x) a 3 = V 3 := up_ne (by omega)
  have e : ∀ j, j ≠ 3 → va_up B 3 (upd (B 3) x (nI a)) j = B j := fun j hj => up_ne hj
  refine ⟨by rw [e2]; exact h.cnt, by rw [e3]; exact h.leg, by rw [up_ne (by omega)]; exact h.now, by rw [up_ne (by omega)]; exact h.fric, fun k hk => ?_, fun k hk => ?_, fun k hk => ?_, fun k hk => ?_, fun k hk => ?_, fun k hk => ?_, fun k hk => ?_, fun k hk => ?_⟩
  · rw [e2] at hk; rw [e _ (by decide), up_ne (by omega)]; exact h.len k hk
  · rw [e2] at hk; rw [e _ (by decide), up_ne (by omega)]; exact h.per k hk
  · rw [e2] at hk; rw [e _ (by decide), up_ne (by omega)]; exact h.amp k hk
  · rw [e2] at hk; rw [up_self]
    by_cases z : k = x
    · rw [z, pk_us, up_self]
    · rw [pk_un z, up_ne (by omega)]; exact h.start k hk
  · rw [e2] at hk; rw [e _ (by decide), up_ne (by omega)]; exact h.sw k hk
  · rw [e _ (by decide), up_ne (by omega)]; exact h.rec k hk
  · rw [e _ (by decide), up_ne (by omega)]; exact h.hol k hk
  · rw [e3] at hk; rw [e _ (by decide), up_ne (by omega)]; exact h.wish k hk
theorem SV.note9 {J : Nat → Int32} {B : Nat → Nat → Int32} {V : Nat → Nat} (h : SV J B V) (hc : V 2 ≤ 8) {q p r a : Nat} (hq : q < 3) : SV J (nrB B q p r a) (if r < a then va_up (va_up V (36 + q) a) (39 + q) p else V) := by
  unfold nrB
  split
  · have ev : ∀ j, j ≠ 36 + q → j ≠ 39 + q → va_up (va_up V (36 + q) a) (39 + q) p j = V j := fun j h1 h2 => by rw [up_ne h2, up_ne h1]
    have e : ∀ j, j ≠ 5 → j ≠ 6 → va_up (va_up B 5 (upd (B 5) q (nI a))) 6 (upd (B 6) q (nI p)) j = B j := fun j h1 h2 => by rw [up_ne h2, up_ne h1]
    have hh := h
    refine ⟨by rw [ev _ (by omega) (by omega)]; exact h.cnt, by rw [ev _ (by omega) (by omega)]; exact h.leg, by rw [ev _ (by omega) (by omega)]; exact h.now, by rw [ev _ (by omega) (by omega)]; exact h.fric, fun k hk => ?_, fun k hk => ?_, fun k hk => ?_, fun k hk => ?_, fun k hk => ?_, fun k hk => ?_, fun k hk => ?_, fun k hk => ?_⟩
    · rw [ev _ (by omega) (by omega)] at hk; rw [e _ (by decide) (by decide), ev _ (by omega) (by omega)]; exact h.len k hk
    · rw [ev _ (by omega) (by omega)] at hk; rw [e _ (by decide) (by decide), ev _ (by omega) (by omega)]; exact h.per k hk
    · rw [ev _ (by omega) (by omega)] at hk; rw [e _ (by decide) (by decide), ev _ (by omega) (by omega)]; exact h.amp k hk
    · rw [ev _ (by omega) (by omega)] at hk; rw [e _ (by decide) (by decide), ev _ (by omega) (by omega)]; exact h.start k hk
    · rw [ev _ (by omega) (by omega)] at hk; rw [e _ (by decide) (by decide), ev _ (by omega) (by omega)]; exact h.sw k hk
    · rw [up_ne (by decide), up_self, up_ne (by omega)]
      by_cases z : k = q
      · rw [z, pk_us, up_self]
      · rw [pk_un z, up_ne (by omega)]; exact h.rec k hk
    · rw [up_self]
      by_cases z : k = q
      · rw [z, pk_us, up_self]
      · rw [pk_un z, ev _ (by omega) (by omega)]; exact h.hol k hk
    · rw [ev _ (by omega) (by omega)] at hk; rw [e _ (by decide) (by decide), ev _ (by omega) (by omega)]; exact h.wish k hk
  · exact h
abbrev MX8_dropLeg : MT := (RX8, cX8_dropLeg, 4, (some .int), [], "dropLeg")
set_option maxHeartbeats 4000000 in
theorem s_drop_loop {l : Launch} {G : GT} {n : Nat} {f : HT} {o : Nat} {J : Nat → Int32} {B : Nat → Nat → Int32} {K : Nat} {V : Nat → Nat} (hS : SV J B V) (hB : VB K V) {k : Nat} (hk : k < V 3) : ∀ (N : Nat) (i : Nat), (V 3 - 1 - i = N) → (i ≤ V 3 - 1) → (k ≤ i) → AW l G MX8_dropLeg 2 120 0 0 (PSo f o (0, V (42 + k), va_up (cutV V k 5) 3 (V 3 - 1)) n) n 0 0 29 [(3, .int (nI i)), (2, .int (nI (V (42 + k)))), (0, .ref o), (1, .int (nI k))] [] (sU f o (va_up J 9 (nI (V 3 - 1))) (va_up B 7 (shB (B 7) k i))) n := by
  intro N
  induction N using Nat.strongRecOn with
  | ind N ih =>
    intro i hN hi hki
    have hcnt := VB.cnt hB
    have hleg := VB.legs hB
    have hfr := VB.fric hB
    have hnow := VB.now hB
    have hkk := VB.kk hB
    refine aw_iload_n dX8_dropLeg_29 rfl rfl ?_
    refine aw_aload_n dX8_dropLeg_30 rfl rfl ?_
    refine aw_get (v := .int (nI (V 3 - 1))) fl_X8_40 sU_0 rfl dX8_dropLeg_31 ?_
    refine aw_icmp_ge_n (by omega) (by omega) (tgt := 57) dX8_dropLeg_34 (by decide) (fun c_1 => ?_) (fun c_1 => ?_)
    · refine aw_iload_n dX8_dropLeg_57 rfl rfl ?_
      rw [show i = V 3 - 1 by omega]
      exact aw_iret rfl (by decide) (by decide) dX8_dropLeg_58 ⟨rfl, rfl, _, _, rfl, hS.cut9 hleg hcnt hk⟩
    · refine aw_aload_n dX8_dropLeg_37 rfl rfl ?_
      refine aw_get (v := .ref (o + 8)) fl_X8_33 sU_0 rfl dX8_dropLeg_38 ?_
      refine aw_iload_n dX8_dropLeg_41 rfl rfl ?_
      refine aw_aload_n dX8_dropLeg_42 rfl rfl ?_
      refine aw_get (v := .ref (o + 8)) fl_X8_33 sU_0 rfl dX8_dropLeg_43 ?_
      refine aw_iload_n dX8_dropLeg_46 rfl rfl ?_
      refine aw_iconst_n 1 dX8_dropLeg_47 (by decide) ?_
      refine aw_iadd_n dX8_dropLeg_48 ?_
      refine aw_iald_n (k := i + 1) (v := (B 7 (i + 1))) sU_8 (by omega) (by decide) ((by rw [up_self]; exact shB_hi (by omega))) dX8_dropLeg_49 ?_
      refine aw_iast_n (k := i) sU_8 (by omega) (by decide) dX8_dropLeg_50 ?_
      rw [sU_A7]
      refine aw_iinc_n (L' := [(3, .int (nI (i + 1))), (2, .int (nI (V (42 + k)))), (0, .ref o), (1, .int (nI k))]) 1 dX8_dropLeg_51 rfl (by decide) (by decide) rfl ?_
      refine aw_goto (tgt := 29) dX8_dropLeg_54 (by decide) ?_
      rw [up_self, shB_s hki, bx_uu]
      refine aw_sub [(3, .int (nI (i + 1))), (2, .int (nI (V (42 + k)))), (0, .ref o), (1, .int (nI k))] (by simp) ?_
      exact ih _ (by omega) (i + 1) rfl (by omega) (by omega)
set_option maxHeartbeats 4000000 in
theorem s_dropLeg {l : Launch} {G : GT} {n : Nat} {f : HT} {o : Nat} {J : Nat → Int32} {B : Nat → Nat → Int32} {K : Nat} {V : Nat → Nat} (hS : SV J B V) (hB : VB K V) (v : Int32) : AM l G yX8_dropLeg (.code yX8_dropLeg cX8_dropLeg 4 (some .int)) 2 120 0 0 [.ref o, .int v] (sU f o J B) n (PSo f o (opCut V v) n) := by
  refine aw_enter (M := MX8_dropLeg) rfl rfl (by decide +kernel) rfl (Nat.le_of_ble_eq_true rfl) ?_
  have hcnt := VB.cnt hB
  have hleg := VB.legs hB
  have hfr := VB.fric hB
  have hnow := VB.now hB
  have hkk := VB.kk hB
  have hq4 := opCut_4 V v
  show AW l G MX8_dropLeg 2 120 0 0 _ n 0 0 0 [(0, .ref o), (1, .int v)] [] _ n
  refine aw_aload_n dX8_dropLeg_0 rfl rfl ?_
  refine aw_iload_n dX8_dropLeg_1 rfl rfl ?_
  refine aw_vI (as := [Value.int v]) (rest := []) mV_X8_refusalToDropLeg (s_rfCut hS hB v) ml_X8_119 sU_0 rfl dX8_dropLeg_2 rfl rfl (by decide) (Nat.le_of_ble_eq_true rfl) (by decide) ?_
  refine aw_if_eq_n (by omega) (tgt := 10) dX8_dropLeg_5 (by decide) (fun c_1 => ?_) (fun c_1 => ?_)
  · have hok := cut_ok c_1
    obtain ⟨x, hx1, rfl⟩ := isK_of (c := V 3) (by omega) hok
    have hnx := nIc (show x < 2 ^ 31 by omega)
    refine aw_aload_n dX8_dropLeg_10 rfl rfl ?_
    refine aw_get (v := .ref (o + 8)) fl_X8_33 sU_0 rfl dX8_dropLeg_11 ?_
    refine aw_iload_n dX8_dropLeg_14 rfl rfl ?_
    refine aw_iald_n (k := x) (v := (nI (V (42 + x)))) sU_8 (by omega) (by decide) (hS.wish _ (by omega)) dX8_dropLeg_15 ?_
    refine aw_istore_n (L' := [(2, .int (nI (V (42 + x)))), (0, .ref o), (1, .int (nI x))]) dX8_dropLeg_16 rfl (by decide) rfl ?_
    refine aw_aload_n dX8_dropLeg_17 rfl rfl ?_
    refine aw_dup dX8_dropLeg_18 rfl ?_
    refine aw_get (v := .int (nI (V 3))) fl_X8_40 sU_0 (congrArg (fun z => some (Value.int z)) hS.leg) dX8_dropLeg_19 ?_
    refine aw_iconst_n 1 dX8_dropLeg_22 (by decide) ?_
    refine aw_isub_n (by omega) dX8_dropLeg_23 ?_
    refine aw_sput fp_X8_40 (by decide) rfl rfl dX8_dropLeg_24 ?_
    refine aw_iload_n dX8_dropLeg_27 rfl rfl ?_
    refine aw_istore_n (L' := [(3, .int (nI x)), (2, .int (nI (V (42 + x)))), (0, .ref o), (1, .int (nI x))]) dX8_dropLeg_28 rfl (by decide) rfl ?_
    have e : opCut V (nI x) = (0, V (42 + x), va_up (cutV V x 5) 3 (V 3 - 1)) := by unfold opCut; rw [if_neg (by rw [hok]; decide), hnx]
    rw [e]
    have h := s_drop_loop (l := l) (G := G) (n := n) (f := f) (o := o) hS hB hx1 _ x rfl (by omega) (Nat.le_refl _)
    rw [shB_0, up_A] at h
    exact aw_sub [(3, .int (nI x)), (2, .int (nI (V (42 + x)))), (0, .ref o), (1, .int (nI x))] (by simp) h
  · refine aw_iconst (v := -1) dX8_dropLeg_8 (by decide) ?_
    exact aw_iret rfl (by decide) (by decide) dX8_dropLeg_9 ⟨by rw [if_neg c_1], rfl, _, _, rfl, by rw [cut_no c_1]; exact hS⟩
abbrev MX8_refusalToSwingUp : MT := (RX8, cX8_refusalToSwingUp, 3, (some .int), [], "refusalToSwingUp")
set_option maxHeartbeats 4000000 in
theorem s_rfPush {l : Launch} {G : GT} {n : Nat} {f : HT} {o : Nat} {J : Nat → Int32} {B : Nat → Nat → Int32} {K : Nat} {V : Nat → Nat} (hS : SV J B V) (hB : VB K V) (v d : Int32) : AM l G yX8_refusalToSwingUp (.code yX8_refusalToSwingUp cX8_refusalToSwingUp 3 (some .int)) 1 60 0 0 [.ref o, .int v, .int d] (sU f o J B) n (rI (nI (opPush V v d).1) (sU f o J B) n) := by
  refine aw_enter (M := MX8_refusalToSwingUp) rfl rfl (by decide +kernel) rfl (Nat.le_of_ble_eq_true rfl) ?_
  have hcnt := VB.cnt hB
  have hleg := VB.legs hB
  have hfr := VB.fric hB
  have hnow := VB.now hB
  have hkk := VB.kk hB
  show AW l G MX8_refusalToSwingUp 1 60 0 0 _ n 0 0 0 [(0, .ref o), (1, .int v), (2, .int d)] [] _ n
  refine aw_aload_n dX8_refusalToSwingUp_0 rfl rfl ?_
  refine aw_iload_n dX8_refusalToSwingUp_1 rfl rfl ?_
  refine aw_vI (as := [Value.int v]) (rest := []) mV_X8_hasPendulum (s_has hS hB v) ml_X8_55 sU_0 rfl dX8_refusalToSwingUp_2 rfl rfl (by decide) (Nat.le_of_ble_eq_true rfl) (by decide) ?_
  refine aw_if_ne_b (tgt := 10) dX8_refusalToSwingUp_5 (by decide) (fun c_1 => ?_) (fun c_1 => ?_)
  · obtain ⟨x, hx1, rfl⟩ := isK_of (by omega) c_1
    have hax := VB.amp hB (k := x) (by omega)
    have hnx := nIc (show x < 2 ^ 31 by omega)
    refine aw_iload_n dX8_refusalToSwingUp_10 rfl rfl ?_
    refine aw_iconst_n 1 dX8_refusalToSwingUp_11 (by decide) ?_
    refine aw_icmp_lt (tgt := 21) dX8_refusalToSwingUp_12 (by decide) (fun c_2 => ?_) (fun c_2 => ?_)
    · refine aw_iconst_n 2 dX8_refusalToSwingUp_21 (by decide) ?_
      have e : inB d (nI 1) (nI 60) = false := by unfold inB; rw [← Bool.decide_and]; apply decide_eq_false; simp only [Int32.le_iff_toInt_le, Int32.lt_iff_toInt_lt, Int32.toInt_zero, nI_toInt (show 1 < 2 ^ 31 by decide), nI_toInt (show 60 < 2 ^ 31 by decide)] at *; omega
      exact aw_iret rfl (by decide) (by decide) dX8_refusalToSwingUp_22 (rI_of (by simp [opPush, c_1, e]))
    · refine aw_iload_n dX8_refusalToSwingUp_15 rfl rfl ?_
      refine aw_bipush_n 60 dX8_refusalToSwingUp_16 (by decide) ?_
      refine aw_icmp_le (tgt := 23) dX8_refusalToSwingUp_18 (by decide) (fun c_3 => ?_) (fun c_3 => ?_)
      · have e : inB d (nI 1) (nI 60) = true := by unfold inB; rw [← Bool.decide_and]; apply decide_eq_true; simp only [Int32.le_iff_toInt_le, Int32.lt_iff_toInt_lt, Int32.toInt_zero, nI_toInt (show 1 < 2 ^ 31 by decide), nI_toInt (show 60 < 2 ^ 31 by decide)] at *; omega
        obtain ⟨y, hy0, hy1, rfl⟩ := inB_of (a := 1) (b := 60) (by decide) (by decide) e
        have hny := nIc (show y < 2 ^ 31 by omega)
        refine aw_aload_n dX8_refusalToSwingUp_23 rfl rfl ?_
        refine aw_get (v := .ref (o + 3)) fl_X8_18 sU_0 rfl dX8_refusalToSwingUp_24 ?_
        refine aw_iload_n dX8_refusalToSwingUp_27 rfl rfl ?_
        refine aw_iald_n (k := x) (v := (nI (V (12 + x)))) sU_3 (by omega) (by decide) (hS.amp _ (by omega)) dX8_refusalToSwingUp_28 ?_
        refine aw_iload_n dX8_refusalToSwingUp_29 rfl rfl ?_
        refine aw_iadd_n dX8_refusalToSwingUp_30 ?_
        refine aw_bipush_n 60 dX8_refusalToSwingUp_31 (by decide) ?_
        refine aw_icmp_le_n (by omega) (by omega) (tgt := 40) dX8_refusalToSwingUp_33 (by decide) (fun c_4 => ?_) (fun c_4 => ?_)
        · refine aw_iconst_n 0 dX8_refusalToSwingUp_40 (by decide) ?_
          exact aw_iret rfl (by decide) (by decide) dX8_refusalToSwingUp_41 (rI_of (by unfold opPush; rw [if_neg (by rw [c_1]; decide), if_neg (by rw [e]; decide), hnx, hny, if_neg (by omega)]))
        · refine aw_iconst_n 3 dX8_refusalToSwingUp_36 (by decide) ?_
          refine aw_goto (tgt := 41) dX8_refusalToSwingUp_37 (by decide) ?_
          exact aw_iret rfl (by decide) (by decide) dX8_refusalToSwingUp_41 (rI_of (by unfold opPush; rw [if_neg (by rw [c_1]; decide), if_neg (by rw [e]; decide), hnx, hny, if_pos (by omega)]))
      · refine aw_iconst_n 2 dX8_refusalToSwingUp_21 (by decide) ?_
        have e : inB d (nI 1) (nI 60) = false := by unfold inB; rw [← Bool.decide_and]; apply decide_eq_false; simp only [Int32.le_iff_toInt_le, Int32.lt_iff_toInt_lt, Int32.toInt_zero, nI_toInt (show 1 < 2 ^ 31 by decide), nI_toInt (show 60 < 2 ^ 31 by decide)] at *; omega
        exact aw_iret rfl (by decide) (by decide) dX8_refusalToSwingUp_22 (rI_of (by simp [opPush, c_1, e]))
  · refine aw_iconst_n 1 dX8_refusalToSwingUp_8 (by decide) ?_
    exact aw_iret rfl (by decide) (by decide) dX8_refusalToSwingUp_9 (rI_of (by simp [opPush, c_1]))
abbrev MX8_noteRecord : MT := (RX8, cX8_noteRecord, 4, none, [], "noteRecord")
set_option maxHeartbeats 4000000 in
theorem s_note {l : Launch} {G : GT} {n : Nat} {f : HT} {o : Nat} {J : Nat → Int32} {B : Nat → Nat → Int32} {q p r a : Nat} (hq : q < 3) (hr : B 5 q = nI r) (hr2 : r ≤ 60) (ha : a ≤ 60) : AM l G yX8_noteRecord (.code yX8_noteRecord cX8_noteRecord 4 none) 1 60 0 0 [.ref o, .int (nI q), .int (nI p), .int (nI a)] (sU f o J B) n (rV (sU f o J (nrB B q p r a)) n) := by
  refine aw_enter (M := MX8_noteRecord) rfl rfl (by decide +kernel) rfl (Nat.le_of_ble_eq_true rfl) ?_
  have hisk : isK (nI q) 3 = true := by rw [isK_nI (by omega)]; exact decide_eq_true hq
  show AW l G MX8_noteRecord 1 60 0 0 _ n 0 0 0 [(0, .ref o), (1, .int (nI q)), (2, .int (nI p)), (3, .int (nI a))] [] _ n
  refine aw_iload_n dX8_noteRecord_0 rfl rfl ?_
  refine aw_sI (as := [Value.int (nI q)]) (rest := []) mS_X8_isKind (s_isKind (nI q)) ml_X8_62 dX8_noteRecord_1 rfl rfl (by decide) (Nat.le_of_ble_eq_true rfl) (by decide) ?_
  refine aw_if_eq_b (tgt := 31) dX8_noteRecord_4 (by decide) (fun c_1 => by exfalso; simp_all) (fun c_1 => ?_)
  refine aw_iload_n dX8_noteRecord_7 rfl rfl ?_
  refine aw_aload_n dX8_noteRecord_8 rfl rfl ?_
  refine aw_get (v := .ref (o + 6)) fl_X8_27 sU_0 rfl dX8_noteRecord_9 ?_
  refine aw_iload_n dX8_noteRecord_12 rfl rfl ?_
  refine aw_iald_n (k := q) (v := (nI r)) sU_6 (by omega) (by decide) (hr) dX8_noteRecord_13 ?_
  refine aw_icmp_le_n (by omega) (by omega) (tgt := 31) dX8_noteRecord_14 (by decide) (fun c_2 => ?_) (fun c_2 => ?_)
  · exact aw_vret rfl (by decide) (by decide) dX8_noteRecord_31 (rV_of (by unfold nrB; rw [if_neg (by omega)]))
  · refine aw_aload_n dX8_noteRecord_17 rfl rfl ?_
    refine aw_get (v := .ref (o + 6)) fl_X8_27 sU_0 rfl dX8_noteRecord_18 ?_
    refine aw_iload_n dX8_noteRecord_21 rfl rfl ?_
    refine aw_iload_n dX8_noteRecord_22 rfl rfl ?_
    refine aw_iast_n (k := q) sU_6 (by omega) (by decide) dX8_noteRecord_23 ?_
    rw [sU_A5]
    refine aw_aload_n dX8_noteRecord_24 rfl rfl ?_
    refine aw_get (v := .ref (o + 7)) fl_X8_30 sU_0 rfl dX8_noteRecord_25 ?_
    refine aw_iload_n dX8_noteRecord_28 rfl rfl ?_
    refine aw_iload_n dX8_noteRecord_29 rfl rfl ?_
    refine aw_iast_n (k := q) sU_7 (by omega) (by decide) dX8_noteRecord_30 ?_
    rw [sU_A6]
    exact aw_vret rfl (by decide) (by decide) dX8_noteRecord_31 (rV_of (by unfold nrB; rw [if_pos (by omega), up_ne (by decide)]))
