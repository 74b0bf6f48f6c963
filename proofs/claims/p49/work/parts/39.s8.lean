theorem rk_le (V : Nat → Nat) (k : Nat) : ∀ u, rkC V k u ≤ u := by
  intro u
  induction u with
  | zero => exact Nat.le_refl _
  | succ u ih => unfold rkC; split <;> omega
theorem rank_le (V : Nat → Nat) (k : Nat) : rankN V k ≤ V 2 := rk_le V k (V 2)
def qRI (q : Nat × Nat) : Int32 := if q.1 = 0 then nI q.2 else -1
/-- the next tick in which k completes a swing -/
def nxN (V : Nat → Nat) (k : Nat) : Nat := V 0 + perN (V (4 + k)) - (V 0 - V (20 + k)) % perN (V (4 + k))
def holdB (V : Nat → Nat) (k : Nat) : Bool := decide (V (36 + kindN (V (4 + k))) ≠ 0 ∧ V (39 + kindN (V (4 + k))) = k)
def cpB (B2 B : Nat → Nat → Int32) : Nat → Nat → Int32 := va_up (va_up (va_up (va_up (va_up (va_up (va_up (va_up B 0 (va_cpy (B2 0) (B 0) 0 0 8)) 1 (va_cpy (B2 1) (B 1) 0 0 8)) 2 (va_cpy (B2 2) (B 2) 0 0 8)) 3 (va_cpy (B2 3) (B 3) 0 0 8)) 4 (va_cpy (B2 4) (B 4) 0 0 8)) 5 (va_cpy (B2 5) (B 5) 0 0 3)) 6 (va_cpy (B2 6) (B 6) 0 0 3)) 7 (va_cpy (B2 7) (B 7) 0 0 6)
def cpJ (J2 J : Nat → Int32) : Nat → Int32 := va_up (va_up (va_up (va_up J 8 (J2 8)) 9 (J2 9)) 10 (J2 10)) 11 (J2 11)
theorem cp_at {g h : Nat → Int32} {n k : Nat} (hk : k < n) : va_cpy g h 0 0 n k = g k := by
  unfold va_cpy
  rw [if_pos (by omega), Nat.zero_add, Nat.sub_zero]
theorem SV.copy9 {J J2 : Nat → Int32} {B B2 : Nat → Nat → Int32} {V : Nat → Nat} (h : SV J2 B2 V) (hc : V 2 ≤ 8) (hl : V 3 ≤ 6) : SV (cpJ J2 J) (cpB B2 B) V := by
  refine ⟨h.cnt, h.leg, h.now, h.fric, fun k hk => ?_, fun k hk => ?_, fun k hk => ?_, fun k hk => ?_, fun k hk => ?_, fun k hk => ?_, fun k hk => ?_, fun k hk => ?_⟩
  · exact (cp_at (g := B2 0) (h := B 0) (n := 8) (by omega)).trans (h.len k hk)
  · exact (cp_at (g := B2 1) (h := B 1) (n := 8) (by omega)).trans (h.per k hk)
  · exact (cp_at (g := B2 2) (h := B 2) (n := 8) (by omega)).trans (h.amp k hk)
  · exact (cp_at (g := B2 3) (h := B 3) (n := 8) (by omega)).trans (h.start k hk)
  · exact (cp_at (g := B2 4) (h := B 4) (n := 8) (by omega)).trans (h.sw k hk)
  · exact (cp_at (g := B2 5) (h := B 5) (n := 3) (by omega)).trans (h.rec k hk)
  · exact (cp_at (g := B2 6) (h := B 6) (n := 3) (by omega)).trans (h.hol k hk)
  · exact (cp_at (g := B2 7) (h := B 7) (n := 6) (by omega)).trans (h.wish k (by omega))
abbrev MX8_isAhead : MT := (RX8, cX8_isAhead, 3, (some .boolean), [], "isAhead")
set_option maxHeartbeats 4000000 in
theorem s_ahead {l : Launch} {G : GT} {n : Nat} {f : HT} {o : Nat} {J : Nat → Int32} {B : Nat → Nat → Int32} {K : Nat} {V : Nat → Nat} (hS : SV J B V) (hB : VB K V) {x y : Nat} (hx : x < V 2) (hy : y < V 2) : AM l G yX8_isAhead (.code yX8_isAhead cX8_isAhead 3 (some .boolean)) 2 120 0 0 [.ref o, .int (nI x), .int (nI y)] (sU f o J B) n (rI (bI (aheadN V x y)) (sU f o J B) n) := by
  refine aw_enter (M := MX8_isAhead) rfl rfl (by decide +kernel) rfl (Nat.le_of_ble_eq_true rfl) ?_
  have hcnt := VB.cnt hB
  have hleg := VB.legs hB
  have hfr := VB.fric hB
  have hnow := VB.now hB
  have hkk := VB.kk hB
  have haxx := VB.amp hB (k := x) (by omega)
  have hsxx := VB.start hB (k := x) (by omega)
  have hlxx := VB.len hB (k := x) (by omega)
  have hl1x := VB.len1 hB (k := x) (by omega)
  have hwxx := VB.sw hB (k := x) (by omega)
  have hppx := per_pos hl1x
  have hplx := per_le hlxx
  have haxy := VB.amp hB (k := y) (by omega)
  have hsxy := VB.start hB (k := y) (by omega)
  have hlxy := VB.len hB (k := y) (by omega)
  have hl1y := VB.len1 hB (k := y) (by omega)
  have hwxy := VB.sw hB (k := y) (by omega)
  have hppy := per_pos hl1y
  have hply := per_le hlxy
  show AW l G MX8_isAhead 2 120 0 0 _ n 0 0 0 [(0, .ref o), (1, .int (nI x)), (2, .int (nI y))] [] _ n
  refine aw_aload_n dX8_isAhead_0 rfl rfl ?_
  refine aw_iload_n dX8_isAhead_1 rfl rfl ?_
  refine aw_vI (as := [Value.int (nI x)]) (rest := []) mV_X8_amplitudeAt (s_amp hS hB (k := x) (by omega)) ml_X8_134 sU_0 rfl dX8_isAhead_2 rfl rfl (by decide) (Nat.le_of_ble_eq_true rfl) (by decide) ?_
  refine aw_aload_n dX8_isAhead_5 rfl rfl ?_
  refine aw_iload_n dX8_isAhead_6 rfl rfl ?_
  refine aw_vI (as := [Value.int (nI y)]) (rest := [Value.int (nI (V (12 + x)))]) mV_X8_amplitudeAt (s_amp hS hB (k := y) (by omega)) ml_X8_134 sU_0 rfl dX8_isAhead_7 rfl rfl (by decide) (Nat.le_of_ble_eq_true rfl) (by decide) ?_
  refine aw_icmp_eq_n (by omega) (by omega) (tgt := 32) dX8_isAhead_10 (by decide) (fun c_1 => ?_) (fun c_1 => ?_)
  · refine aw_aload_n dX8_isAhead_32 rfl rfl ?_
    refine aw_iload_n dX8_isAhead_33 rfl rfl ?_
    refine aw_vI (as := [Value.int (nI x)]) (rest := []) mV_X8_swingsAt (s_sw hS hB (k := x) (by omega)) ml_X8_137 sU_0 rfl dX8_isAhead_34 rfl rfl (by decide) (Nat.le_of_ble_eq_true rfl) (by decide) ?_
    refine aw_aload_n dX8_isAhead_37 rfl rfl ?_
    refine aw_iload_n dX8_isAhead_38 rfl rfl ?_
    refine aw_vI (as := [Value.int (nI y)]) (rest := [Value.int (nI (V (28 + x)))]) mV_X8_swingsAt (s_sw hS hB (k := y) (by omega)) ml_X8_137 sU_0 rfl dX8_isAhead_39 rfl rfl (by decide) (Nat.le_of_ble_eq_true rfl) (by decide) ?_
    refine aw_icmp_eq_n (by omega) (by omega) (tgt := 64) dX8_isAhead_42 (by decide) (fun c_2 => ?_) (fun c_2 => ?_)
    · refine aw_iload_n dX8_isAhead_64 rfl rfl ?_
      refine aw_iload_n dX8_isAhead_65 rfl rfl ?_
      refine aw_icmp_ge_n (by omega) (by omega) (tgt := 73) dX8_isAhead_66 (by decide) (fun c_3 => ?_) (fun c_3 => ?_)
      · refine aw_iconst_n 0 dX8_isAhead_73 (by decide) ?_
        have e : aheadN V x y = false := decide_eq_false (by omega)
        exact aw_zret rfl rfl (by decide) (by decide) dX8_isAhead_74 (rI_of (by rw [e]; rfl))
      · refine aw_iconst_n 1 dX8_isAhead_69 (by decide) ?_
        refine aw_goto (tgt := 74) dX8_isAhead_70 (by decide) ?_
        have e : aheadN V x y = true := decide_eq_true (by omega)
        exact aw_zret rfl rfl (by decide) (by decide) dX8_isAhead_74 (rI_of (by rw [e]; rfl))
    · refine aw_aload_n dX8_isAhead_45 rfl rfl ?_
      refine aw_iload_n dX8_isAhead_46 rfl rfl ?_
      refine aw_vI (as := [Value.int (nI x)]) (rest := []) mV_X8_swingsAt (s_sw hS hB (k := x) (by omega)) ml_X8_137 sU_0 rfl dX8_isAhead_47 rfl rfl (by decide) (Nat.le_of_ble_eq_true rfl) (by decide) ?_
      refine aw_aload_n dX8_isAhead_50 rfl rfl ?_
      refine aw_iload_n dX8_isAhead_51 rfl rfl ?_
      refine aw_vI (as := [Value.int (nI y)]) (rest := [Value.int (nI (V (28 + x)))]) mV_X8_swingsAt (s_sw hS hB (k := y) (by omega)) ml_X8_137 sU_0 rfl dX8_isAhead_52 rfl rfl (by decide) (Nat.le_of_ble_eq_true rfl) (by decide) ?_
      refine aw_icmp_le_n (by omega) (by omega) (tgt := 62) dX8_isAhead_55 (by decide) (fun c_4 => ?_) (fun c_4 => ?_)
      · refine aw_iconst_n 0 dX8_isAhead_62 (by decide) ?_
        have e : aheadN V x y = false := decide_eq_false (by omega)
        exact aw_zret rfl rfl (by decide) (by decide) dX8_isAhead_63 (rI_of (by rw [e]; rfl))
      · refine aw_iconst_n 1 dX8_isAhead_58 (by decide) ?_
        refine aw_goto (tgt := 63) dX8_isAhead_59 (by decide) ?_
        have e : aheadN V x y = true := decide_eq_true (by omega)
        exact aw_zret rfl rfl (by decide) (by decide) dX8_isAhead_63 (rI_of (by rw [e]; rfl))
  · refine aw_aload_n dX8_isAhead_13 rfl rfl ?_
    refine aw_iload_n dX8_isAhead_14 rfl rfl ?_
    refine aw_vI (as := [Value.int (nI x)]) (rest := []) mV_X8_amplitudeAt (s_amp hS hB (k := x) (by omega)) ml_X8_134 sU_0 rfl dX8_isAhead_15 rfl rfl (by decide) (Nat.le_of_ble_eq_true rfl) (by decide) ?_
    refine aw_aload_n dX8_isAhead_18 rfl rfl ?_
    refine aw_iload_n dX8_isAhead_19 rfl rfl ?_
    refine aw_vI (as := [Value.int (nI y)]) (rest := [Value.int (nI (V (12 + x)))]) mV_X8_amplitudeAt (s_amp hS hB (k := y) (by omega)) ml_X8_134 sU_0 rfl dX8_isAhead_20 rfl rfl (by decide) (Nat.le_of_ble_eq_true rfl) (by decide) ?_
    refine aw_icmp_le_n (by omega) (by omega) (tgt := 30) dX8_isAhead_23 (by decide) (fun c_5 => ?_) (fun c_5 => ?_)
    · refine aw_iconst_n 0 dX8_isAhead_30 (by decide) ?_
      have e : aheadN V x y = false := decide_eq_false (by omega)
      exact aw_zret rfl rfl (by decide) (by decide) dX8_isAhead_31 (rI_of (by rw [e]; rfl))
    · refine aw_iconst_n 1 dX8_isAhead_26 (by decide) ?_
      refine aw_goto (tgt := 31) dX8_isAhead_27 (by decide) ?_
      have e : aheadN V x y = true := decide_eq_true (by omega)
      exact aw_zret rfl rfl (by decide) (by decide) dX8_isAhead_31 (rI_of (by rw [e]; rfl))
abbrev MX8_rankOf : MT := (RX8, cX8_rankOf, 4, (some .int), [], "rankOf")
set_option maxHeartbeats 4000000 in
theorem s_rank_loop {l : Launch} {G : GT} {n : Nat} {f : HT} {o : Nat} {J : Nat → Int32} {B : Nat → Nat → Int32} {K : Nat} {V : Nat → Nat} (hS : SV J B V) (hB : VB K V) {k : Nat} (hk : k < V 2) : ∀ (N : Nat) (u : Nat), (V 2 - u = N) → (u ≤ V 2) → AW l G MX8_rankOf 3 180 0 0 (rI (nI (rankN V k)) (sU f o J B) n) n 0 0 4 [(3, .int (nI u)), (2, .int (nI (rkC V k u))), (0, .ref o), (1, .int (nI k))] [] (sU f o J B) n := by
  intro N
  induction N using Nat.strongRecOn with
  | ind N ih =>
    intro u hN hu
    have hcnt := VB.cnt hB
    have hleg := VB.legs hB
    have hfr := VB.fric hB
    have hnow := VB.now hB
    have hkk := VB.kk hB
    refine aw_iload_n dX8_rankOf_4 rfl rfl ?_
    refine aw_aload_n dX8_rankOf_5 rfl rfl ?_
    refine aw_get (v := .int (nI (V 2))) fl_X8_36 sU_0 (congrArg (fun z => some (Value.int z)) hS.cnt) dX8_rankOf_6 ?_
    refine aw_icmp_ge_n (by omega) (by omega) (tgt := 30) dX8_rankOf_9 (by decide) (fun c_1 => ?_) (fun c_1 => ?_)
    · refine aw_iload_n dX8_rankOf_30 rfl rfl ?_
      exact aw_iret rfl (by decide) (by decide) dX8_rankOf_31 (rI_of (by rw [show u = V 2 by omega]; rfl))
    · refine aw_aload_n dX8_rankOf_12 rfl rfl ?_
      refine aw_iload_n dX8_rankOf_13 rfl rfl ?_
      refine aw_iload_n dX8_rankOf_14 rfl rfl ?_
      refine aw_vI (as := [Value.int (nI u), Value.int (nI k)]) (rest := []) mV_X8_isAhead (s_ahead hS hB (x := u) (y := k) (by omega) (by omega)) ml_X8_131 sU_0 rfl dX8_rankOf_15 rfl rfl (by decide) (Nat.le_of_ble_eq_true rfl) (by decide) ?_
      refine aw_if_eq_b (tgt := 24) dX8_rankOf_18 (by decide) (fun c_2 => ?_) (fun c_2 => ?_)
      · refine aw_iinc_n (L' := [(3, .int (nI (u + 1))), (2, .int (nI (rkC V k u))), (0, .ref o), (1, .int (nI k))]) 1 dX8_rankOf_24 rfl (by decide) (by decide) rfl ?_
        refine aw_goto (tgt := 4) dX8_rankOf_27 (by decide) ?_
        have e : rkC V k (u + 1) = rkC V k u := by simp [rkC, c_2]
        refine aw_sub [(3, .int (nI (u + 1))), (2, .int (nI (rkC V k (u + 1)))), (0, .ref o), (1, .int (nI k))] (by rw [e]; simp) ?_
        exact ih _ (by omega) (u + 1) rfl (by omega)
      · refine aw_iinc_n (L' := [(2, .int (nI ((rkC V k u) + 1))), (3, .int (nI u)), (0, .ref o), (1, .int (nI k))]) 1 dX8_rankOf_21 rfl (by decide) (by decide) rfl ?_
        refine aw_iinc_n (L' := [(3, .int (nI (u + 1))), (2, .int (nI ((rkC V k u) + 1))), (0, .ref o), (1, .int (nI k))]) 1 dX8_rankOf_24 rfl (by decide) (by decide) rfl ?_
        refine aw_goto (tgt := 4) dX8_rankOf_27 (by decide) ?_
        have e : rkC V k (u + 1) = (rkC V k u) + 1 := by simp [rkC, c_2]
        refine aw_sub [(3, .int (nI (u + 1))), (2, .int (nI (rkC V k (u + 1)))), (0, .ref o), (1, .int (nI k))] (by rw [e]; simp) ?_
        exact ih _ (by omega) (u + 1) rfl (by omega)
set_option maxHeartbeats 4000000 in
theorem s_rank {l : Launch} {G : GT} {n : Nat} {f : HT} {o : Nat} {J : Nat → Int32} {B : Nat → Nat → Int32} {K : Nat} {V : Nat → Nat} (hS : SV J B V) (hB : VB K V) {k : Nat} (hk : k < V 2) : AM l G yX8_rankOf (.code yX8_rankOf cX8_rankOf 4 (some .int)) 3 180 0 0 [.ref o, .int (nI k)] (sU f o J B) n (rI (nI (rankN V k)) (sU f o J B) n) := by
  refine aw_enter (M := MX8_rankOf) rfl rfl (by decide +kernel) rfl (Nat.le_of_ble_eq_true rfl) ?_
  show AW l G MX8_rankOf 3 180 0 0 _ n 0 0 0 [(0, .ref o), (1, .int (nI k))] [] _ n
  refine aw_iconst_n 0 dX8_rankOf_0 (by decide) ?_
  refine aw_istore_n (L' := [(2, .int (nI 0)), (0, .ref o), (1, .int (nI k))]) dX8_rankOf_1 rfl (by decide) rfl ?_
  refine aw_iconst_n 0 dX8_rankOf_2 (by decide) ?_
  refine aw_istore_n (L' := [(3, .int (nI 0)), (2, .int (nI 0)), (0, .ref o), (1, .int (nI k))]) dX8_rankOf_3 rfl (by decide) rfl ?_
  exact aw_sub [(3, .int (nI 0)), (2, .int (nI 0)), (0, .ref o), (1, .int (nI k))] (by simp [rkC]) (s_rank_loop hS hB hk _ 0 rfl (Nat.zero_le _))
abbrev MX8_ranked : MT := (RX8, cX8_ranked, 3, (some .int), [], "ranked")
set_option maxHeartbeats 4000000 in
theorem s_rkd_loop {l : Launch} {G : GT} {n : Nat} {f : HT} {o : Nat} {J : Nat → Int32} {B : Nat → Nat → Int32} {K : Nat} {V : Nat → Nat} (hS : SV J B V) (hB : VB K V) {r : Int32} : ∀ (N : Nat) (k : Nat), (V 2 - k = N) → (k ≤ V 2) → (rkF V r (V 2 - k) k = qRank V r) → AW l G MX8_ranked 4 240 0 0 (rI (qRI (qRank V r)) (sU f o J B) n) n 0 0 2 [(2, .int (nI k)), (0, .ref o), (1, .int r)] [] (sU f o J B) n := by
  intro N
  induction N using Nat.strongRecOn with
  | ind N ih =>
    intro k hN hk hq
    have hcnt := VB.cnt hB
    have hleg := VB.legs hB
    have hfr := VB.fric hB
    have hnow := VB.now hB
    have hkk := VB.kk hB
    refine aw_iload_n dX8_ranked_2 rfl rfl ?_
    refine aw_aload_n dX8_ranked_3 rfl rfl ?_
    refine aw_get (v := .int (nI (V 2))) fl_X8_36 sU_0 (congrArg (fun z => some (Value.int z)) hS.cnt) dX8_ranked_4 ?_
    refine aw_icmp_ge_n (by omega) (by omega) (tgt := 27) dX8_ranked_7 (by decide) (fun c_1 => ?_) (fun c_1 => ?_)
    · refine aw_iconst (v := -1) dX8_ranked_27 (by decide) ?_
      exact aw_iret rfl (by decide) (by decide) dX8_ranked_28 (rI_of (by rw [← hq, show V 2 - k = 0 by omega]; rfl))
    · refine aw_aload_n dX8_ranked_10 rfl rfl ?_
      refine aw_iload_n dX8_ranked_11 rfl rfl ?_
      refine aw_vI (as := [Value.int (nI k)]) (rest := []) mV_X8_rankOf (s_rank hS hB (k := k) (by omega)) ml_X8_128 sU_0 rfl dX8_ranked_12 rfl rfl (by decide) (Nat.le_of_ble_eq_true rfl) (by decide) ?_
      refine aw_iload_n dX8_ranked_15 rfl rfl ?_
      refine aw_icmp_ne (tgt := 21) dX8_ranked_16 (by decide) (fun c_2 => ?_) (fun c_2 => ?_)
      · refine aw_iinc_n (L' := [(2, .int (nI (k + 1))), (0, .ref o), (1, .int r)]) 1 dX8_ranked_21 rfl (by decide) (by decide) rfl ?_
        refine aw_goto (tgt := 2) dX8_ranked_24 (by decide) ?_
        refine aw_sub [(2, .int (nI (k + 1))), (0, .ref o), (1, .int r)] (by simp) ?_
        exact ih _ (by omega) (k + 1) rfl (by omega) (by rw [← hq, show V 2 - k = (V 2 - (k + 1)) + 1 by omega]; exact (rkF_no c_2).symm)
      · refine aw_iload_n dX8_ranked_19 rfl rfl ?_
        exact aw_iret rfl (by decide) (by decide) dX8_ranked_20 (rI_of (by rw [← hq, show V 2 - k = (V 2 - (k + 1)) + 1 by omega, rkF_yes c_2]; rfl))
set_option maxHeartbeats 4000000 in
theorem s_ranked {l : Launch} {G : GT} {n : Nat} {f : HT} {o : Nat} {J : Nat → Int32} {B : Nat → Nat → Int32} {K : Nat} {V : Nat → Nat} (hS : SV J B V) (hB : VB K V) (r : Int32) : AM l G yX8_ranked (.code yX8_ranked cX8_ranked 3 (some .int)) 4 240 0 0 [.ref o, .int r] (sU f o J B) n (rI (qRI (qRank V r)) (sU f o J B) n) := by
  refine aw_enter (M := MX8_ranked) rfl rfl (by decide +kernel) rfl (Nat.le_of_ble_eq_true rfl) ?_
  show AW l G MX8_ranked 4 240 0 0 _ n 0 0 0 [(0, .ref o), (1, .int r)] [] _ n
  refine aw_iconst_n 0 dX8_ranked_0 (by decide) ?_
  refine aw_istore_n (L' := [(2, .int (nI 0)), (0, .ref o), (1, .int r)]) dX8_ranked_1 rfl (by decide) rfl ?_
  exact s_rkd_loop hS hB _ 0 rfl (Nat.zero_le _) rfl
abbrev MX8_swingingCount : MT := (RX8, cX8_swingingCount, 3, (some .int), [], "swingingCount")
set_option maxHeartbeats 4000000 in
theorem s_cnt_loop {l : Launch} {G : GT} {n : Nat} {f : HT} {o : Nat} {J : Nat → Int32} {B : Nat → Nat → Int32} {K : Nat} {V : Nat → Nat} (hS : SV J B V) (hB : VB K V) : ∀ (N : Nat) (u : Nat), (V 2 - u = N) → (u ≤ V 2) → AW l G MX8_swingingCount 2 120 0 0 (rI (nI (cntA V (V 2))) (sU f o J B) n) n 0 0 4 [(2, .int (nI u)), (1, .int (nI (cntA V u))), (0, .ref o)] [] (sU f o J B) n := by
  intro N
  induction N using Nat.strongRecOn with
  | ind N ih =>
    intro u hN hu
    have hcnt := VB.cnt hB
    have hleg := VB.legs hB
    have hfr := VB.fric hB
    have hnow := VB.now hB
    have hkk := VB.kk hB
    refine aw_iload_n dX8_swingingCount_4 rfl rfl ?_
    refine aw_aload_n dX8_swingingCount_5 rfl rfl ?_
    refine aw_get (v := .int (nI (V 2))) fl_X8_36 sU_0 (congrArg (fun z => some (Value.int z)) hS.cnt) dX8_swingingCount_6 ?_
    refine aw_icmp_ge_n (by omega) (by omega) (tgt := 29) dX8_swingingCount_9 (by decide) (fun c_1 => ?_) (fun c_1 => ?_)
    · refine aw_iload_n dX8_swingingCount_29 rfl rfl ?_
      exact aw_iret rfl (by decide) (by decide) dX8_swingingCount_30 (rI_of (by rw [show u = V 2 by omega]))
    · refine aw_aload_n dX8_swingingCount_12 rfl rfl ?_
      refine aw_iload_n dX8_swingingCount_13 rfl rfl ?_
      refine aw_vI (as := [Value.int (nI u)]) (rest := []) mV_X8_isSwinging (s_swinging hS hB (k := u) (by omega)) ml_X8_101 sU_0 rfl dX8_swingingCount_14 rfl rfl (by decide) (Nat.le_of_ble_eq_true rfl) (by decide) ?_
      refine aw_if_eq_b (tgt := 23) dX8_swingingCount_17 (by decide) (fun c_2 => ?_) (fun c_2 => ?_)
      · refine aw_iinc_n (L' := [(2, .int (nI (u + 1))), (1, .int (nI (cntA V u))), (0, .ref o)]) 1 dX8_swingingCount_23 rfl (by decide) (by decide) rfl ?_
        refine aw_goto (tgt := 4) dX8_swingingCount_26 (by decide) ?_
        have d_1 := of_decide_eq_false c_2
        have e : cntA V (u + 1) = cntA V u := by show cntA V u + _ = _; rw [if_pos (by omega)]; rfl
        refine aw_sub [(2, .int (nI (u + 1))), (1, .int (nI (cntA V (u + 1)))), (0, .ref o)] (by rw [e]; simp) ?_
        exact ih _ (by omega) (u + 1) rfl (by omega)
      · refine aw_iinc_n (L' := [(1, .int (nI ((cntA V u) + 1))), (2, .int (nI u)), (0, .ref o)]) 1 dX8_swingingCount_20 rfl (by decide) (by decide) rfl ?_
        refine aw_iinc_n (L' := [(2, .int (nI (u + 1))), (1, .int (nI ((cntA V u) + 1))), (0, .ref o)]) 1 dX8_swingingCount_23 rfl (by decide) (by decide) rfl ?_
        refine aw_goto (tgt := 4) dX8_swingingCount_26 (by decide) ?_
        have d_1 := of_decide_eq_true c_2
        have e : cntA V (u + 1) = (cntA V u) + 1 := by show cntA V u + _ = _; rw [if_neg d_1]
        refine aw_sub [(2, .int (nI (u + 1))), (1, .int (nI (cntA V (u + 1)))), (0, .ref o)] (by rw [e]; simp) ?_
        exact ih _ (by omega) (u + 1) rfl (by omega)
set_option maxHeartbeats 4000000 in
theorem s_count {l : Launch} {G : GT} {n : Nat} {f : HT} {o : Nat} {J : Nat → Int32} {B : Nat → Nat → Int32} {K : Nat} {V : Nat → Nat} (hS : SV J B V) (hB : VB K V) : AM l G yX8_swingingCount (.code yX8_swingingCount cX8_swingingCount 3 (some .int)) 2 120 0 0 [.ref o] (sU f o J B) n (rI (nI (cntA V (V 2))) (sU f o J B) n) := by
  refine aw_enter (M := MX8_swingingCount) rfl rfl (by decide +kernel) rfl (Nat.le_of_ble_eq_true rfl) ?_
  show AW l G MX8_swingingCount 2 120 0 0 _ n 0 0 0 [(0, .ref o)] [] _ n
  refine aw_iconst_n 0 dX8_swingingCount_0 (by decide) ?_
  refine aw_istore_n (L' := [(1, .int (nI 0)), (0, .ref o)]) dX8_swingingCount_1 rfl (by decide) rfl ?_
  refine aw_iconst_n 0 dX8_swingingCount_2 (by decide) ?_
  refine aw_istore_n (L' := [(2, .int (nI 0)), (1, .int (nI 0)), (0, .ref o)]) dX8_swingingCount_3 rfl (by decide) rfl ?_
  exact aw_sub [(2, .int (nI 0)), (1, .int (nI 0)), (0, .ref o)] (by simp [cntA]) (s_cnt_loop hS hB _ 0 rfl (Nat.zero_le _))
abbrev MX8_amplitudeSum : MT := (RX8, cX8_amplitudeSum, 3, (some .int), [], "amplitudeSum")
set_option maxHeartbeats 4000000 in
theorem s_sum_loop {l : Launch} {G : GT} {n : Nat} {f : HT} {o : Nat} {J : Nat → Int32} {B : Nat → Nat → Int32} {K : Nat} {V : Nat → Nat} (hS : SV J B V) (hB : VB K V) : ∀ (N : Nat) (u : Nat), (V 2 - u = N) → (u ≤ V 2) → AW l G MX8_amplitudeSum 2 120 0 0 (rI (nI (sumA V (V 2))) (sU f o J B) n) n 0 0 4 [(2, .int (nI u)), (1, .int (nI (sumA V u))), (0, .ref o)] [] (sU f o J B) n := by
  intro N
  induction N using Nat.strongRecOn with
  | ind N ih =>
    intro u hN hu
    have hcnt := VB.cnt hB
    have hleg := VB.legs hB
    have hfr := VB.fric hB
    have hnow := VB.now hB
    have hkk := VB.kk hB
    refine aw_iload_n dX8_amplitudeSum_4 rfl rfl ?_
    refine aw_aload_n dX8_amplitudeSum_5 rfl rfl ?_
    refine aw_get (v := .int (nI (V 2))) fl_X8_36 sU_0 (congrArg (fun z => some (Value.int z)) hS.cnt) dX8_amplitudeSum_6 ?_
    refine aw_icmp_ge_n (by omega) (by omega) (tgt := 26) dX8_amplitudeSum_9 (by decide) (fun c_1 => ?_) (fun c_1 => ?_)
    · refine aw_iload_n dX8_amplitudeSum_26 rfl rfl ?_
      exact aw_iret rfl (by decide) (by decide) dX8_amplitudeSum_27 (rI_of (by rw [show u = V 2 by omega]))
    · refine aw_iload_n dX8_amplitudeSum_12 rfl rfl ?_
      refine aw_aload_n dX8_amplitudeSum_13 rfl rfl ?_
      refine aw_iload_n dX8_amplitudeSum_14 rfl rfl ?_
      refine aw_vI (as := [Value.int (nI u)]) (rest := [Value.int (nI (sumA V u))]) mV_X8_amplitudeAt (s_amp hS hB (k := u) (by omega)) ml_X8_134 sU_0 rfl dX8_amplitudeSum_15 rfl rfl (by decide) (Nat.le_of_ble_eq_true rfl) (by decide) ?_
      refine aw_iadd_n dX8_amplitudeSum_18 ?_
      refine aw_istore_n (L' := [(1, .int (nI ((sumA V u) + (V (12 + u))))), (2, .int (nI u)), (0, .ref o)]) dX8_amplitudeSum_19 rfl (by decide) rfl ?_
      refine aw_iinc_n (L' := [(2, .int (nI (u + 1))), (1, .int (nI ((sumA V u) + (V (12 + u))))), (0, .ref o)]) 1 dX8_amplitudeSum_20 rfl (by decide) (by decide) rfl ?_
      refine aw_goto (tgt := 4) dX8_amplitudeSum_23 (by decide) ?_
      refine aw_sub [(2, .int (nI (u + 1))), (1, .int (nI (sumA V (u + 1)))), (0, .ref o)] (by simp [sumA]) ?_
      exact ih _ (by omega) (u + 1) rfl (by omega)
set_option maxHeartbeats 4000000 in
theorem s_sum {l : Launch} {G : GT} {n : Nat} {f : HT} {o : Nat} {J : Nat → Int32} {B : Nat → Nat → Int32} {K : Nat} {V : Nat → Nat} (hS : SV J B V) (hB : VB K V) : AM l G yX8_amplitudeSum (.code yX8_amplitudeSum cX8_amplitudeSum 3 (some .int)) 2 120 0 0 [.ref o] (sU f o J B) n (rI (nI (sumA V (V 2))) (sU f o J B) n) := by
  refine aw_enter (M := MX8_amplitudeSum) rfl rfl (by decide +kernel) rfl (Nat.le_of_ble_eq_true rfl) ?_
  show AW l G MX8_amplitudeSum 2 120 0 0 _ n 0 0 0 [(0, .ref o)] [] _ n
  refine aw_iconst_n 0 dX8_amplitudeSum_0 (by decide) ?_
  refine aw_istore_n (L' := [(1, .int (nI 0)), (0, .ref o)]) dX8_amplitudeSum_1 rfl (by decide) rfl ?_
  refine aw_iconst_n 0 dX8_amplitudeSum_2 (by decide) ?_
  refine aw_istore_n (L' := [(2, .int (nI 0)), (1, .int (nI 0)), (0, .ref o)]) dX8_amplitudeSum_3 rfl (by decide) rfl ?_
  exact aw_sub [(2, .int (nI 0)), (1, .int (nI 0)), (0, .ref o)] (by simp [sumA]) (s_sum_loop hS hB _ 0 rfl (Nat.zero_le _))
abbrev MX8_misfit : MT := (RX8, cX8_misfit, 3, (some .int), [], "misfit")
set_option maxHeartbeats 4000000 in
theorem s_misfit {l : Launch} {G : GT} {n : Nat} {f : HT} {o : Nat} {J : Nat → Int32} {B : Nat → Nat → Int32} {K : Nat} {V : Nat → Nat} (hS : SV J B V) (hB : VB K V) {k j : Nat} (hk : k < V 2) (hj : j < V 3) : AM l G yX8_misfit (.code yX8_misfit cX8_misfit 3 (some .int)) 1 60 0 0 [.ref o, .int (nI k), .int (nI j)] (sU f o J B) n (rI (nI (apart (perN (V (4 + k))) (V (42 + j)))) (sU f o J B) n) := by
  refine aw_enter (M := MX8_misfit) rfl rfl (by decide +kernel) rfl (Nat.le_of_ble_eq_true rfl) ?_
  have hcnt := VB.cnt hB
  have hleg := VB.legs hB
  have hfr := VB.fric hB
  have hnow := VB.now hB
  have hkk := VB.kk hB
  have haxk := VB.amp hB (k := k) (by omega)
  have hsxk := VB.start hB (k := k) (by omega)
  have hlxk := VB.len hB (k := k) (by omega)
  have hl1k := VB.len1 hB (k := k) (by omega)
  have hwxk := VB.sw hB (k := k) (by omega)
  have hppk := per_pos hl1k
  have hplk := per_le hlxk
  have hwj := VB.wish hB (k := j) (by omega)
  have hisk : isK (nI k) (V 2) = true := by rw [isK_nI (by omega)]; exact decide_eq_true hk
  have hisj : isK (nI j) (V 3) = true := by rw [isK_nI (by omega)]; exact decide_eq_true hj
  show AW l G MX8_misfit 1 60 0 0 _ n 0 0 0 [(0, .ref o), (1, .int (nI k)), (2, .int (nI j))] [] _ n
  refine aw_aload_n dX8_misfit_0 rfl rfl ?_
  refine aw_iload_n dX8_misfit_1 rfl rfl ?_
  refine aw_vI (as := [Value.int (nI k)]) (rest := []) mV_X8_hasPendulum (s_has hS hB (nI k)) ml_X8_55 sU_0 rfl dX8_misfit_2 rfl rfl (by decide) (Nat.le_of_ble_eq_true rfl) (by decide) ?_
  refine aw_if_eq_b (tgt := 16) dX8_misfit_5 (by decide) (fun c_1 => by exfalso; simp_all) (fun c_1 => ?_)
  refine aw_aload_n dX8_misfit_8 rfl rfl ?_
  refine aw_iload_n dX8_misfit_9 rfl rfl ?_
  refine aw_vI (as := [Value.int (nI j)]) (rest := []) mV_X8_hasLeg (s_hasLeg hS hB (nI j)) ml_X8_59 sU_0 rfl dX8_misfit_10 rfl rfl (by decide) (Nat.le_of_ble_eq_true rfl) (by decide) ?_
  refine aw_if_ne_b (tgt := 19) dX8_misfit_13 (by decide) (fun c_2 => ?_) (fun c_2 => by exfalso; simp_all)
  refine aw_aload_n dX8_misfit_19 rfl rfl ?_
  refine aw_get (v := .ref (o + 2)) fl_X8_15 sU_0 rfl dX8_misfit_20 ?_
  refine aw_iload_n dX8_misfit_23 rfl rfl ?_
  refine aw_iald_n (k := k) (v := (nI (perN (V (4 + k))))) sU_2 (by omega) (by decide) (hS.per _ (by omega)) dX8_misfit_24 ?_
  refine aw_aload_n dX8_misfit_25 rfl rfl ?_
  refine aw_get (v := .ref (o + 8)) fl_X8_33 sU_0 rfl dX8_misfit_26 ?_
  refine aw_iload_n dX8_misfit_29 rfl rfl ?_
  refine aw_iald_n (k := j) (v := (nI (V (42 + j)))) sU_8 (by omega) (by decide) (hS.wish _ (by omega)) dX8_misfit_30 ?_
  refine aw_isub dX8_misfit_31 ?_
  refine aw_mabs_n (by omega) (by omega) ml_X8_141 (by decide) (Nat.le_of_ble_eq_true rfl) (by decide) (by decide) dX8_misfit_32 ?_
  exact aw_iret rfl (by decide) (by decide) dX8_misfit_35 (rI_of (by rfl))
abbrev MX8_swingsInWeek : MT := (RX8, cX8_swingsInWeek, 2, (some .int), [], "swingsInWeek")
set_option maxHeartbeats 4000000 in
theorem s_week {l : Launch} {G : GT} {n : Nat} {f : HT} {o : Nat} {J : Nat → Int32} {B : Nat → Nat → Int32} {K : Nat} {V : Nat → Nat} (hS : SV J B V) (hB : VB K V) {k : Nat} (hk : k < V 2) : AM l G yX8_swingsInWeek (.code yX8_swingsInWeek cX8_swingsInWeek 2 (some .int)) 2 120 0 0 [.ref o, .int (nI k)] (sU f o J B) n (rI (nI (168 / perN (V (4 + k)))) (sU f o J B) n) := by
  refine aw_enter (M := MX8_swingsInWeek) rfl rfl (by decide +kernel) rfl (Nat.le_of_ble_eq_true rfl) ?_
  have hcnt := VB.cnt hB
  have hleg := VB.legs hB
  have hfr := VB.fric hB
  have hnow := VB.now hB
  have hkk := VB.kk hB
  have haxk := VB.amp hB (k := k) (by omega)
  have hsxk := VB.start hB (k := k) (by omega)
  have hlxk := VB.len hB (k := k) (by omega)
  have hl1k := VB.len1 hB (k := k) (by omega)
  have hwxk := VB.sw hB (k := k) (by omega)
  have hppk := per_pos hl1k
  have hplk := per_le hlxk
  show AW l G MX8_swingsInWeek 2 120 0 0 _ n 0 0 0 [(0, .ref o), (1, .int (nI k))] [] _ n
  refine aw_sipush_n 168 dX8_swingsInWeek_0 (by decide) ?_
  refine aw_aload_n dX8_swingsInWeek_3 rfl rfl ?_
  refine aw_iload_n dX8_swingsInWeek_4 rfl rfl ?_
  refine aw_vI (as := [Value.int (nI k)]) (rest := [Value.int (nI 168)]) mV_X8_periodAt (s_per hS hB (k := k) (by omega)) ml_X8_144 sU_0 rfl dX8_swingsInWeek_5 rfl rfl (by decide) (Nat.le_of_ble_eq_true rfl) (by decide) ?_
  refine aw_sI (as := [Value.int (nI 168), Value.int (nI (perN (V (4 + k))))]) (rest := []) mS_X4_quotient (n_quot (by omega) (by omega)) ml_X8_147 dX8_swingsInWeek_8 rfl rfl (by decide) (Nat.le_of_ble_eq_true rfl) (by decide) ?_
  exact aw_iret rfl (by decide) (by decide) dX8_swingsInWeek_11 (rI_of (by rfl))
abbrev MX8_nextSwing : MT := (RX8, cX8_nextSwing, 3, (some .int), [], "nextSwing")
set_option maxHeartbeats 4000000 in
theorem s_next {l : Launch} {G : GT} {n : Nat} {f : HT} {o : Nat} {J : Nat → Int32} {B : Nat → Nat → Int32} {K : Nat} {V : Nat → Nat} (hS : SV J B V) (hB : VB K V) {k : Nat} (hk : k < V 2) : AM l G yX8_nextSwing (.code yX8_nextSwing cX8_nextSwing 3 (some .int)) 2 120 0 0 [.ref o, .int (nI k)] (sU f o J B) n (rI (nI (nxN V k)) (sU f o J B) n) := by
  refine aw_enter (M := MX8_nextSwing) rfl rfl (by decide +kernel) rfl (Nat.le_of_ble_eq_true rfl) ?_
  have hcnt := VB.cnt hB
  have hleg := VB.legs hB
  have hfr := VB.fric hB
  have hnow := VB.now hB
  have hkk := VB.kk hB
  have haxk := VB.amp hB (k := k) (by omega)
  have hsxk := VB.start hB (k := k) (by omega)
  have hlxk := VB.len hB (k := k) (by omega)
  have hl1k := VB.len1 hB (k := k) (by omega)
  have hwxk := VB.sw hB (k := k) (by omega)
  have hppk := per_pos hl1k
  have hplk := per_le hlxk
  have hmm := Nat.mod_lt (V 0 - V (20 + k)) (show 0 < perN (V (4 + k)) by omega)
  show AW l G MX8_nextSwing 2 120 0 0 _ n 0 0 0 [(0, .ref o), (1, .int (nI k))] [] _ n
  refine aw_aload_n dX8_nextSwing_0 rfl rfl ?_
  refine aw_iload_n dX8_nextSwing_1 rfl rfl ?_
  refine aw_vI (as := [Value.int (nI k)]) (rest := []) mV_X8_periodAt (s_per hS hB (k := k) (by omega)) ml_X8_144 sU_0 rfl dX8_nextSwing_2 rfl rfl (by decide) (Nat.le_of_ble_eq_true rfl) (by decide) ?_
  refine aw_istore_n (L' := [(2, .int (nI (perN (V (4 + k))))), (0, .ref o), (1, .int (nI k))]) dX8_nextSwing_5 rfl (by decide) rfl ?_
  refine aw_aload_n dX8_nextSwing_6 rfl rfl ?_
  refine aw_get (v := .int (nI (V 0))) fl_X8_43 sU_0 (congrArg (fun z => some (Value.int z)) hS.now) dX8_nextSwing_7 ?_
  refine aw_iload_n dX8_nextSwing_10 rfl rfl ?_
  refine aw_iadd_n dX8_nextSwing_11 ?_
  refine aw_aload_n dX8_nextSwing_12 rfl rfl ?_
  refine aw_get (v := .int (nI (V 0))) fl_X8_43 sU_0 (congrArg (fun z => some (Value.int z)) hS.now) dX8_nextSwing_13 ?_
  refine aw_aload_n dX8_nextSwing_16 rfl rfl ?_
  refine aw_iload_n dX8_nextSwing_17 rfl rfl ?_
  refine aw_vI (as := [Value.int (nI k)]) (rest := [Value.int (nI (V 0)), Value.int (nI ((V 0) + (perN (V (4 + k)))))]) mV_X8_startAt (s_start hS hB (k := k) (by omega)) ml_X8_150 sU_0 rfl dX8_nextSwing_18 rfl rfl (by decide) (Nat.le_of_ble_eq_true rfl) (by decide) ?_
  refine aw_isub_n (by omega) dX8_nextSwing_21 ?_
  refine aw_iload_n dX8_nextSwing_22 rfl rfl ?_
  refine aw_sI (as := [Value.int (nI ((V 0) - (V (20 + k)))), Value.int (nI (perN (V (4 + k))))]) (rest := [Value.int (nI ((V 0) + (perN (V (4 + k)))))]) mS_X4_remainder (n_rem (by omega) (by omega) (by omega)) ml_X8_153 dX8_nextSwing_23 rfl rfl (by decide) (Nat.le_of_ble_eq_true rfl) (by decide) ?_
  refine aw_isub_n (by omega) dX8_nextSwing_26 ?_
  exact aw_iret rfl (by decide) (by decide) dX8_nextSwing_27 (rI_of (by rfl))
abbrev MX8_holdsRecord : MT := (RX8, cX8_holdsRecord, 2, (some .boolean), [], "holdsRecord")
set_option maxHeartbeats 4000000 in
theorem s_holds {l : Launch} {G : GT} {n : Nat} {f : HT} {o : Nat} {J : Nat → Int32} {B : Nat → Nat → Int32} {K : Nat} {V : Nat → Nat} (hS : SV J B V) (hB : VB K V) {k : Nat} (hk : k < V 2) : AM l G yX8_holdsRecord (.code yX8_holdsRecord cX8_holdsRecord 2 (some .boolean)) 3 180 0 0 [.ref o, .int (nI k)] (sU f o J B) n (rI (bI (holdB V k)) (sU f o J B) n) := by
  refine aw_enter (M := MX8_holdsRecord) rfl rfl (by decide +kernel) rfl (Nat.le_of_ble_eq_true rfl) ?_
  have hcnt := VB.cnt hB
  have hleg := VB.legs hB
  have hfr := VB.fric hB
  have hnow := VB.now hB
  have hkk := VB.kk hB
  have hisk : isK (nI k) (V 2) = true := by rw [isK_nI (by omega)]; exact decide_eq_true hk
  have hkl := kindN_lt (V (4 + k))
  have hhl := VB.hol hB hkl
  have hcc : (if V (36 + kindN (V (4 + k))) = 0 then (-1 : Int32) else nI (V (39 + kindN (V (4 + k))))) = nI k ↔ holdB V k = true := by
    unfold holdB
    rw [decide_eq_true_iff]
    split
    · next z => exact ⟨fun y => (nI_m1 (show k < 2 ^ 31 by omega) y.symm).elim, fun y => absurd z y.1⟩
    · next z => exact ⟨fun y => ⟨z, by have := congrArg Int32.toNatClampNeg y; rwa [nIc (by omega), nIc (by omega)] at this⟩, fun y => by rw [y.2]⟩
  show AW l G MX8_holdsRecord 3 180 0 0 _ n 0 0 0 [(0, .ref o), (1, .int (nI k))] [] _ n
  refine aw_aload_n dX8_holdsRecord_0 rfl rfl ?_
  refine aw_iload_n dX8_holdsRecord_1 rfl rfl ?_
  refine aw_vI (as := [Value.int (nI k)]) (rest := []) mV_X8_hasPendulum (s_has hS hB (nI k)) ml_X8_55 sU_0 rfl dX8_holdsRecord_2 rfl rfl (by decide) (Nat.le_of_ble_eq_true rfl) (by decide) ?_
  refine aw_if_eq_b (tgt := 25) dX8_holdsRecord_5 (by decide) (fun c_1 => by exfalso; simp_all) (fun c_1 => ?_)
  refine aw_aload_n dX8_holdsRecord_8 rfl rfl ?_
  refine aw_aload_n dX8_holdsRecord_9 rfl rfl ?_
  refine aw_iload_n dX8_holdsRecord_10 rfl rfl ?_
  refine aw_vI (as := [Value.int (nI k)]) (rest := [Value.ref o]) mV_X8_kindOf (s_kind hS hB (k := k) (by omega)) ml_X8_81 sU_0 rfl dX8_holdsRecord_11 rfl rfl (by decide) (Nat.le_of_ble_eq_true rfl) (by decide) ?_
  refine aw_vI (as := [Value.int (nI (kindN (V (4 + k))))]) (rest := []) mV_X8_holderAt (s_hol hS hB (k := (kindN (V (4 + k)))) hkl) ml_X8_125 sU_0 rfl dX8_holdsRecord_14 rfl rfl (by decide) (Nat.le_of_ble_eq_true rfl) (by decide) ?_
  refine aw_iload_n dX8_holdsRecord_17 rfl rfl ?_
  refine aw_icmp_ne (tgt := 25) dX8_holdsRecord_18 (by decide) (fun c_2 => ?_) (fun c_2 => ?_)
  · refine aw_iconst_n 0 dX8_holdsRecord_25 (by decide) ?_
    have e : holdB V k = false := by rw [← Bool.not_eq_true]; exact fun z => c_2 (hcc.mpr z)
    exact aw_zret rfl rfl (by decide) (by decide) dX8_holdsRecord_26 (rI_of (by rw [e]; rfl))
  · refine aw_iconst_n 1 dX8_holdsRecord_21 (by decide) ?_
    refine aw_goto (tgt := 26) dX8_holdsRecord_22 (by decide) ?_
    have e : holdB V k = true := hcc.mp c_2
    exact aw_zret rfl rfl (by decide) (by decide) dX8_holdsRecord_26 (rI_of (by rw [e]; rfl))
abbrev MX8_copyFrom : MT := (RX8, cX8_copyFrom, 2, none, [], "copyFrom")
set_option maxHeartbeats 4000000 in
theorem s_copy {l : Launch} {G : GT} {n : Nat} {f : HT} {o o2 : Nat} {J J2 : Nat → Int32} {B B2 : Nat → Nat → Int32} (hd : o2 + 9 ≤ o ∨ o + 9 ≤ o2) : AM l G yX8_copyFrom (.code yX8_copyFrom cX8_copyFrom 2 none) 1 60 0 0 [.ref o, .ref o2] (sU (sU f o2 J2 B2) o J B) n (rV (sU (sU f o2 J2 B2) o (cpJ J2 J) (cpB B2 B)) n) := by
  refine aw_enter (M := MX8_copyFrom) rfl rfl (by decide +kernel) rfl (Nat.le_of_ble_eq_true rfl) ?_
  have hout : o2 < o ∨ o + 9 ≤ o2 := by omega
  have hout9 : ∀ k, k < 9 → o2 + k < o ∨ o + 9 ≤ o2 + k := fun k hk => by omega
  show AW l G MX8_copyFrom 1 60 0 0 _ n 0 0 0 [(0, .ref o), (1, .ref o2)] [] _ n
  refine aw_aload_n dX8_copyFrom_0 rfl rfl ?_
  refine aw_get (v := .ref (o2 + 1)) fl_X8_9 ((rU_out hout).trans sU_0) rfl dX8_copyFrom_1 ?_
  refine aw_iconst_n 0 dX8_copyFrom_4 (by decide) ?_
  refine aw_aload_n dX8_copyFrom_5 rfl rfl ?_
  refine aw_get (v := .ref (o + 1)) fl_X8_9 sU_0 rfl dX8_copyFrom_6 ?_
  refine aw_iconst_n 0 dX8_copyFrom_9 (by decide) ?_
  refine aw_bipush_n 8 dX8_copyFrom_10 (by decide) ?_
  refine aw_copyi (k := 8) ml_X8_49 ((rU_out (hout9 1 (by decide))).trans sU_1) sU_1 (by decide) (by decide) (by decide) (by decide) (by decide +kernel) dX8_copyFrom_12 ?_
  rw [sU_A0]
  refine aw_aload_n dX8_copyFrom_15 rfl rfl ?_
  refine aw_get (v := .ref (o2 + 2)) fl_X8_15 ((rU_out hout).trans sU_0) rfl dX8_copyFrom_16 ?_
  refine aw_iconst_n 0 dX8_copyFrom_19 (by decide) ?_
  refine aw_aload_n dX8_copyFrom_20 rfl rfl ?_
  refine aw_get (v := .ref (o + 2)) fl_X8_15 sU_0 rfl dX8_copyFrom_21 ?_
  refine aw_iconst_n 0 dX8_copyFrom_24 (by decide) ?_
  refine aw_bipush_n 8 dX8_copyFrom_25 (by decide) ?_
  refine aw_copyi (k := 8) ml_X8_49 ((rU_out (hout9 2 (by decide))).trans sU_2) sU_2 (by decide) (by decide) (by decide) (by decide) (by decide +kernel) dX8_copyFrom_27 ?_
  rw [sU_A1]
  rw [show (va_up B 0 (va_cpy (B2 0) (B 0) 0 0 8)) 1 = B 1 from by (repeat rw [up_ne (by decide)])]
  refine aw_aload_n dX8_copyFrom_30 rfl rfl ?_
  refine aw_get (v := .ref (o2 + 3)) fl_X8_18 ((rU_out hout).trans sU_0) rfl dX8_copyFrom_31 ?_
  refine aw_iconst_n 0 dX8_copyFrom_34 (by decide) ?_
  refine aw_aload_n dX8_copyFrom_35 rfl rfl ?_
  refine aw_get (v := .ref (o + 3)) fl_X8_18 sU_0 rfl dX8_copyFrom_36 ?_
  refine aw_iconst_n 0 dX8_copyFrom_39 (by decide) ?_
  refine aw_bipush_n 8 dX8_copyFrom_40 (by decide) ?_
  refine aw_copyi (k := 8) ml_X8_49 ((rU_out (hout9 3 (by decide))).trans sU_3) sU_3 (by decide) (by decide) (by decide) (by decide) (by decide +kernel) dX8_copyFrom_42 ?_
  rw [sU_A2]
  rw [show (va_up (va_up B 0 (va_cpy (B2 0) (B 0) 0 0 8)) 1 (va_cpy (B2 1) (B 1) 0 0 8)) 2 = B 2 from by (repeat rw [up_ne (by decide)])]
  refine aw_aload_n dX8_copyFrom_45 rfl rfl ?_
  refine aw_get (v := .ref (o2 + 4)) fl_X8_21 ((rU_out hout).trans sU_0) rfl dX8_copyFrom_46 ?_
  refine aw_iconst_n 0 dX8_copyFrom_49 (by decide) ?_
  refine aw_aload_n dX8_copyFrom_50 rfl rfl ?_
  refine aw_get (v := .ref (o + 4)) fl_X8_21 sU_0 rfl dX8_copyFrom_51 ?_
  refine aw_iconst_n 0 dX8_copyFrom_54 (by decide) ?_
  refine aw_bipush_n 8 dX8_copyFrom_55 (by decide) ?_
  refine aw_copyi (k := 8) ml_X8_49 ((rU_out (hout9 4 (by decide))).trans sU_4) sU_4 (by decide) (by decide) (by decide) (by decide) (by decide +kernel) dX8_copyFrom_57 ?_
  rw [sU_A3]
  rw [show (va_up (va_up (va_up B 0 (va_cpy (B2 0) (B 0) 0 0 8)) 1 (va_cpy (B2 1) (B 1) 0 0 8)) 2 (va_cpy (B2 2) (B 2) 0 0 8)) 3 = B 3 from by (repeat rw [up_ne (by decide)])]
  refine aw_aload_n dX8_copyFrom_60 rfl rfl ?_
  refine aw_get (v := .ref (o2 + 5)) fl_X8_24 ((rU_out hout).trans sU_0) rfl dX8_copyFrom_61 ?_
  refine aw_iconst_n 0 dX8_copyFrom_64 (by decide) ?_
  refine aw_aload_n dX8_copyFrom_65 rfl rfl ?_
  refine aw_get (v := .ref (o + 5)) fl_X8_24 sU_0 rfl dX8_copyFrom_66 ?_
  refine aw_iconst_n 0 dX8_copyFrom_69 (by decide) ?_
  refine aw_bipush_n 8 dX8_copyFrom_70 (by decide) ?_
  refine aw_copyi (k := 8) ml_X8_49 ((rU_out (hout9 5 (by decide))).trans sU_5) sU_5 (by decide) (by decide) (by decide) (by decide) (by decide +kernel) dX8_copyFrom_72 ?_
  rw [sU_A4]
  rw [show (va_up (va_up (va_up (va_up B 0 (va_cpy (B2 0) (B 0) 0 0 8)) 1 (va_cpy (B2 1) (B 1) 0 0 8)) 2 (va_cpy (B2 2) (B 2) 0 0 8)) 3 (va_cpy (B2 3) (B 3) 0 0 8)) 4 = B 4 from by (repeat rw [up_ne (by decide)])]
  refine aw_aload_n dX8_copyFrom_75 rfl rfl ?_
  refine aw_get (v := .ref (o2 + 6)) fl_X8_27 ((rU_out hout).trans sU_0) rfl dX8_copyFrom_76 ?_
  refine aw_iconst_n 0 dX8_copyFrom_79 (by decide) ?_
  refine aw_aload_n dX8_copyFrom_80 rfl rfl ?_
  refine aw_get (v := .ref (o + 6)) fl_X8_27 sU_0 rfl dX8_copyFrom_81 ?_
  refine aw_iconst_n 0 dX8_copyFrom_84 (by decide) ?_
  refine aw_iconst_n 3 dX8_copyFrom_85 (by decide) ?_
  refine aw_copyi (k := 3) ml_X8_49 ((rU_out (hout9 6 (by decide))).trans sU_6) sU_6 (by decide) (by decide) (by decide) (by decide) (by decide +kernel) dX8_copyFrom_86 ?_
  rw [sU_A5]
  rw [show (va_up (va_up (va_up (va_up (va_up B 0 (va_cpy (B2 0) (B 0) 0 0 8)) 1 (va_cpy (B2 1) (B 1) 0 0 8)) 2 (va_cpy (B2 2) (B 2) 0 0 8)) 3 (va_cpy (B2 3) (B 3) 0 0 8)) 4 (va_cpy (B2 4) (B 4) 0 0 8)) 5 = B 5 from by (repeat rw [up_ne (by decide)])]
  refine aw_aload_n dX8_copyFrom_89 rfl rfl ?_
  refine aw_get (v := .ref (o2 + 7)) fl_X8_30 ((rU_out hout).trans sU_0) rfl dX8_copyFrom_90 ?_
  refine aw_iconst_n 0 dX8_copyFrom_93 (by decide) ?_
  refine aw_aload_n dX8_copyFrom_94 rfl rfl ?_
  refine aw_get (v := .ref (o + 7)) fl_X8_30 sU_0 rfl dX8_copyFrom_95 ?_
  refine aw_iconst_n 0 dX8_copyFrom_98 (by decide) ?_
  refine aw_iconst_n 3 dX8_copyFrom_99 (by decide) ?_
  refine aw_copyi (k := 3) ml_X8_49 ((rU_out (hout9 7 (by decide))).trans sU_7) sU_7 (by decide) (by decide) (by decide) (by decide) (by decide +kernel) dX8_copyFrom_100 ?_
  rw [sU_A6]
  rw [show (va_up (va_up (va_up (va_up (va_up (va_up B 0 (va_cpy (B2 0) (B 0) 0 0 8)) 1 (va_cpy (B2 1) (B 1) 0 0 8)) 2 (va_cpy (B2 2) (B 2) 0 0 8)) 3 (va_cpy (B2 3) (B 3) 0 0 8)) 4 (va_cpy (B2 4) (B 4) 0 0 8)) 5 (va_cpy (B2 5) (B 5) 0 0 3)) 6 = B 6 from by (repeat rw [up_ne (by decide)])]
  refine aw_aload_n dX8_copyFrom_103 rfl rfl ?_
  refine aw_get (v := .ref (o2 + 8)) fl_X8_33 ((rU_out hout).trans sU_0) rfl dX8_copyFrom_104 ?_
  refine aw_iconst_n 0 dX8_copyFrom_107 (by decide) ?_
  refine aw_aload_n dX8_copyFrom_108 rfl rfl ?_
  refine aw_get (v := .ref (o + 8)) fl_X8_33 sU_0 rfl dX8_copyFrom_109 ?_
  refine aw_iconst_n 0 dX8_copyFrom_112 (by decide) ?_
  refine aw_bipush_n 6 dX8_copyFrom_113 (by decide) ?_
  refine aw_copyi (k := 6) ml_X8_49 ((rU_out (hout9 8 (by decide))).trans sU_8) sU_8 (by decide) (by decide) (by decide) (by decide) (by decide +kernel) dX8_copyFrom_115 ?_
  rw [sU_A7]
  rw [show (va_up (va_up (va_up (va_up (va_up (va_up (va_up B 0 (va_cpy (B2 0) (B 0) 0 0 8)) 1 (va_cpy (B2 1) (B 1) 0 0 8)) 2 (va_cpy (B2 2) (B 2) 0 0 8)) 3 (va_cpy (B2 3) (B 3) 0 0 8)) 4 (va_cpy (B2 4) (B 4) 0 0 8)) 5 (va_cpy (B2 5) (B 5) 0 0 3)) 6 (va_cpy (B2 6) (B 6) 0 0 3)) 7 = B 7 from by (repeat rw [up_ne (by decide)])]
  refine aw_aload_n dX8_copyFrom_118 rfl rfl ?_
  refine aw_aload_n dX8_copyFrom_119 rfl rfl ?_
  refine aw_get (v := .int (J2 8)) fl_X8_36 ((rU_out hout).trans sU_0) rfl dX8_copyFrom_120 ?_
  refine aw_sput fp_X8_36 (by decide) rfl rfl dX8_copyFrom_123 ?_
  refine aw_aload_n dX8_copyFrom_126 rfl rfl ?_
  refine aw_aload_n dX8_copyFrom_127 rfl rfl ?_
  refine aw_get (v := .int (J2 9)) fl_X8_40 ((rU_out hout).trans sU_0) rfl dX8_copyFrom_128 ?_
  refine aw_sput fp_X8_40 (by decide) rfl rfl dX8_copyFrom_131 ?_
  refine aw_aload_n dX8_copyFrom_134 rfl rfl ?_
  refine aw_aload_n dX8_copyFrom_135 rfl rfl ?_
  refine aw_get (v := .int (J2 10)) fl_X8_43 ((rU_out hout).trans sU_0) rfl dX8_copyFrom_136 ?_
  refine aw_sput fp_X8_43 (by decide) rfl rfl dX8_copyFrom_139 ?_
  refine aw_aload_n dX8_copyFrom_142 rfl rfl ?_
  refine aw_aload_n dX8_copyFrom_143 rfl rfl ?_
  refine aw_get (v := .int (J2 11)) fl_X8_46 ((rU_out hout).trans sU_0) rfl dX8_copyFrom_144 ?_
  refine aw_sput fp_X8_46 (by decide) rfl rfl dX8_copyFrom_147 ?_
  exact aw_vret rfl (by decide) (by decide) dX8_copyFrom_150 (rV_of rfl)
