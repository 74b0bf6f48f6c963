def c2 (x : Nat) : Nat := if x = 0 then 0 else x + 1
def c3 (x : Nat) : Nat := if x = 2 then 3 else x
abbrev MX8_refusalToHang : MT := (RX8, cX8_refusalToHang, 2, (some .int), [], "refusalToHang")
set_option maxHeartbeats 4000000 in
theorem s_rfHang {l : Launch} {G : GT} {n : Nat} {f : HT} {o : Nat} {J : Nat → Int32} {B : Nat → Nat → Int32} {K : Nat} {V : Nat → Nat} (hS : SV J B V) (hB : VB K V) (a : Int32) : AM l G yX8_refusalToHang (.code yX8_refusalToHang cX8_refusalToHang 2 (some .int)) 0 0 0 0 [.ref o, .int a] (sU f o J B) n (rI (nI (c2 (opAdd V a).1)) (sU f o J B) n) := by
  refine aw_enter (M := MX8_refusalToHang) rfl rfl (by decide +kernel) rfl (Nat.le_of_ble_eq_true rfl) ?_
  have hcnt := VB.cnt hB
  have hleg := VB.legs hB
  have hfr := VB.fric hB
  have hnow := VB.now hB
  have hkk := VB.kk hB
  show AW l G MX8_refusalToHang 0 0 0 0 _ n 0 0 0 [(0, .ref o), (1, .int a)] [] _ n
  refine aw_iload_n dX8_refusalToHang_0 rfl rfl ?_
  refine aw_iconst_n 1 dX8_refusalToHang_1 (by decide) ?_
  refine aw_icmp_lt (tgt := 11) dX8_refusalToHang_2 (by decide) (fun c_1 => ?_) (fun c_1 => ?_)
  · refine aw_iconst_n 2 dX8_refusalToHang_11 (by decide) ?_
    have e : inB a (nI 1) (nI 99) = false := by unfold inB; rw [← Bool.decide_and]; apply decide_eq_false; simp only [Int32.le_iff_toInt_le, Int32.lt_iff_toInt_lt, Int32.toInt_zero, nI_toInt (show 1 < 2 ^ 31 by decide), nI_toInt (show 99 < 2 ^ 31 by decide)] at *; omega
    exact aw_iret rfl (by decide) (by decide) dX8_refusalToHang_12 (rI_of (by unfold opAdd; rw [if_pos e]; rfl))
  · refine aw_iload_n dX8_refusalToHang_5 rfl rfl ?_
    refine aw_bipush_n 99 dX8_refusalToHang_6 (by decide) ?_
    refine aw_icmp_le (tgt := 13) dX8_refusalToHang_8 (by decide) (fun c_2 => ?_) (fun c_2 => ?_)
    · refine aw_aload_n dX8_refusalToHang_13 rfl rfl ?_
      refine aw_get (v := .int (nI (V 2))) fl_X8_36 sU_0 (congrArg (fun z => some (Value.int z)) hS.cnt) dX8_refusalToHang_14 ?_
      refine aw_bipush_n 8 dX8_refusalToHang_17 (by decide) ?_
      refine aw_icmp_lt_n (by omega) (by omega) (tgt := 26) dX8_refusalToHang_19 (by decide) (fun c_3 => ?_) (fun c_3 => ?_)
      · refine aw_iconst_n 0 dX8_refusalToHang_26 (by decide) ?_
        have e : inB a (nI 1) (nI 99) = true := by unfold inB; rw [← Bool.decide_and]; apply decide_eq_true; simp only [Int32.le_iff_toInt_le, Int32.lt_iff_toInt_lt, Int32.toInt_zero, nI_toInt (show 1 < 2 ^ 31 by decide), nI_toInt (show 99 < 2 ^ 31 by decide)] at *; omega
        exact aw_iret rfl (by decide) (by decide) dX8_refusalToHang_27 (rI_of (by unfold opAdd; rw [if_neg (by rw [e]; decide), if_neg (by omega)]; rfl))
      · refine aw_iconst_n 3 dX8_refusalToHang_22 (by decide) ?_
        refine aw_goto (tgt := 27) dX8_refusalToHang_23 (by decide) ?_
        have e : inB a (nI 1) (nI 99) = true := by unfold inB; rw [← Bool.decide_and]; apply decide_eq_true; simp only [Int32.le_iff_toInt_le, Int32.lt_iff_toInt_lt, Int32.toInt_zero, nI_toInt (show 1 < 2 ^ 31 by decide), nI_toInt (show 99 < 2 ^ 31 by decide)] at *; omega
        exact aw_iret rfl (by decide) (by decide) dX8_refusalToHang_27 (rI_of (by unfold opAdd; rw [if_neg (by rw [e]; decide), if_pos (by omega)]; rfl))
    · refine aw_iconst_n 2 dX8_refusalToHang_11 (by decide) ?_
      have e : inB a (nI 1) (nI 99) = false := by unfold inB; rw [← Bool.decide_and]; apply decide_eq_false; simp only [Int32.le_iff_toInt_le, Int32.lt_iff_toInt_lt, Int32.toInt_zero, nI_toInt (show 1 < 2 ^ 31 by decide), nI_toInt (show 99 < 2 ^ 31 by decide)] at *; omega
      exact aw_iret rfl (by decide) (by decide) dX8_refusalToHang_12 (rI_of (by unfold opAdd; rw [if_pos e]; rfl))
abbrev MX8_refusalOfFriction : MT := (RX8, cX8_refusalOfFriction, 2, (some .int), [], "refusalOfFriction")
set_option maxHeartbeats 4000000 in
theorem s_rfFric {l : Launch} {G : GT} {n : Nat} {f : HT} {o : Nat} {J : Nat → Int32} {B : Nat → Nat → Int32} {K : Nat} {V : Nat → Nat} (hS : SV J B V) (hB : VB K V) (a : Int32) : AM l G yX8_refusalOfFriction (.code yX8_refusalOfFriction cX8_refusalOfFriction 2 (some .int)) 0 0 0 0 [.ref o, .int a] (sU f o J B) n (rI (nI (c2 (opFric V a).1)) (sU f o J B) n) := by
  refine aw_enter (M := MX8_refusalOfFriction) rfl rfl (by decide +kernel) rfl (Nat.le_of_ble_eq_true rfl) ?_
  have hcnt := VB.cnt hB
  have hleg := VB.legs hB
  have hfr := VB.fric hB
  have hnow := VB.now hB
  have hkk := VB.kk hB
  show AW l G MX8_refusalOfFriction 0 0 0 0 _ n 0 0 0 [(0, .ref o), (1, .int a)] [] _ n
  refine aw_iload_n dX8_refusalOfFriction_0 rfl rfl ?_
  refine aw_if_lt (tgt := 10) dX8_refusalOfFriction_1 (by decide) (fun c_1 => ?_) (fun c_1 => ?_)
  · refine aw_iconst_n 2 dX8_refusalOfFriction_10 (by decide) ?_
    refine aw_goto (tgt := 15) dX8_refusalOfFriction_11 (by decide) ?_
    have e : inB a (nI 0) (nI 30) = false := by unfold inB; rw [← Bool.decide_and]; apply decide_eq_false; simp only [Int32.le_iff_toInt_le, Int32.lt_iff_toInt_lt, Int32.toInt_zero, nI_toInt (show 0 < 2 ^ 31 by decide), nI_toInt (show 30 < 2 ^ 31 by decide)] at *; omega
    exact aw_iret rfl (by decide) (by decide) dX8_refusalOfFriction_15 (rI_of (by unfold opFric; rw [if_pos e]; rfl))
  · refine aw_iload_n dX8_refusalOfFriction_4 rfl rfl ?_
    refine aw_bipush_n 30 dX8_refusalOfFriction_5 (by decide) ?_
    refine aw_icmp_le (tgt := 14) dX8_refusalOfFriction_7 (by decide) (fun c_2 => ?_) (fun c_2 => ?_)
    · refine aw_iconst_n 0 dX8_refusalOfFriction_14 (by decide) ?_
      have e : inB a (nI 0) (nI 30) = true := by unfold inB; rw [← Bool.decide_and]; apply decide_eq_true; simp only [Int32.le_iff_toInt_le, Int32.lt_iff_toInt_lt, Int32.toInt_zero, nI_toInt (show 0 < 2 ^ 31 by decide), nI_toInt (show 30 < 2 ^ 31 by decide)] at *; omega
      exact aw_iret rfl (by decide) (by decide) dX8_refusalOfFriction_15 (rI_of (by unfold opFric; rw [if_neg (by rw [e]; decide)]; rfl))
    · refine aw_iconst_n 2 dX8_refusalOfFriction_10 (by decide) ?_
      refine aw_goto (tgt := 15) dX8_refusalOfFriction_11 (by decide) ?_
      have e : inB a (nI 0) (nI 30) = false := by unfold inB; rw [← Bool.decide_and]; apply decide_eq_false; simp only [Int32.le_iff_toInt_le, Int32.lt_iff_toInt_lt, Int32.toInt_zero, nI_toInt (show 0 < 2 ^ 31 by decide), nI_toInt (show 30 < 2 ^ 31 by decide)] at *; omega
      exact aw_iret rfl (by decide) (by decide) dX8_refusalOfFriction_15 (rI_of (by unfold opFric; rw [if_pos e]; rfl))
abbrev MX8_refusalToWait : MT := (RX8, cX8_refusalToWait, 2, (some .int), [], "refusalToWait")
set_option maxHeartbeats 4000000 in
theorem s_rfWait {l : Launch} {G : GT} {n : Nat} {f : HT} {o : Nat} {J : Nat → Int32} {B : Nat → Nat → Int32} {K : Nat} {V : Nat → Nat} (hS : SV J B V) (hB : VB K V) (a : Int32) : AM l G yX8_refusalToWait (.code yX8_refusalToWait cX8_refusalToWait 2 (some .int)) 0 0 0 0 [.ref o, .int a] (sU f o J B) n (rI (nI (c2 (opPass V a).1)) (sU f o J B) n) := by
  refine aw_enter (M := MX8_refusalToWait) rfl rfl (by decide +kernel) rfl (Nat.le_of_ble_eq_true rfl) ?_
  have hcnt := VB.cnt hB
  have hleg := VB.legs hB
  have hfr := VB.fric hB
  have hnow := VB.now hB
  have hkk := VB.kk hB
  show AW l G MX8_refusalToWait 0 0 0 0 _ n 0 0 0 [(0, .ref o), (1, .int a)] [] _ n
  refine aw_iload_n dX8_refusalToWait_0 rfl rfl ?_
  refine aw_iconst_n 1 dX8_refusalToWait_1 (by decide) ?_
  refine aw_icmp_lt (tgt := 12) dX8_refusalToWait_2 (by decide) (fun c_1 => ?_) (fun c_1 => ?_)
  · refine aw_iconst_n 2 dX8_refusalToWait_12 (by decide) ?_
    refine aw_goto (tgt := 17) dX8_refusalToWait_13 (by decide) ?_
    have e : inB a (nI 1) (nI 500) = false := by unfold inB; rw [← Bool.decide_and]; apply decide_eq_false; simp only [Int32.le_iff_toInt_le, Int32.lt_iff_toInt_lt, Int32.toInt_zero, nI_toInt (show 1 < 2 ^ 31 by decide), nI_toInt (show 500 < 2 ^ 31 by decide)] at *; omega
    exact aw_iret rfl (by decide) (by decide) dX8_refusalToWait_17 (rI_of (by unfold opPass; rw [if_pos e]; rfl))
  · refine aw_iload_n dX8_refusalToWait_5 rfl rfl ?_
    refine aw_sipush_n 500 dX8_refusalToWait_6 (by decide) ?_
    refine aw_icmp_le (tgt := 16) dX8_refusalToWait_9 (by decide) (fun c_2 => ?_) (fun c_2 => ?_)
    · refine aw_iconst_n 0 dX8_refusalToWait_16 (by decide) ?_
      have e : inB a (nI 1) (nI 500) = true := by unfold inB; rw [← Bool.decide_and]; apply decide_eq_true; simp only [Int32.le_iff_toInt_le, Int32.lt_iff_toInt_lt, Int32.toInt_zero, nI_toInt (show 1 < 2 ^ 31 by decide), nI_toInt (show 500 < 2 ^ 31 by decide)] at *; omega
      exact aw_iret rfl (by decide) (by decide) dX8_refusalToWait_17 (rI_of (by unfold opPass; rw [if_neg (by rw [e]; decide)]; rfl))
    · refine aw_iconst_n 2 dX8_refusalToWait_12 (by decide) ?_
      refine aw_goto (tgt := 17) dX8_refusalToWait_13 (by decide) ?_
      have e : inB a (nI 1) (nI 500) = false := by unfold inB; rw [← Bool.decide_and]; apply decide_eq_false; simp only [Int32.le_iff_toInt_le, Int32.lt_iff_toInt_lt, Int32.toInt_zero, nI_toInt (show 1 < 2 ^ 31 by decide), nI_toInt (show 500 < 2 ^ 31 by decide)] at *; omega
      exact aw_iret rfl (by decide) (by decide) dX8_refusalToWait_17 (rI_of (by unfold opPass; rw [if_pos e]; rfl))
abbrev MX8_refusalToAppendLeg : MT := (RX8, cX8_refusalToAppendLeg, 2, (some .int), [], "refusalToAppendLeg")
set_option maxHeartbeats 4000000 in
theorem s_rfLeg {l : Launch} {G : GT} {n : Nat} {f : HT} {o : Nat} {J : Nat → Int32} {B : Nat → Nat → Int32} {K : Nat} {V : Nat → Nat} (hS : SV J B V) (hB : VB K V) (a : Int32) : AM l G yX8_refusalToAppendLeg (.code yX8_refusalToAppendLeg cX8_refusalToAppendLeg 2 (some .int)) 0 0 0 0 [.ref o, .int a] (sU f o J B) n (rI (nI (c2 (opLeg V a).1)) (sU f o J B) n) := by
  refine aw_enter (M := MX8_refusalToAppendLeg) rfl rfl (by decide +kernel) rfl (Nat.le_of_ble_eq_true rfl) ?_
  have hcnt := VB.cnt hB
  have hleg := VB.legs hB
  have hfr := VB.fric hB
  have hnow := VB.now hB
  have hkk := VB.kk hB
  show AW l G MX8_refusalToAppendLeg 0 0 0 0 _ n 0 0 0 [(0, .ref o), (1, .int a)] [] _ n
  refine aw_iload_n dX8_refusalToAppendLeg_0 rfl rfl ?_
  refine aw_iconst_n 1 dX8_refusalToAppendLeg_1 (by decide) ?_
  refine aw_icmp_lt (tgt := 11) dX8_refusalToAppendLeg_2 (by decide) (fun c_1 => ?_) (fun c_1 => ?_)
  · refine aw_iconst_n 2 dX8_refusalToAppendLeg_11 (by decide) ?_
    have e : inB a (nI 1) (nI 60) = false := by unfold inB; rw [← Bool.decide_and]; apply decide_eq_false; simp only [Int32.le_iff_toInt_le, Int32.lt_iff_toInt_lt, Int32.toInt_zero, nI_toInt (show 1 < 2 ^ 31 by decide), nI_toInt (show 60 < 2 ^ 31 by decide)] at *; omega
    exact aw_iret rfl (by decide) (by decide) dX8_refusalToAppendLeg_12 (rI_of (by unfold opLeg; rw [if_pos e]; rfl))
  · refine aw_iload_n dX8_refusalToAppendLeg_5 rfl rfl ?_
    refine aw_bipush_n 60 dX8_refusalToAppendLeg_6 (by decide) ?_
    refine aw_icmp_le (tgt := 13) dX8_refusalToAppendLeg_8 (by decide) (fun c_2 => ?_) (fun c_2 => ?_)
    · refine aw_aload_n dX8_refusalToAppendLeg_13 rfl rfl ?_
      refine aw_get (v := .int (nI (V 3))) fl_X8_40 sU_0 (congrArg (fun z => some (Value.int z)) hS.leg) dX8_refusalToAppendLeg_14 ?_
      refine aw_bipush_n 6 dX8_refusalToAppendLeg_17 (by decide) ?_
      refine aw_icmp_lt_n (by omega) (by omega) (tgt := 26) dX8_refusalToAppendLeg_19 (by decide) (fun c_3 => ?_) (fun c_3 => ?_)
      · refine aw_iconst_n 0 dX8_refusalToAppendLeg_26 (by decide) ?_
        have e : inB a (nI 1) (nI 60) = true := by unfold inB; rw [← Bool.decide_and]; apply decide_eq_true; simp only [Int32.le_iff_toInt_le, Int32.lt_iff_toInt_lt, Int32.toInt_zero, nI_toInt (show 1 < 2 ^ 31 by decide), nI_toInt (show 60 < 2 ^ 31 by decide)] at *; omega
        exact aw_iret rfl (by decide) (by decide) dX8_refusalToAppendLeg_27 (rI_of (by unfold opLeg; rw [if_neg (by rw [e]; decide), if_neg (by omega)]; rfl))
      · refine aw_iconst_n 3 dX8_refusalToAppendLeg_22 (by decide) ?_
        refine aw_goto (tgt := 27) dX8_refusalToAppendLeg_23 (by decide) ?_
        have e : inB a (nI 1) (nI 60) = true := by unfold inB; rw [← Bool.decide_and]; apply decide_eq_true; simp only [Int32.le_iff_toInt_le, Int32.lt_iff_toInt_lt, Int32.toInt_zero, nI_toInt (show 1 < 2 ^ 31 by decide), nI_toInt (show 60 < 2 ^ 31 by decide)] at *; omega
        exact aw_iret rfl (by decide) (by decide) dX8_refusalToAppendLeg_27 (rI_of (by unfold opLeg; rw [if_neg (by rw [e]; decide), if_pos (by omega)]; rfl))
    · refine aw_iconst_n 2 dX8_refusalToAppendLeg_11 (by decide) ?_
      have e : inB a (nI 1) (nI 60) = false := by unfold inB; rw [← Bool.decide_and]; apply decide_eq_false; simp only [Int32.le_iff_toInt_le, Int32.lt_iff_toInt_lt, Int32.toInt_zero, nI_toInt (show 1 < 2 ^ 31 by decide), nI_toInt (show 60 < 2 ^ 31 by decide)] at *; omega
      exact aw_iret rfl (by decide) (by decide) dX8_refusalToAppendLeg_12 (rI_of (by unfold opLeg; rw [if_pos e]; rfl))
abbrev MX8_refusalToStop : MT := (RX8, cX8_refusalToStop, 2, (some .int), [], "refusalToStop")
set_option maxHeartbeats 4000000 in
theorem s_rfStop {l : Launch} {G : GT} {n : Nat} {f : HT} {o : Nat} {J : Nat → Int32} {B : Nat → Nat → Int32} {K : Nat} {V : Nat → Nat} (hS : SV J B V) (hB : VB K V) (v : Int32) : AM l G yX8_refusalToStop (.code yX8_refusalToStop cX8_refusalToStop 2 (some .int)) 1 60 0 0 [.ref o, .int v] (sU f o J B) n (rI (nI (c3 (opCatch V v).1)) (sU f o J B) n) := by
  refine aw_enter (M := MX8_refusalToStop) rfl rfl (by decide +kernel) rfl (Nat.le_of_ble_eq_true rfl) ?_
  have hcnt := VB.cnt hB
  have hleg := VB.legs hB
  have hfr := VB.fric hB
  have hnow := VB.now hB
  have hkk := VB.kk hB
  show AW l G MX8_refusalToStop 1 60 0 0 _ n 0 0 0 [(0, .ref o), (1, .int v)] [] _ n
  refine aw_aload_n dX8_refusalToStop_0 rfl rfl ?_
  refine aw_iload_n dX8_refusalToStop_1 rfl rfl ?_
  refine aw_vI (as := [Value.int v]) (rest := []) mV_X8_hasPendulum (s_has hS hB v) ml_X8_55 sU_0 rfl dX8_refusalToStop_2 rfl rfl (by decide) (Nat.le_of_ble_eq_true rfl) (by decide) ?_
  refine aw_if_ne_b (tgt := 10) dX8_refusalToStop_5 (by decide) (fun c_1 => ?_) (fun c_1 => ?_)
  · obtain ⟨x, hx1, rfl⟩ := isK_of (by omega) c_1
    have hax := VB.amp hB (k := x) (by omega)
    have hnx := nIc (show x < 2 ^ 31 by omega)
    refine aw_aload_n dX8_refusalToStop_10 rfl rfl ?_
    refine aw_get (v := .ref (o + 3)) fl_X8_18 sU_0 rfl dX8_refusalToStop_11 ?_
    refine aw_iload_n dX8_refusalToStop_14 rfl rfl ?_
    refine aw_iald_n (k := x) (v := (nI (V (12 + x)))) sU_3 (by omega) (by decide) (hS.amp _ (by omega)) dX8_refusalToStop_15 ?_
    refine aw_if_ne_n (by omega) (tgt := 23) dX8_refusalToStop_16 (by decide) (fun c_2 => ?_) (fun c_2 => ?_)
    · refine aw_iconst_n 0 dX8_refusalToStop_23 (by decide) ?_
      exact aw_iret rfl (by decide) (by decide) dX8_refusalToStop_24 (rI_of (by simp [opCatch, c_1, hnx, show V (12 + x) ≠ 0 by omega]; rfl))
    · refine aw_iconst_n 3 dX8_refusalToStop_19 (by decide) ?_
      refine aw_goto (tgt := 24) dX8_refusalToStop_20 (by decide) ?_
      exact aw_iret rfl (by decide) (by decide) dX8_refusalToStop_24 (rI_of (by simp [opCatch, c_1, hnx, show V (12 + x) = 0 by omega]; rfl))
  · refine aw_iconst_n 1 dX8_refusalToStop_8 (by decide) ?_
    exact aw_iret rfl (by decide) (by decide) dX8_refusalToStop_9 (rI_of (by simp [opCatch, c_1]; rfl))
abbrev MX8_refusalToDropLeg : MT := (RX8, cX8_refusalToDropLeg, 2, (some .int), [], "refusalToDropLeg")
set_option maxHeartbeats 4000000 in
theorem s_rfCut {l : Launch} {G : GT} {n : Nat} {f : HT} {o : Nat} {J : Nat → Int32} {B : Nat → Nat → Int32} {K : Nat} {V : Nat → Nat} (hS : SV J B V) (hB : VB K V) (v : Int32) : AM l G yX8_refusalToDropLeg (.code yX8_refusalToDropLeg cX8_refusalToDropLeg 2 (some .int)) 1 60 0 0 [.ref o, .int v] (sU f o J B) n (rI (nI (opCut V v).1) (sU f o J B) n) := by
  refine aw_enter (M := MX8_refusalToDropLeg) rfl rfl (by decide +kernel) rfl (Nat.le_of_ble_eq_true rfl) ?_
  have hcnt := VB.cnt hB
  have hleg := VB.legs hB
  have hfr := VB.fric hB
  have hnow := VB.now hB
  have hkk := VB.kk hB
  show AW l G MX8_refusalToDropLeg 1 60 0 0 _ n 0 0 0 [(0, .ref o), (1, .int v)] [] _ n
  refine aw_aload_n dX8_refusalToDropLeg_0 rfl rfl ?_
  refine aw_iload_n dX8_refusalToDropLeg_1 rfl rfl ?_
  refine aw_vI (as := [Value.int v]) (rest := []) mV_X8_hasLeg (s_hasLeg hS hB v) ml_X8_59 sU_0 rfl dX8_refusalToDropLeg_2 rfl rfl (by decide) (Nat.le_of_ble_eq_true rfl) (by decide) ?_
  refine aw_if_eq_b (tgt := 12) dX8_refusalToDropLeg_5 (by decide) (fun c_1 => ?_) (fun c_1 => ?_)
  · refine aw_iconst_n 1 dX8_refusalToDropLeg_12 (by decide) ?_
    exact aw_iret rfl (by decide) (by decide) dX8_refusalToDropLeg_13 (rI_of (by simp [opCut, c_1]))
  · refine aw_iconst_n 0 dX8_refusalToDropLeg_8 (by decide) ?_
    refine aw_goto (tgt := 13) dX8_refusalToDropLeg_9 (by decide) ?_
    exact aw_iret rfl (by decide) (by decide) dX8_refusalToDropLeg_13 (rI_of (by simp [opCut, c_1]))
abbrev MX8_kindOf : MT := (RX8, cX8_kindOf, 3, (some .int), [], "kindOf")
set_option maxHeartbeats 4000000 in
theorem s_kind {l : Launch} {G : GT} {n : Nat} {f : HT} {o : Nat} {J : Nat → Int32} {B : Nat → Nat → Int32} {K : Nat} {V : Nat → Nat} (hS : SV J B V) (hB : VB K V) {k : Nat} (hk : k < V 2) : AM l G yX8_kindOf (.code yX8_kindOf cX8_kindOf 3 (some .int)) 2 120 0 0 [.ref o, .int (nI k)] (sU f o J B) n (rI (nI (kindN (V (4 + k)))) (sU f o J B) n) := by
  refine aw_enter (M := MX8_kindOf) rfl rfl (by decide +kernel) rfl (Nat.le_of_ble_eq_true rfl) ?_
  have hcnt := VB.cnt hB
  have hleg := VB.legs hB
  have hfr := VB.fric hB
  have hnow := VB.now hB
  have hkk := VB.kk hB
  have hlx := VB.len hB (k := k) (by omega)
  show AW l G MX8_kindOf 2 120 0 0 _ n 0 0 0 [(0, .ref o), (1, .int (nI k))] [] _ n
  refine aw_aload_n dX8_kindOf_0 rfl rfl ?_
  refine aw_iload_n dX8_kindOf_1 rfl rfl ?_
  refine aw_vI (as := [Value.int (nI k)]) (rest := []) mV_X8_lengthAt (s_len hS hB (k := k) (by omega)) ml_X8_122 sU_0 rfl dX8_kindOf_2 rfl rfl (by decide) (Nat.le_of_ble_eq_true rfl) (by decide) ?_
  refine aw_istore_n (L' := [(2, .int (nI (V (4 + k)))), (0, .ref o), (1, .int (nI k))]) dX8_kindOf_5 rfl (by decide) rfl ?_
  refine aw_iload_n dX8_kindOf_6 rfl rfl ?_
  refine aw_bipush_n 30 dX8_kindOf_7 (by decide) ?_
  refine aw_icmp_ge_n (by omega) (by omega) (tgt := 14) dX8_kindOf_9 (by decide) (fun c_1 => ?_) (fun c_1 => ?_)
  · refine aw_iload_n dX8_kindOf_14 rfl rfl ?_
    refine aw_bipush_n 60 dX8_kindOf_15 (by decide) ?_
    refine aw_icmp_ge_n (by omega) (by omega) (tgt := 24) dX8_kindOf_17 (by decide) (fun c_2 => ?_) (fun c_2 => ?_)
    · refine aw_iconst_n 2 dX8_kindOf_24 (by decide) ?_
      exact aw_iret rfl (by decide) (by decide) dX8_kindOf_25 (rI_of (by unfold kindN; (first | rw [if_pos (by omega)] | rw [if_neg (by omega), if_pos (by omega)] | rw [if_neg (by omega), if_neg (by omega)])))
    · refine aw_iconst_n 1 dX8_kindOf_20 (by decide) ?_
      refine aw_goto (tgt := 25) dX8_kindOf_21 (by decide) ?_
      exact aw_iret rfl (by decide) (by decide) dX8_kindOf_25 (rI_of (by unfold kindN; (first | rw [if_pos (by omega)] | rw [if_neg (by omega), if_pos (by omega)] | rw [if_neg (by omega), if_neg (by omega)])))
  · refine aw_iconst_n 0 dX8_kindOf_12 (by decide) ?_
    exact aw_iret rfl (by decide) (by decide) dX8_kindOf_13 (rI_of (by unfold kindN; (first | rw [if_pos (by omega)] | rw [if_neg (by omega), if_pos (by omega)] | rw [if_neg (by omega), if_neg (by omega)])))
