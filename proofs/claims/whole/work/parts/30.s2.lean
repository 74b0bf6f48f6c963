def c2 (x : Nat) : Nat := if x = 0 then 0 else x + 1
abbrev MX8_refusalToHang : MT := (RX8, cX8_refusalToHang, 2, (some .int), [], "refusalToHang")
set_option maxHeartbeats 4000000 in
theorem s_rfHang {l : Launch} {G : GT} {n : Nat} {f : HT} {o : Nat} {J : Nat → Int32} {B : Nat → Nat → Int32} {K : Nat} {V : Nat → Nat} (hS : SV J B V) (hB : VB K V) (a : Int32) : AM l G yX8_refusalToHang (.code yX8_refusalToHang cX8_refusalToHang 2 (some .int)) 0 0 0 0 [.ref o, .int a] (sU f o J B) n (rI (nI (c2 (opAdd V a).1)) (sU f o J B) n) := by
  refine aw_enter (M := MX8_refusalToHang) rfl rfl (by decide +kernel) rfl (Nat.le_of_ble_eq_true rfl) ?_
  have hcnt := VB.cnt hB
  have hleg := VB.legs hB
  have hfr := VB.fric hB
  have hnow := VB.now hB
  have hkk := VB.kk hB
  show AW l G MX8_refusalToHang 0 0 0 0 _ n 0 0 0 [(0, .ref o), (1, .int a)] [] _ n
  refine aw_iload_n dX8_refusalToHang_0 rfl rfl ?_
  refine aw_iconst_n 1 dX8_refusalToHang_1 (by decide) ?_
  refine aw_icmp_lt (tgt := 11) dX8_refusalToHang_2 (by decide) (fun c_1 => ?_) (fun c_1 => ?_)
  · refine aw_iconst_n 2 dX8_refusalToHang_11 (by decide) ?_
    have e : inB a (nI 1) (nI 99) = false := by unfold inB; rw [← Bool.decide_and]; apply decide_eq_false; simp only [Int32.le_iff_toInt_le, Int32.lt_iff_toInt_lt, Int32.toInt_zero, nI_toInt (show 1 < 2 ^ 31 by decide), nI_toInt (show 99 < 2 ^ 31 by decide)] at *; omega
    exact aw_iret rfl (by decide) (by decide) dX8_refusalToHang_12 (rI_of (by unfold opAdd; rw [if_pos e]; rfl))
  · refine aw_iload_n dX8_refusalToHang_5 rfl rfl ?_
    refine aw_bipush_n 99 dX8_refusalToHang_6 (by decide) ?_
    refine aw_icmp_le (tgt := 13) dX8_refusalToHang_8 (by decide) (fun c_2 => ?_) (fun c_2 => ?_)
    · refine aw_aload_n dX8_refusalToHang_13 rfl rfl ?_
      refine aw_get (v := .int (nI (V 2))) fl_X8_36 sU_0 (congrArg (fun z => some (Value.int z)) hS.cnt) dX8_refusalToHang_14 ?_
      refine aw_bipush_n 8 dX8_refusalToHang_17 (by decide) ?_
      refine aw_icmp_lt_n (by omega) (by omega) (tgt := 26) dX8_refusalToHang_19 (by decide) (fun c_3 => ?_) (fun c_3 => ?_)
      · refine aw_iconst_n 0 dX8_refusalToHang_26 (by decide) ?_
        have e : inB a (nI 1) (nI 99) = true := by unfold inB; rw [← Bool.decide_and]; apply decide_eq_true; simp only [Int32.le_iff_toInt_le, Int32.lt_iff_toInt_lt, Int32.toInt_zero, nI_toInt (show 1 < 2 ^ 31 by decide), nI_toInt (show 99 < 2 ^ 31 by decide)] at *; omega
        exact aw_iret rfl (by decide) (by decide) dX8_refusalToHang_27 (rI_of (by unfold opAdd; rw [if_neg (by rw [e]; decide), if_neg (by omega)]; rfl))
      · refine aw_iconst_n 3 dX8_refusalToHang_22 (by decide) ?_
        refine aw_goto (tgt := 27) dX8_refusalToHang_23 (by decide) ?_
        have e : inB a (nI 1) (nI 99) = true := by unfold inB; rw [← Bool.decide_and]; apply decide_eq_true; simp only [Int32.le_iff_toInt_le, Int32.lt_iff_toInt_lt, Int32.toInt_zero, nI_toInt (show 1 < 2 ^ 31 by decide), nI_toInt (show 99 < 2 ^ 31 by decide)] at *; omega
        exact aw_iret rfl (by decide) (by decide) dX8_refusalToHang_27 (rI_of (by unfold opAdd; rw [if_neg (by rw [e]; decide), if_pos (by omega)]; rfl))
    · refine aw_iconst_n 2 dX8_refusalToHang_11 (by decide) ?_
      have e : inB a (nI 1) (nI 99) = false := by unfold inB; rw [← Bool.decide_and]; apply decide_eq_false; simp only [Int32.le_iff_toInt_le, Int32.lt_iff_toInt_lt, Int32.toInt_zero, nI_toInt (show 1 < 2 ^ 31 by decide), nI_toInt (show 99 < 2 ^ 31 by decide)] at *; omega
      exact aw_iret rfl (by decide) (by decide) dX8_refusalToHang_12 (rI_of (by unfold opAdd; rw [if_pos e]; rfl))
abbrev MX8_refusalOfFriction : MT := (RX8, cX8_refusalOfFriction, 2, (some .int), [], "refusalOfFriction")
set_option maxHeartbeats 4000000 in
theorem s_rfFric {l : Launch} {G : GT} {n : Nat} {f : HT} {o : Nat} {J : Nat → Int32} {B : Nat → Nat → Int32} {K : Nat} {V : Nat → Nat} (hS : SV J B V) (hB : VB K V) (a : Int32) : AM l G yX8_refusalOfFriction (.code yX8_refusalOfFriction cX8_refusalOfFriction 2 (some .int)) 0 0 0 0 [.ref o, .int a] (sU f o J B) n (rI (nI (c2 (opFric V a).1)) (sU f o J B) n) := by
  refine aw_enter (M := MX8_refusalOfFriction) rfl rfl (by decide +kernel) rfl (Nat.le_of_ble_eq_true rfl) ?_
  have hcnt := VB.cnt hB
  have hleg := VB.legs hB
  have hfr := VB.fric hB
  have hnow := VB.now hB
  have hkk := VB.kk hB
  show AW l G MX8_refusalOfFriction 0 0 0 0 _ n 0 0 0 [(0, .ref o), (1, .int a)] [] _ n
  refine aw_iload_n dX8_refusalOfFriction_0 rfl rfl ?_
  refine aw_if_lt (tgt := 10) dX8_refusalOfFriction_1 (by decide) (fun c_1 => ?_) (fun c_1 => ?_)
  · refine aw_iconst_n 2 dX8_refusalOfFriction_10 (by decide) ?_
    refine aw_goto (tgt := 15) dX8_refusalOfFriction_11 (by decide) ?_
    have e : inB a (nI 0) (nI 30) = false := by unfold inB; rw [← Bool.decide_and]; apply decide_eq_false; simp only [Int32.le_iff_toInt_le, Int32.lt_iff_toInt_lt, Int32.toInt_zero, nI_toInt (show 0 < 2 ^ 31 by decide), nI_toInt (show 30 < 2 ^ 31 by decide)] at *; omega
    exact aw_iret rfl (by decide) (by decide) dX8_refusalOfFriction_15 (rI_of (by unfold opFric; rw [if_pos e]; rfl))
  · refine aw_iload_n dX8_refusalOfFriction_4 rfl rfl ?_
    refine aw_bipush_n 30 dX8_refusalOfFriction_5 (by decide) ?_
    refine aw_icmp_le (tgt := 14) dX8_refusalOfFriction_7 (by decide) (fun c_2 => ?_) (fun c_2 => ?_)
    · refine aw_iconst_n 0 dX8_refusalOfFriction_14 (by decide) ?_
      have e : inB a (nI 0) (nI 30) = true := by unfold inB; rw [← Bool.decide_and]; apply decide_eq_true; simp only [Int32.le_iff_toInt_le, Int32.lt_iff_toInt_lt, Int32.toInt_zero, nI_toInt (show 0 < 2 ^ 31 by decide), nI_toInt (show 30 < 2 ^ 31 by decide)] at *; omega
      exact aw_iret rfl (by decide) (by decide) dX8_refusalOfFriction_15 (rI_of (by unfold opFric; rw [if_neg (by rw [e]; decide)]; rfl))
    · refine aw_iconst_n 2 dX8_refusalOfFriction_10 (by decide) ?_
      refine aw_goto (tgt := 15) dX8_refusalOfFriction_11 (by decide) ?_
      have e : inB a (nI 0) (nI 30) = false := by unfold inB; rw [← Bool.decide_and]; apply decide_eq_false; simp only [Int32.le_iff_toInt_le, Int32.lt_iff_toInt_lt, Int32.toInt_zero, nI_toInt (show 0 < 2 ^ 31 by decide), nI_toInt (show 30 < 2 ^ 31 by decide)] at *; omega
      exact aw_iret rfl (by decide) (by decide) dX8_refusalOfFriction_15 (rI_of (by unfold opFric; rw [if_pos e]; rfl))
abbrev MX8_refusalToWait : MT := (RX8, cX8_refusalToWait, 2, (some .int), [], "refusalToWait")
set_option maxHeartbeats 4000000 in
theorem s_rfWait {l : Launch} {G : GT} {n : Nat} {f : HT} {o : Nat} {J : Nat → Int32} {B : Nat → Nat → Int32} {K : Nat} {V : Nat → Nat} (hS : SV J B V) (hB : VB K V) (a : Int32) : AM l G yX8_refusalToWait (.code yX8_refusalToWait cX8_refusalToWait 2 (some .int)) 0 0 0 0 [.ref o, .int a] (sU f o J B) n (rI (nI (c2 (opPass V a).1)) (sU f o J B) n) := by
  refine aw_enter (M := MX8_refusalToWait) rfl rfl (by decide +kernel) rfl (Nat.le_of_ble_eq_true rfl) ?_
  have hcnt := VB.cnt hB
  have hleg := VB.legs hB
  have hfr := VB.fric hB
  have hnow := VB.now hB
  have hkk := VB.kk hB
  show AW l G MX8_refusalToWait 0 0 0 0 _ n 0 0 0 [(0, .ref o), (1, .int a)] [] _ n
  refine aw_iload_n dX8_refusalToWait_0 rfl rfl ?_
  refine aw_iconst_n 1 dX8_refusalToWait_1 (by decide) ?_
  refine aw_icmp_lt (tgt := 12) dX8_refusalToWait_2 (by decide) (fun c_1 => ?_) (fun c_1 => ?_)
  · refine aw_iconst_n 2 dX8_refusalToWait_12 (by decide) ?_
    refine aw_goto (tgt := 17) dX8_refusalToWait_13 (by decide) ?_
    have e : inB a (nI 1) (nI 500) = false := by unfold inB; rw [← Bool.decide_and]; apply decide_eq_false; simp only [Int32.le_iff_toInt_le, Int32.lt_iff_toInt_lt, Int32.toInt_zero, nI_toInt (show 1 < 2 ^ 31 by decide), nI_toInt (show 500 < 2 ^ 31 by decide)] at *; omega
    exact aw_iret rfl (by decide) (by decide) dX8_refusalToWait_17 (rI_of (by unfold opPass; rw [if_pos e]; rfl))
  · refine aw_iload_n dX8_refusalToWait_5 rfl rfl ?_
    refine aw_sipush_n 500 dX8_refusalToWait_6 (by decide) ?_
    refine aw_icmp_le (tgt := 16) dX8_refusalToWait_9 (by decide) (fun c_2 => ?_) (fun c_2 => ?_)
    · refine aw_iconst_n 0 dX8_refusalToWait_16 (by decide) ?_
      have e : inB a (nI 1) (nI 500) = true := by unfold inB; rw [← Bool.decide_and]; apply decide_eq_true; simp only [Int32.le_iff_toInt_le, Int32.lt_iff_toInt_lt, Int32.toInt_zero, nI_toInt (show 1 < 2 ^ 31 by decide), nI_toInt (show 500 < 2 ^ 31 by decide)] at *; omega
      exact aw_iret rfl (by decide) (by decide) dX8_refusalToWait_17 (rI_of (by unfold opPass; rw [if_neg (by rw [e]; decide)]; rfl))
    · refine aw_iconst_n 2 dX8_refusalToWait_12 (by decide) ?_
      refine aw_goto (tgt := 17) dX8_refusalToWait_13 (by decide) ?_
      have e : inB a (nI 1) (nI 500) = false := by unfold inB; rw [← Bool.decide_and]; apply decide_eq_false; simp only [Int32.le_iff_toInt_le, Int32.lt_iff_toInt_lt, Int32.toInt_zero, nI_toInt (show 1 < 2 ^ 31 by decide), nI_toInt (show 500 < 2 ^ 31 by decide)] at *; omega
      exact aw_iret rfl (by decide) (by decide) dX8_refusalToWait_17 (rI_of (by unfold opPass; rw [if_pos e]; rfl))
abbrev MX8_refusalToAppendLeg : MT := (RX8, cX8_refusalToAppendLeg, 2, (some .int), [], "refusalToAppendLeg")
set_option maxHeartbeats 4000000 in
theorem s_rfLeg {l : Launch} {G : GT} {n : Nat} {f : HT} {o : Nat} {J : Nat → Int32} {B : Nat → Nat → Int32} {K : Nat} {V : Nat → Nat} (hS : SV J B V) (hB : VB K V) (a : Int32) : AM l G yX8_refusalToAppendLeg (.code yX8_refusalToAppendLeg cX8_refusalToAppendLeg 2 (some .int)) 0 0 0 0 [.ref o, .int a] (sU f o J B) n (rI (nI (c2 (opLeg V a).1)) (sU f o J B) n) := by
  refine aw_enter (M := MX8_refusalToAppendLeg) rfl rfl (by decide +kernel) rfl (Nat.le_of_ble_eq_true rfl) ?_
  have hcnt := VB.cnt hB
  have hleg := VB.legs hB
  have hfr := VB.fric hB
  have hnow := VB.now hB
  have hkk := VB.kk hB
  show AW l G MX8_refusalToAppendLeg 0 0 0 0 _ n 0 0 0 [(0, .ref o), (1, .int a)] [] _ n
  refine aw_iload_n dX8_refusalToAppendLeg_0 rfl rfl ?_
  refine aw_iconst_n 1 dX8_refusalToAppendLeg_1 (by decide) ?_
  refine aw_icmp_lt (tgt := 11) dX8_refusalToAppendLeg_2 (by decide) (fun c_1 => ?_) (fun c_1 => ?_)
  · refine aw_iconst_n 2 dX8_refusalToAppendLeg_11 (by decide) ?_
    have e : inB a (nI 1) (nI 60) = false := by unfold inB; rw [← Bool.decide_and]; apply decide_eq_false; simp only [Int32.le_iff_toInt_le, Int32.lt_iff_toInt_lt, Int32.toInt_zero, nI_toInt (show 1 < 2 ^ 31 by decide), nI_toInt (show 60 < 2 ^ 31 by decide)] at *; omega
    exact aw_iret rfl (by decide) (by decide) dX8_refusalToAppendLeg_12 (rI_of (by unfold opLeg; rw [if_pos e]; rfl))
  · refine aw_iload_n dX8_refusalToAppendLeg_5 rfl rfl ?_
    refine aw_bipush_n 60 dX8_refusalToAppendLeg_6 (by decide) ?_
    refine aw_icmp_le (tgt := 13) dX8_refusalToAppendLeg_8 (by decide) (fun c_2 => ?_) (fun c_2 => ?_)
    · refine aw_aload_n dX8_refusalToAppendLeg_13 rfl rfl ?_
      refine aw_get (v := .int (nI (V 3))) fl_X8_40 sU_0 (congrArg (fun z => some (Value.int z)) hS.leg) dX8_refusalToAppendLeg_14 ?_
      refine aw_bipush_n 6 dX8_refusalToAppendLeg_17 (by decide) ?_
      refine aw_icmp_lt_n (by omega) (by omega) (tgt := 26) dX8_refusalToAppendLeg_19 (by decide) (fun c_3 => ?_) (fun c_3 => ?_)
      · refine aw_iconst_n 0 dX8_refusalToAppendLeg_26 (by decide) ?_
        have e : inB a (nI 1) (nI 60) = true := by unfold inB; rw [← Bool.decide_and]; apply decide_eq_true; simp only [Int32.le_iff_toInt_le, Int32.lt_iff_toInt_lt, Int32.toInt_zero, nI_toInt (show 1 < 2 ^ 31 by decide), nI_toInt (show 60 < 2 ^ 31 by decide)] at *; omega
        exact aw_iret rfl (by decide) (by decide) dX8_refusalToAppendLeg_27 (rI_of (by unfold opLeg; rw [if_neg (by rw [e]; decide), if_neg (by omega)]; rfl))
      · refine aw_iconst_n 3 dX8_refusalToAppendLeg_22 (by decide) ?_
        refine aw_goto (tgt := 27) dX8_refusalToAppendLeg_23 (by decide) ?_
        have e : inB a (nI 1) (nI 60) = true := by unfold inB; rw [← Bool.decide_and]; apply decide_eq_true; simp only [Int32.le_iff_toInt_le, Int32.lt_iff_toInt_lt, Int32.toInt_zero, nI_toInt (show 1 < 2 ^ 31 by decide), nI_toInt (show 60 < 2 ^ 31 by decide)] at *; omega
        exact aw_iret rfl (by decide) (by decide) dX8_refusalToAppendLeg_27 (rI_of (by unfold opLeg; rw [if_neg (by rw [e]; decide), if_pos (by omega)]; rfl))
    · refine aw_iconst_n 2 dX8_refusalToAppendLeg_11 (by decide) ?_
      have e : inB a (nI 1) (nI 60) = false := by unfold inB; rw [← Bool.decide_and]; apply decide_eq_false; simp only [Int32.le_iff_toInt_le, Int32.lt_iff_toInt_lt, Int32.toInt_zero, nI_toInt (show 1 < 2 ^ 31 by decide), nI_toInt (show 60 < 2 ^ 31 by decide)] at *; omega
      exact aw_iret rfl (by decide) (by decide) dX8_refusalToAppendLeg_12 (rI_of (by unfold opLeg; rw [if_pos e]; rfl))
