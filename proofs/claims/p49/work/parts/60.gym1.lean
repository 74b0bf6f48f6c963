abbrev eIO : String := "java/lang/IndexOutOfBoundsException"
abbrev eIA : String := "java/lang/IllegalArgumentException"
abbrev eIS : String := "java/lang/IllegalStateException"
abbrev eNS : String := "java/util/NoSuchElementException"
abbrev eAR : String := "java/lang/ArithmeticException"
/-- nothing changed, this answer or this exception -/
def HQ (res : Option Value ⊕ String) (H : HT) (n : Nat) : PT := fun r f' n' => r = res ∧ f' = H ∧ n' = n
theorem HQ.of {res r : Option Value ⊕ String} {H : HT} {n : Nat} (h : r = res) : HQ res H n r H n := ⟨h, rfl, rfl⟩
section RW11
variable {l : Launch} {G : GT} {M : MT} {fr lo mc ms : Nat} {Post : PT} {n0 nc ns pc : Nat} {L : List (Nat × Value)} {f : HT} {n : Nat}
/-- a call that throws -/
theorem aw_cX {C9 : String} {y : MethodName} {cc' : ByteArray} {nL' kk ix a fr' lo' mc' ms' : Nat} {ret' : Option FieldType} {as rest st : List Value} {E : String} (hMV : MVC y cc' nL' ret' kk C9) (hA : AM l G y (.code y cc' nL' ret') fr' lo' mc' ms' (.ref a :: as) f n (HQ (.inr E) f n)) (hl : Cond.methodLink M.1 ix y ∈ Big) (hf : RC f C9 a)
    (hdg : decode M.2.1 pc = .ok (.invokevirtual ix, 3)) (hst : as.reverse ++ .ref a :: rest = st) (hk : as.length = kk) (hR : fr' + 1 ≤ fr ∧ 8 + (nL' + 11) + lo' ≤ lo) (hcat : (rest.map fun v => v.category).sum ≤ 8) (hc : nc + mc' ≤ mc ∧ ns + ms' ≤ ms) (hh : M.2.2.2.2.1 = []) (hP : Post (.inr E) f n) : AW l G M fr lo mc ms Post n0 nc ns pc L st f n := by
  subst hst
  exact aw_call (cr_VC hMV hA hl hf hdg hk hR hcat hc) sub_app (fun E' f' n' _ h => by
    obtain ⟨h1, h2, h3⟩ := h
    cases h1; subst h2; subst h3
    exact ax_out hh hc.1 hc.2 hP) (fun r f' n' _ h => by cases h.1)
theorem aw_sX {y : MethodName} {cc' : ByteArray} {nL' kk ix fr' lo' mc' ms' : Nat} {ret' : Option FieldType} {as rest st : List Value} {E : String} (hMS : MS y cc' nL' ret' kk) (hA : AM l G y (.code y cc' nL' ret') fr' lo' mc' ms' as f n (HQ (.inr E) f n)) (hl : Cond.methodLink M.1 ix y ∈ Big)
    (hdg : decode M.2.1 pc = .ok (.invokestatic ix, 3)) (hst : as.reverse ++ rest = st) (hk : as.length = kk) (hR : fr' + 1 ≤ fr ∧ 8 + (nL' + 11) + lo' ≤ lo) (hcat : (rest.map fun v => v.category).sum ≤ 8) (hc : nc + mc' ≤ mc ∧ ns + ms' ≤ ms) (hh : M.2.2.2.2.1 = []) (hP : Post (.inr E) f n) : AW l G M fr lo mc ms Post n0 nc ns pc L st f n := by
  subst hst
  exact aw_call (cr_S hMS hA hl hdg hk hR.1 hR.2 hcat hc.1 hc.2) sub_app2 (fun E' f' n' _ h => by
    obtain ⟨h1, h2, h3⟩ := h
    cases h1; subst h2; subst h3
    exact ax_out hh hc.1 hc.2 hP) (fun r f' n' _ h => by cases h.1)
end RW11
theorem HQ.v {H : HT} {n : Nat} {l : Launch} {G : GT} {y : MethodName} {w : Cond} {fr lo mc ms : Nat} {as : List Value} (h : AM l G y w fr lo mc ms as H n (HQ (.inl none) H n)) : AM l G y w fr lo mc ms as H n (rV H n) := h
abbrev GQ9 (es : List String) (q : Nat × Nat) (H : HT) (n : Nat) : PT := HQ (xA es q.1 (.int (nI q.2))) H n
theorem nI_n1 {t : Nat} (h : t < 2 ^ 30) : nI t ≠ -1 := fun e => by
  have h9 := congrArg Int32.toInt e
  rw [nI_toInt (by omega)] at h9
  have : (-1 : Int32).toInt = -1 := by decide
  omega
abbrev MX10_throwIfRefused : MT := (RX10, cX10_throwIfRefused, 1, none, [], "throwIfRefused")
set_option maxHeartbeats 4000000 in
theorem g_ref {l : Launch} {G : GT} {n : Nat} {H : HT} {c : Nat} (hc : c < 4) : AM l G yX10_throwIfRefused (.code yX10_throwIfRefused cX10_throwIfRefused 1 none) 6 360 1 6 [.int (nI c)] (H) n (HQ (if c = 0 then .inl none else .inr ([eIO, eIA, eIS].getD (c - 1) "")) H n) := by
  refine aw_enter (M := MX10_throwIfRefused) rfl rfl (by decide +kernel) rfl (Nat.le_of_ble_eq_true rfl) ?_
  show AW l G MX10_throwIfRefused 6 360 1 6 _ n 0 0 0 [(0, .int (nI c))] [] _ n
  refine aw_iload_n dX10_throwIfRefused_0 rfl rfl ?_
  refine aw_iconst_n 1 dX10_throwIfRefused_1 (by decide) ?_
  refine aw_icmp_ne_n (by omega) (by omega) (tgt := 16) dX10_throwIfRefused_2 (by decide) (fun c_1 => ?_) (fun c_1 => ?_)
  · refine aw_iload_n dX10_throwIfRefused_16 rfl rfl ?_
    refine aw_iconst_n 2 dX10_throwIfRefused_17 (by decide) ?_
    refine aw_icmp_ne_n (by omega) (by omega) (tgt := 32) dX10_throwIfRefused_18 (by decide) (fun c_2 => ?_) (fun c_2 => ?_)
    · refine aw_iload_n dX10_throwIfRefused_32 rfl rfl ?_
      refine aw_iconst_n 3 dX10_throwIfRefused_33 (by decide) ?_
      refine aw_icmp_ne_n (by omega) (by omega) (tgt := 48) dX10_throwIfRefused_34 (by decide) (fun c_3 => ?_) (fun c_3 => ?_)
      · refine aw_vret rfl (by decide) (by decide) dX10_throwIfRefused_48 (HQ.of ?_)
        rw [if_pos (by omega)]
      · refine aw_throwX (is := 366) tw_ISE rfl (List.mem_of_getElem? (i := 2) rfl) dX10_throwIfRefused_37 dX10_throwIfRefused_40 (Or.inr ⟨dX10_throwIfRefused_41, rfl⟩) dX10_throwIfRefused_44 dX10_throwIfRefused_47 (Nat.le_of_ble_eq_true rfl) (Nat.le_of_ble_eq_true rfl) (by decide) (by decide) (HQ.of ?_)
        have e9 : c = 3 := by omega
        subst e9; rfl
    · refine aw_throwX (is := 364) tw_IAE rfl (List.mem_of_getElem? (i := 1) rfl) dX10_throwIfRefused_21 dX10_throwIfRefused_24 (Or.inr ⟨dX10_throwIfRefused_25, rfl⟩) dX10_throwIfRefused_28 dX10_throwIfRefused_31 (Nat.le_of_ble_eq_true rfl) (Nat.le_of_ble_eq_true rfl) (by decide) (by decide) (HQ.of ?_)
      have e9 : c = 2 := by omega
      subst e9; rfl
  · refine aw_throwX (is := 362) tw_IOOBE rfl (List.mem_of_getElem? (i := 0) rfl) dX10_throwIfRefused_5 dX10_throwIfRefused_8 (Or.inr ⟨dX10_throwIfRefused_9, rfl⟩) dX10_throwIfRefused_12 dX10_throwIfRefused_15 (Nat.le_of_ble_eq_true rfl) (Nat.le_of_ble_eq_true rfl) (by decide) (by decide) (HQ.of ?_)
    have e9 : c = 1 := by omega
    subst e9; rfl
abbrev MX10_requirePendulum : MT := (RX10, cX10_requirePendulum, 2, none, [], "requirePendulum")
set_option maxHeartbeats 4000000 in
theorem g_reqP {l : Launch} {G : GT} {n : Nat} {H : HT} {x : Nat} {J : Nat → Int32} {B : Nat → Nat → Int32} {K : Nat} {V : Nat → Nat} {sv : Bool} {e1 e2 : Int32} (h0 : H x = gC x sv e1 e2) (hst : sAt H (x + 1) J B) (hS : SV J B V) (hB : VB K V) (v : Int32) : AM l G yX10_requirePendulum (.code yX10_requirePendulum cX10_requirePendulum 2 none) 6 360 1 6 [.ref x, .int v] (H) n (HQ (if isK v (V 2) = true then .inl none else .inr eIO) H n) := by
  refine aw_enter (M := MX10_requirePendulum) rfl rfl (by decide +kernel) rfl (Nat.le_of_ble_eq_true rfl) ?_
  show AW l G MX10_requirePendulum 6 360 1 6 _ n 0 0 0 [(0, .ref x), (1, .int v)] [] _ n
  refine aw_aload_n dX10_requirePendulum_0 rfl rfl ?_
  refine aw_get (v := .ref (x + 1)) fl_X10_10 (h0) rfl dX10_requirePendulum_1 ?_
  refine aw_iload_n dX10_requirePendulum_4 rfl rfl ?_
  have hq_5 := s_has (l := l) (G := G) (n := n) (f := H) (o := x + 1) hS hB v
  rw [hst.self] at hq_5
  refine aw_cI (as := [Value.int v]) (rest := []) (MV.c mV_X8_hasPendulum) hq_5 ml_X10_368 (RC.w hst.obj rfl) dX10_requirePendulum_5 rfl rfl (by decide) (Nat.le_of_ble_eq_true rfl) (by decide) ?_
  refine aw_if_ne_b (tgt := 22) dX10_requirePendulum_8 (by decide) (fun c_1 => ?_) (fun c_1 => ?_)
  · refine aw_vret rfl (by decide) (by decide) dX10_requirePendulum_22 (HQ.of ?_)
    rw [if_pos c_1]
  · refine aw_throwX (is := 371) tw_IOOBE rfl (List.mem_of_getElem? (i := 3) rfl) dX10_requirePendulum_11 dX10_requirePendulum_14 (Or.inr ⟨dX10_requirePendulum_15, rfl⟩) dX10_requirePendulum_18 dX10_requirePendulum_21 (Nat.le_of_ble_eq_true rfl) (Nat.le_of_ble_eq_true rfl) (by decide) (by decide) (HQ.of ?_)
    rw [c_1]; rfl
abbrev MX10_requireSwinging : MT := (RX10, cX10_requireSwinging, 2, none, [], "requireSwinging")
set_option maxHeartbeats 4000000 in
theorem g_reqS {l : Launch} {G : GT} {n : Nat} {H : HT} {x : Nat} {J : Nat → Int32} {B : Nat → Nat → Int32} {K : Nat} {V : Nat → Nat} {sv : Bool} {e1 e2 : Int32} (h0 : H x = gC x sv e1 e2) (hst : sAt H (x + 1) J B) (hS : SV J B V) (hB : VB K V) {k : Nat} (hk : k < V 2) : AM l G yX10_requireSwinging (.code yX10_requireSwinging cX10_requireSwinging 2 none) 6 360 1 6 [.ref x, .int (nI k)] (H) n (HQ (if V (12 + k) ≠ 0 then .inl none else .inr eNS) H n) := by
  refine aw_enter (M := MX10_requireSwinging) rfl rfl (by decide +kernel) rfl (Nat.le_of_ble_eq_true rfl) ?_
  show AW l G MX10_requireSwinging 6 360 1 6 _ n 0 0 0 [(0, .ref x), (1, .int (nI k))] [] _ n
  refine aw_aload_n dX10_requireSwinging_0 rfl rfl ?_
  refine aw_get (v := .ref (x + 1)) fl_X10_10 (h0) rfl dX10_requireSwinging_1 ?_
  refine aw_iload_n dX10_requireSwinging_4 rfl rfl ?_
  have hq_5 := s_swinging (l := l) (G := G) (n := n) (f := H) (o := x + 1) hS hB hk
  rw [hst.self] at hq_5
  refine aw_cI (as := [Value.int (nI k)]) (rest := []) (MV.c mV_X8_isSwinging) hq_5 ml_X10_288 (RC.w hst.obj rfl) dX10_requireSwinging_5 rfl rfl (by decide) (Nat.le_of_ble_eq_true rfl) (by decide) ?_
  refine aw_if_ne_b (tgt := 22) dX10_requireSwinging_8 (by decide) (fun c_1 => ?_) (fun c_1 => ?_)
  · refine aw_vret rfl (by decide) (by decide) dX10_requireSwinging_22 (HQ.of ?_)
    rw [if_pos (of_decide_eq_true c_1)]
  · refine aw_throwX (is := 373) tw_NSEE rfl (List.mem_of_getElem? (i := 4) rfl) dX10_requireSwinging_11 dX10_requireSwinging_14 (Or.inr ⟨dX10_requireSwinging_15, rfl⟩) dX10_requireSwinging_18 dX10_requireSwinging_21 (Nat.le_of_ble_eq_true rfl) (Nat.le_of_ble_eq_true rfl) (by decide) (by decide) (HQ.of ?_)
    rw [if_neg (of_decide_eq_false c_1)]
abbrev MX10_requireLeg : MT := (RX10, cX10_requireLeg, 2, none, [], "requireLeg")
set_option maxHeartbeats 4000000 in
theorem g_reqL {l : Launch} {G : GT} {n : Nat} {H : HT} {x : Nat} {J : Nat → Int32} {B : Nat → Nat → Int32} {K : Nat} {V : Nat → Nat} {sv : Bool} {e1 e2 : Int32} (h0 : H x = gC x sv e1 e2) (hst : sAt H (x + 1) J B) (hS : SV J B V) (hB : VB K V) (v : Int32) : AM l G yX10_requireLeg (.code yX10_requireLeg cX10_requireLeg 2 none) 6 360 1 6 [.ref x, .int v] (H) n (HQ (if isK v (V 3) = true then .inl none else .inr eIO) H n) := by
  refine aw_enter (M := MX10_requireLeg) rfl rfl (by decide +kernel) rfl (Nat.le_of_ble_eq_true rfl) ?_
  show AW l G MX10_requireLeg 6 360 1 6 _ n 0 0 0 [(0, .ref x), (1, .int v)] [] _ n
  refine aw_aload_n dX10_requireLeg_0 rfl rfl ?_
  refine aw_get (v := .ref (x + 1)) fl_X10_10 (h0) rfl dX10_requireLeg_1 ?_
  refine aw_iload_n dX10_requireLeg_4 rfl rfl ?_
  have hq_5 := s_hasLeg (l := l) (G := G) (n := n) (f := H) (o := x + 1) hS hB v
  rw [hst.self] at hq_5
  refine aw_cI (as := [Value.int v]) (rest := []) (MV.c mV_X8_hasLeg) hq_5 ml_X10_386 (RC.w hst.obj rfl) dX10_requireLeg_5 rfl rfl (by decide) (Nat.le_of_ble_eq_true rfl) (by decide) ?_
  refine aw_if_ne_b (tgt := 22) dX10_requireLeg_8 (by decide) (fun c_1 => ?_) (fun c_1 => ?_)
  · refine aw_vret rfl (by decide) (by decide) dX10_requireLeg_22 (HQ.of ?_)
    rw [if_pos c_1]
  · refine aw_throwX (is := 389) tw_IOOBE rfl (List.mem_of_getElem? (i := 12) rfl) dX10_requireLeg_11 dX10_requireLeg_14 (Or.inr ⟨dX10_requireLeg_15, rfl⟩) dX10_requireLeg_18 dX10_requireLeg_21 (Nat.le_of_ble_eq_true rfl) (Nat.le_of_ble_eq_true rfl) (by decide) (by decide) (HQ.of ?_)
    rw [c_1]; rfl
abbrev MX10_requireRelay : MT := (RX10, cX10_requireRelay, 1, none, [], "requireRelay")
set_option maxHeartbeats 4000000 in
theorem g_reqR {l : Launch} {G : GT} {n : Nat} {H : HT} {x : Nat} {J : Nat → Int32} {B : Nat → Nat → Int32} {K : Nat} {V : Nat → Nat} {sv : Bool} {e1 e2 : Int32} (h0 : H x = gC x sv e1 e2) (hst : sAt H (x + 1) J B) (hS : SV J B V) (hB : VB K V) : AM l G yX10_requireRelay (.code yX10_requireRelay cX10_requireRelay 1 none) 6 360 1 6 [.ref x] (H) n (HQ (if V 2 < V 3 then .inr eIS else .inl none) H n) := by
  refine aw_enter (M := MX10_requireRelay) rfl rfl (by decide +kernel) rfl (Nat.le_of_ble_eq_true rfl) ?_
  have hcn := hB.cnt
  have hlg := hB.legs
  show AW l G MX10_requireRelay 6 360 1 6 _ n 0 0 0 [(0, .ref x)] [] _ n
  refine aw_aload_n dX10_requireRelay_0 rfl rfl ?_
  refine aw_get (v := .ref (x + 1)) fl_X10_10 (h0) rfl dX10_requireRelay_1 ?_
  refine aw_get (v := .int (J 8)) fl_X10_108 hst.obj rfl dX10_requireRelay_4 ?_
  rw [hS.cnt]
  refine aw_aload_n dX10_requireRelay_7 rfl rfl ?_
  refine aw_get (v := .ref (x + 1)) fl_X10_10 (h0) rfl dX10_requireRelay_8 ?_
  refine aw_get (v := .int (J 9)) fl_X10_221 hst.obj rfl dX10_requireRelay_11 ?_
  rw [hS.leg]
  refine aw_icmp_ge_n (by omega) (by omega) (tgt := 28) dX10_requireRelay_14 (by decide) (fun c_1 => ?_) (fun c_1 => ?_)
  · refine aw_vret rfl (by decide) (by decide) dX10_requireRelay_28 (HQ.of ?_)
    rw [if_neg (by omega)]
  · refine aw_throwX (is := 391) tw_ISE rfl (List.mem_of_getElem? (i := 11) rfl) dX10_requireRelay_17 dX10_requireRelay_20 (Or.inr ⟨dX10_requireRelay_21, rfl⟩) dX10_requireRelay_24 dX10_requireRelay_27 (Nat.le_of_ble_eq_true rfl) (Nat.le_of_ble_eq_true rfl) (by decide) (by decide) (HQ.of ?_)
    rw [if_pos (by omega)]
abbrev MX10_requireMeeting : MT := (RX10, cX10_requireMeeting, 1, (some .int), [], "requireMeeting")
set_option maxHeartbeats 4000000 in
theorem g_reqM {l : Launch} {G : GT} {n : Nat} {H : HT} {r : Option Nat} (hr : ∀ t, r = some t → t < 2 ^ 30) : AM l G yX10_requireMeeting (.code yX10_requireMeeting cX10_requireMeeting 1 (some .int)) 6 360 1 6 [.int (mtI r)] (H) n (HQ (match r with | some t => .inl (some (.int (nI t))) | none => .inr eNS) H n) := by
  refine aw_enter (M := MX10_requireMeeting) rfl rfl (by decide +kernel) rfl (Nat.le_of_ble_eq_true rfl) ?_
  show AW l G MX10_requireMeeting 6 360 1 6 _ n 0 0 0 [(0, .int (mtI r))] [] _ n
  refine aw_iload_n dX10_requireMeeting_0 rfl rfl ?_
  refine aw_iconst (v := -1) dX10_requireMeeting_1 (by decide) ?_
  refine aw_icmp_ne (tgt := 16) dX10_requireMeeting_2 (by decide) (fun c_1 => ?_) (fun c_1 => ?_)
  · refine aw_iload_n dX10_requireMeeting_16 rfl rfl ?_
    refine aw_iret rfl (by decide) (by decide) dX10_requireMeeting_17 (HQ.of ?_)
    cases r with
      | none => exact absurd rfl c_1
      | some t => rfl
  · refine aw_throwX (is := 377) tw_NSEE rfl (List.mem_of_getElem? (i := 10) rfl) dX10_requireMeeting_5 dX10_requireMeeting_8 (Or.inr ⟨dX10_requireMeeting_9, rfl⟩) dX10_requireMeeting_12 dX10_requireMeeting_15 (Nat.le_of_ble_eq_true rfl) (Nat.le_of_ble_eq_true rfl) (by decide) (by decide) (HQ.of ?_)
    cases r with
      | none => rfl
      | some t => exfalso; exact nI_n1 (hr t rfl) c_1
abbrev MX10_requireEnough : MT := (RX10, cX10_requireEnough, 1, (some .int), [], "requireEnough")
set_option maxHeartbeats 4000000 in
theorem g_reqE {l : Launch} {G : GT} {n : Nat} {H : HT} {q : Nat} (hq : q ≤ 9) : AM l G yX10_requireEnough (.code yX10_requireEnough cX10_requireEnough 1 (some .int)) 6 360 1 6 [.int (fwI q)] (H) n (HQ (if q = 9 then .inr eNS else .inl (some (.int (nI q)))) H n) := by
  refine aw_enter (M := MX10_requireEnough) rfl rfl (by decide +kernel) rfl (Nat.le_of_ble_eq_true rfl) ?_
  show AW l G MX10_requireEnough 6 360 1 6 _ n 0 0 0 [(0, .int (fwI q))] [] _ n
  refine aw_iload_n dX10_requireEnough_0 rfl rfl ?_
  refine aw_iconst (v := -1) dX10_requireEnough_1 (by decide) ?_
  refine aw_icmp_ne (tgt := 16) dX10_requireEnough_2 (by decide) (fun c_1 => ?_) (fun c_1 => ?_)
  · refine aw_iload_n dX10_requireEnough_16 rfl rfl ?_
    refine aw_iret rfl (by decide) (by decide) dX10_requireEnough_17 (HQ.of ?_)
    by_cases z : q = 9
    · exfalso; subst z; exact c_1 rfl
    · unfold fwI; rw [if_neg z, if_neg z]
  · refine aw_throwX (is := 395) tw_NSEE rfl (List.mem_of_getElem? (i := 14) rfl) dX10_requireEnough_5 dX10_requireEnough_8 (Or.inr ⟨dX10_requireEnough_9, rfl⟩) dX10_requireEnough_12 dX10_requireEnough_15 (Nat.le_of_ble_eq_true rfl) (Nat.le_of_ble_eq_true rfl) (by decide) (by decide) (HQ.of ?_)
    have z : q = 9 := by
      apply Classical.byContradiction; intro z; unfold fwI at c_1; rw [if_neg z] at c_1; exact nI_n1 (by omega) c_1
    rw [if_pos z]
abbrev MX10_requireRecord : MT := (RX10, cX10_requireRecord, 2, none, [], "requireRecord")
set_option maxHeartbeats 4000000 in
theorem g_reqC {l : Launch} {G : GT} {n : Nat} {H : HT} {x : Nat} {J : Nat → Int32} {B : Nat → Nat → Int32} {K : Nat} {V : Nat → Nat} {sv : Bool} {e1 e2 : Int32} (h0 : H x = gC x sv e1 e2) (hst : sAt H (x + 1) J B) (hS : SV J B V) (hB : VB K V) (v : Int32) : AM l G yX10_requireRecord (.code yX10_requireRecord cX10_requireRecord 2 none) 6 360 1 6 [.ref x, .int v] (H) n (HQ (if isK v 3 = true then (if V (36 + v.toNatClampNeg) = 0 then .inr eNS else .inl none) else .inr eIA) H n) := by
  refine aw_enter (M := MX10_requireRecord) rfl rfl (by decide +kernel) rfl (Nat.le_of_ble_eq_true rfl) ?_
  show AW l G MX10_requireRecord 6 360 1 6 _ n 0 0 0 [(0, .ref x), (1, .int v)] [] _ n
  refine aw_iload_n dX10_requireRecord_0 rfl rfl ?_
  refine aw_sI (as := [Value.int v]) (rest := []) mS_X8_isKind (s_isKind v) ml_X10_379 dX10_requireRecord_1 rfl rfl (by decide) (Nat.le_of_ble_eq_true rfl) (by decide) ?_
  refine aw_if_ne_b (tgt := 18) dX10_requireRecord_4 (by decide) (fun c_1 => ?_) (fun c_1 => ?_)
  · obtain ⟨k, hk, rfl⟩ := isK_of (by omega) c_1
    have hrk := VB.rec hB (k := k) hk
    refine aw_aload_n dX10_requireRecord_18 rfl rfl ?_
    refine aw_get (v := .ref (x + 1)) fl_X10_10 (h0) rfl dX10_requireRecord_19 ?_
    refine aw_iload_n dX10_requireRecord_22 rfl rfl ?_
    have hq_23 := s_rec (l := l) (G := G) (n := n) (f := H) (o := x + 1) hS hB hk
    rw [hst.self] at hq_23
    refine aw_cI (as := [Value.int (nI k)]) (rest := []) (MV.c mV_X8_recordAt) hq_23 ml_X10_152 (RC.w hst.obj rfl) dX10_requireRecord_23 rfl rfl (by decide) (Nat.le_of_ble_eq_true rfl) (by decide) ?_
    refine aw_if_ne_n (by omega) (tgt := 40) dX10_requireRecord_26 (by decide) (fun c_2 => ?_) (fun c_2 => ?_)
    · refine aw_vret rfl (by decide) (by decide) dX10_requireRecord_40 (HQ.of ?_)
      rw [if_pos c_1, nIc (by omega), if_neg c_2]
    · refine aw_throwX (is := 384) tw_NSEE rfl (List.mem_of_getElem? (i := 6) rfl) dX10_requireRecord_29 dX10_requireRecord_32 (Or.inr ⟨dX10_requireRecord_33, rfl⟩) dX10_requireRecord_36 dX10_requireRecord_39 (Nat.le_of_ble_eq_true rfl) (Nat.le_of_ble_eq_true rfl) (by decide) (by decide) (HQ.of ?_)
      rw [if_pos c_1, nIc (by omega), if_pos c_2]
  · refine aw_throwX (is := 382) tw_IAE rfl (List.mem_of_getElem? (i := 5) rfl) dX10_requireRecord_7 dX10_requireRecord_10 (Or.inr ⟨dX10_requireRecord_11, rfl⟩) dX10_requireRecord_14 dX10_requireRecord_17 (Nat.le_of_ble_eq_true rfl) (Nat.le_of_ble_eq_true rfl) (by decide) (by decide) (HQ.of ?_)
    rw [c_1]; rfl
abbrev MX10_requireQuota : MT := (RX10, cX10_requireQuota, 2, none, [], "requireQuota")
set_option maxHeartbeats 4000000 in
theorem g_reqQ {l : Launch} {G : GT} {n : Nat} {H : HT} {a : Nat} (ha : a < 2) (v : Int32) : AM l G yX10_requireQuota (.code yX10_requireQuota cX10_requireQuota 2 none) 6 360 1 6 [.int v, .int (nI a)] (H) n (HQ (if inB v (nI a) (nI 999) = true then .inl none else .inr eIA) H n) := by
  refine aw_enter (M := MX10_requireQuota) rfl rfl (by decide +kernel) rfl (Nat.le_of_ble_eq_true rfl) ?_
  show AW l G MX10_requireQuota 6 360 1 6 _ n 0 0 0 [(0, .int v), (1, .int (nI a))] [] _ n
  refine aw_iload_n dX10_requireQuota_0 rfl rfl ?_
  refine aw_iload_n dX10_requireQuota_1 rfl rfl ?_
  refine aw_icmp_lt (tgt := 12) dX10_requireQuota_2 (by decide) (fun c_1 => ?_) (fun c_1 => ?_)
  · refine aw_throwX (is := 393) tw_IAE rfl (List.mem_of_getElem? (i := 13) rfl) dX10_requireQuota_12 dX10_requireQuota_15 (Or.inr ⟨dX10_requireQuota_16, rfl⟩) dX10_requireQuota_19 dX10_requireQuota_22 (Nat.le_of_ble_eq_true rfl) (Nat.le_of_ble_eq_true rfl) (by decide) (by decide) (HQ.of ?_)
    rw [if_neg]
    intro z
    simp only [inB, Bool.and_eq_true, decide_eq_true_eq] at z
    first | exact absurd z.1 (Int32.not_le.mpr c_1) | exact absurd z.2 (Int32.not_le.mpr c_2) | exact c_2 z.2
  · refine aw_iload_n dX10_requireQuota_5 rfl rfl ?_
    refine aw_sipush_n 999 dX10_requireQuota_6 (by decide) ?_
    refine aw_icmp_le (tgt := 23) dX10_requireQuota_9 (by decide) (fun c_2 => ?_) (fun c_2 => ?_)
    · refine aw_vret rfl (by decide) (by decide) dX10_requireQuota_23 (HQ.of ?_)
      rw [if_pos]; simp_all [inB]
    · refine aw_throwX (is := 393) tw_IAE rfl (List.mem_of_getElem? (i := 13) rfl) dX10_requireQuota_12 dX10_requireQuota_15 (Or.inr ⟨dX10_requireQuota_16, rfl⟩) dX10_requireQuota_19 dX10_requireQuota_22 (Nat.le_of_ble_eq_true rfl) (Nat.le_of_ble_eq_true rfl) (by decide) (by decide) (HQ.of ?_)
      rw [if_neg]
      intro z
      simp only [inB, Bool.and_eq_true, decide_eq_true_eq] at z
      first | exact absurd z.1 (Int32.not_le.mpr c_1) | exact absurd z.2 (Int32.not_le.mpr c_2) | exact c_2 z.2
