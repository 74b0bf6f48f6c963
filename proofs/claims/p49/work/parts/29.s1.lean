/-! the class' state: its ints J, its arrays B, nine cells from o on -/
def sFs (o : Nat) (J : Nat → Int32) : List Value := [.ref (o + 1), .ref (o + 2), .ref (o + 3), .ref (o + 4), .ref (o + 5), .ref (o + 6), .ref (o + 7), .ref (o + 8), .int (J 8), .int (J 9), .int (J 10), .int (J 11)]
def sC (o : Nat) (J : Nat → Int32) (B : Nat → Nat → Int32) : Nat → va_E := fun j => match j with
  | 0 => .inr (5, sFs o J)
  | 1 => .inl (0, (8, .inl (B 0)))
  | 2 => .inl (0, (8, .inl (B 1)))
  | 3 => .inl (0, (8, .inl (B 2)))
  | 4 => .inl (0, (8, .inl (B 3)))
  | 5 => .inl (0, (8, .inl (B 4)))
  | 6 => .inl (0, (3, .inl (B 5)))
  | 7 => .inl (0, (3, .inl (B 6)))
  | 8 => .inl (0, (6, .inl (B 7)))
  | _ => nilc
abbrev sU (f : HT) (o : Nat) (J : Nat → Int32) (B : Nat → Nat → Int32) : HT := rU f o 9 (sC o J B)
section SR9
variable {f : HT} {o : Nat} {J : Nat → Int32} {B : Nat → Nat → Int32}
theorem sU_0 : sU f o J B o = .inr (5, sFs o J) := rU_at 0 (by decide)
theorem sU_1 : sU f o J B (o + 1) = .inl (0, (8, .inl (B 0))) := rU_at 1 (by decide)
theorem sU_2 : sU f o J B (o + 2) = .inl (0, (8, .inl (B 1))) := rU_at 2 (by decide)
theorem sU_3 : sU f o J B (o + 3) = .inl (0, (8, .inl (B 2))) := rU_at 3 (by decide)
theorem sU_4 : sU f o J B (o + 4) = .inl (0, (8, .inl (B 3))) := rU_at 4 (by decide)
theorem sU_5 : sU f o J B (o + 5) = .inl (0, (8, .inl (B 4))) := rU_at 5 (by decide)
theorem sU_6 : sU f o J B (o + 6) = .inl (0, (3, .inl (B 5))) := rU_at 6 (by decide)
theorem sU_7 : sU f o J B (o + 7) = .inl (0, (3, .inl (B 6))) := rU_at 7 (by decide)
theorem sU_8 : sU f o J B (o + 8) = .inl (0, (6, .inl (B 7))) := rU_at 8 (by decide)
theorem sC_ne {j k : Nat} {v : Int32} (hj : j ≠ 0) : sC o (va_up J k v) B j = sC o J B j := by
  match j, hj with
  | 1, _ => rfl
  | 2, _ => rfl
  | 3, _ => rfl
  | 4, _ => rfl
  | 5, _ => rfl
  | 6, _ => rfl
  | 7, _ => rfl
  | 8, _ => rfl
  | _ + 9, _ => rfl
theorem sC_I {k : Nat} {v : Int32} (hk : k = 8 ∨ k = 9 ∨ k = 10 ∨ k = 11) : va_up (sC o J B) 0 (.inr (5, (sFs o J).set k (.int v))) = sC o (va_up J k v) B := by
  funext j
  by_cases hj : j = 0
  · subst hj
    rw [up_self]
    show _ = (Sum.inr (5, sFs o (va_up J k v)) : va_E)
    rcases hk with rfl | rfl | rfl | rfl <;> rfl
  · rw [up_ne hj, sC_ne hj]
theorem sC_A {j : Nat} (hj : j < 8) {t N : Nat} {h : Nat → Int32} (he : ∀ B' : Nat → Nat → Int32, sC o J B' (j + 1) = .inl (t, (N, .inl (B' j)))) : va_up (sC o J B) (j + 1) (.inl (t, (N, .inl h))) = sC o J (va_up B j h) := by
  funext k
  by_cases hk : k = j + 1
  · subst hk
    rw [up_self, he, up_self]
  · rw [up_ne hk]
    have ha : ∀ i, i ≠ j → va_up B j h i = B i := fun i hi => up_ne hi
    match k, hk with
    | 0, _ => rfl
    | 1, hk => show (Sum.inl (0, (8, .inl (B 0))) : va_E) = .inl (0, (8, .inl (va_up B j h 0))); rw [ha 0 (by omega)]
    | 2, hk => show (Sum.inl (0, (8, .inl (B 1))) : va_E) = .inl (0, (8, .inl (va_up B j h 1))); rw [ha 1 (by omega)]
    | 3, hk => show (Sum.inl (0, (8, .inl (B 2))) : va_E) = .inl (0, (8, .inl (va_up B j h 2))); rw [ha 2 (by omega)]
    | 4, hk => show (Sum.inl (0, (8, .inl (B 3))) : va_E) = .inl (0, (8, .inl (va_up B j h 3))); rw [ha 3 (by omega)]
    | 5, hk => show (Sum.inl (0, (8, .inl (B 4))) : va_E) = .inl (0, (8, .inl (va_up B j h 4))); rw [ha 4 (by omega)]
    | 6, hk => show (Sum.inl (0, (3, .inl (B 5))) : va_E) = .inl (0, (3, .inl (va_up B j h 5))); rw [ha 5 (by omega)]
    | 7, hk => show (Sum.inl (0, (3, .inl (B 6))) : va_E) = .inl (0, (3, .inl (va_up B j h 6))); rw [ha 6 (by omega)]
    | 8, hk => show (Sum.inl (0, (6, .inl (B 7))) : va_E) = .inl (0, (6, .inl (va_up B j h 7))); rw [ha 7 (by omega)]
    | k + 9, hk => rfl
theorem sU_A {j : Nat} (hj : j < 8) {t N : Nat} {h : Nat → Int32} (he : ∀ B' : Nat → Nat → Int32, sC o J B' (j + 1) = .inl (t, (N, .inl (B' j)))) : va_up (sU f o J B) (o + (j + 1)) (.inl (t, (N, .inl h))) = sU f o J (va_up B j h) := (rU_up (j + 1) (by omega) _).trans (by rw [sC_A hj he])
theorem sU_A0 {h : Nat → Int32} : va_up (sU f o J B) (o + 1) (.inl (0, (8, .inl h))) = sU f o J (va_up B 0 h) := sU_A (j := 0) (by decide) (fun _ => rfl)
theorem sU_A1 {h : Nat → Int32} : va_up (sU f o J B) (o + 2) (.inl (0, (8, .inl h))) = sU f o J (va_up B 1 h) := sU_A (j := 1) (by decide) (fun _ => rfl)
theorem sU_A2 {h : Nat → Int32} : va_up (sU f o J B) (o + 3) (.inl (0, (8, .inl h))) = sU f o J (va_up B 2 h) := sU_A (j := 2) (by decide) (fun _ => rfl)
theorem sU_A3 {h : Nat → Int32} : va_up (sU f o J B) (o + 4) (.inl (0, (8, .inl h))) = sU f o J (va_up B 3 h) := sU_A (j := 3) (by decide) (fun _ => rfl)
theorem sU_A4 {h : Nat → Int32} : va_up (sU f o J B) (o + 5) (.inl (0, (8, .inl h))) = sU f o J (va_up B 4 h) := sU_A (j := 4) (by decide) (fun _ => rfl)
theorem sU_A5 {h : Nat → Int32} : va_up (sU f o J B) (o + 6) (.inl (0, (3, .inl h))) = sU f o J (va_up B 5 h) := sU_A (j := 5) (by decide) (fun _ => rfl)
theorem sU_A6 {h : Nat → Int32} : va_up (sU f o J B) (o + 7) (.inl (0, (3, .inl h))) = sU f o J (va_up B 6 h) := sU_A (j := 6) (by decide) (fun _ => rfl)
theorem sU_A7 {h : Nat → Int32} : va_up (sU f o J B) (o + 8) (.inl (0, (6, .inl h))) = sU f o J (va_up B 7 h) := sU_A (j := 7) (by decide) (fun _ => rfl)
section SW9
variable {l : Launch} {G : GT} {M : MT} {fr lo mc ms : Nat} {Post : PT} {n0 nc ns pc : Nat} {L : List (Nat × Value)} {S : List Value} {n : Nat}
theorem aw_sput {ix k : Nat} {v : Int32} {ty : FieldType} (hF : FP M.1 ix 5 k ty) (hk : k = 8 ∨ k = 9 ∨ k = 10 ∨ k = 11) (hn : narrow ty (.int v) = .int v) (hfit : fits ty (.int v) = true) (hdg : decode M.2.1 pc = .ok (.putfield ix, 3)) (kk : AW l G M fr lo mc ms Post n0 nc ns (pc + 3) L S (sU f o (va_up J k v) B) n) : AW l G M fr lo mc ms Post n0 nc ns pc L (.int v :: .ref o :: S) (sU f o J B) n := by
  refine aw_put hF sU_0 (fun _ => hn) (fun _ => hfit) (by show k < 12; omega) hdg ?_
  have e : va_up (sU f o J B) o (.inr (5, (sFs o J).set k (.int v))) = sU f o (va_up J k v) B := (rU_up 0 (by decide) _).trans (by rw [sC_I hk])
  rw [e]
  exact kk
end SW9
end SR9
/-- the state tells the numbers V (what lies behind the last pendulum and the last leg is free) -/
def SV (J : Nat → Int32) (B : Nat → Nat → Int32) (V : Nat → Nat) : Prop := (J 8 = nI (V 2)) ∧ (J 9 = nI (V 3)) ∧ (J 10 = nI (V 0)) ∧ (J 11 = nI (V 1)) ∧ (∀ k, k < V 2 → B 0 k = nI (V (4 + k))) ∧ (∀ k, k < V 2 → B 1 k = nI (perN (V (4 + k)))) ∧ (∀ k, k < V 2 → B 2 k = nI (V (12 + k))) ∧ (∀ k, k < V 2 → B 3 k = nI (V (20 + k))) ∧ (∀ k, k < V 2 → B 4 k = nI (V (28 + k))) ∧ (∀ k, k < 3 → B 5 k = nI (V (36 + k))) ∧ (∀ k, k < 3 → B 6 k = nI (V (39 + k))) ∧ (∀ k, k < V 3 → B 7 k = nI (V (42 + k)))
theorem SV.cnt {J : Nat → Int32} {B : Nat → Nat → Int32} {V : Nat → Nat} (h : SV J B V) : J 8 = nI (V 2) := h.1
theorem SV.leg {J : Nat → Int32} {B : Nat → Nat → Int32} {V : Nat → Nat} (h : SV J B V) : J 9 = nI (V 3) := h.2.1
theorem SV.now {J : Nat → Int32} {B : Nat → Nat → Int32} {V : Nat → Nat} (h : SV J B V) : J 10 = nI (V 0) := h.2.2.1
theorem SV.fric {J : Nat → Int32} {B : Nat → Nat → Int32} {V : Nat → Nat} (h : SV J B V) : J 11 = nI (V 1) := h.2.2.2.1
theorem SV.len {J : Nat → Int32} {B : Nat → Nat → Int32} {V : Nat → Nat} (h : SV J B V) : ∀ k, k < V 2 → B 0 k = nI (V (4 + k)) := h.2.2.2.2.1
theorem SV.per {J : Nat → Int32} {B : Nat → Nat → Int32} {V : Nat → Nat} (h : SV J B V) : ∀ k, k < V 2 → B 1 k = nI (perN (V (4 + k))) := h.2.2.2.2.2.1
theorem SV.amp {J : Nat → Int32} {B : Nat → Nat → Int32} {V : Nat → Nat} (h : SV J B V) : ∀ k, k < V 2 → B 2 k = nI (V (12 + k)) := h.2.2.2.2.2.2.1
theorem SV.start {J : Nat → Int32} {B : Nat → Nat → Int32} {V : Nat → Nat} (h : SV J B V) : ∀ k, k < V 2 → B 3 k = nI (V (20 + k)) := h.2.2.2.2.2.2.2.1
theorem SV.sw {J : Nat → Int32} {B : Nat → Nat → Int32} {V : Nat → Nat} (h : SV J B V) : ∀ k, k < V 2 → B 4 k = nI (V (28 + k)) := h.2.2.2.2.2.2.2.2.1
theorem SV.rec {J : Nat → Int32} {B : Nat → Nat → Int32} {V : Nat → Nat} (h : SV J B V) : ∀ k, k < 3 → B 5 k = nI (V (36 + k)) := h.2.2.2.2.2.2.2.2.2.1
theorem SV.hol {J : Nat → Int32} {B : Nat → Nat → Int32} {V : Nat → Nat} (h : SV J B V) : ∀ k, k < 3 → B 6 k = nI (V (39 + k)) := h.2.2.2.2.2.2.2.2.2.2.1
theorem SV.wish {J : Nat → Int32} {B : Nat → Nat → Int32} {V : Nat → Nat} (h : SV J B V) : ∀ k, k < V 3 → B 7 k = nI (V (42 + k)) := h.2.2.2.2.2.2.2.2.2.2.2
abbrev MX8_isKind : MT := (RX8, cX8_isKind, 1, (some .boolean), [], "isKind")
set_option maxHeartbeats 4000000 in
theorem s_isKind {l : Launch} {G : GT} {n : Nat} {f : HT} (v : Int32) : AM l G yX8_isKind (.code yX8_isKind cX8_isKind 1 (some .boolean)) 0 0 0 0 [.int v] (f) n (rI (bI (isK v 3)) f n) := by
  refine aw_enter (M := MX8_isKind) rfl rfl (by decide +kernel) rfl (Nat.le_of_ble_eq_true rfl) ?_
  show AW l G MX8_isKind 0 0 0 0 _ n 0 0 0 [(0, .int v)] [] _ n
  refine aw_iload_n dX8_isKind_0 rfl rfl ?_
  refine aw_if_lt (tgt := 13) dX8_isKind_1 (by decide) (fun c_1 => ?_) (fun c_1 => ?_)
  · refine aw_iconst_n 0 dX8_isKind_13 (by decide) ?_
    have e : isK v 3 = false := by unfold isK; apply decide_eq_false; intro z; simp only [Int32.lt_iff_toInt_lt, Int32.le_iff_toInt_le, Int32.toInt_zero, nI_toInt (show 3 < 2 ^ 31 by decide), nI_toInt (show 8 < 2 ^ 31 by decide), nI_toInt (show 6 < 2 ^ 31 by decide)] at *; omega
    exact aw_zret rfl rfl (by decide) (by decide) dX8_isKind_14 (rI_of (by rw [e]; rfl))
  · refine aw_iload_n dX8_isKind_4 rfl rfl ?_
    refine aw_iconst_n 3 dX8_isKind_5 (by decide) ?_
    refine aw_icmp_ge (tgt := 13) dX8_isKind_6 (by decide) (fun c_2 => ?_) (fun c_2 => ?_)
    · refine aw_iconst_n 0 dX8_isKind_13 (by decide) ?_
      have e : isK v 3 = false := by unfold isK; apply decide_eq_false; intro z; simp only [Int32.lt_iff_toInt_lt, Int32.le_iff_toInt_le, Int32.toInt_zero, nI_toInt (show 3 < 2 ^ 31 by decide), nI_toInt (show 8 < 2 ^ 31 by decide), nI_toInt (show 6 < 2 ^ 31 by decide)] at *; omega
      exact aw_zret rfl rfl (by decide) (by decide) dX8_isKind_14 (rI_of (by rw [e]; rfl))
    · refine aw_iconst_n 1 dX8_isKind_9 (by decide) ?_
      refine aw_goto (tgt := 14) dX8_isKind_10 (by decide) ?_
      have e : isK v 3 = true := by unfold isK; apply decide_eq_true; simp only [Int32.lt_iff_toInt_lt, Int32.le_iff_toInt_le, Int32.toInt_zero, nI_toInt (show 3 < 2 ^ 31 by decide), nI_toInt (show 8 < 2 ^ 31 by decide), nI_toInt (show 6 < 2 ^ 31 by decide)] at *; omega
      exact aw_zret rfl rfl (by decide) (by decide) dX8_isKind_14 (rI_of (by rw [e]; rfl))
abbrev MX8_hasPendulum : MT := (RX8, cX8_hasPendulum, 2, (some .boolean), [], "hasPendulum")
set_option maxHeartbeats 4000000 in
theorem s_has {l : Launch} {G : GT} {n : Nat} {f : HT} {o : Nat} {J : Nat → Int32} {B : Nat → Nat → Int32} {K : Nat} {V : Nat → Nat} (hS : SV J B V) (hB : VB K V) (v : Int32) : AM l G yX8_hasPendulum (.code yX8_hasPendulum cX8_hasPendulum 2 (some .boolean)) 0 0 0 0 [.ref o, .int v] (sU f o J B) n (rI (bI (isK v (V 2))) (sU f o J B) n) := by
  refine aw_enter (M := MX8_hasPendulum) rfl rfl (by decide +kernel) rfl (Nat.le_of_ble_eq_true rfl) ?_
  have hcnt := VB.cnt hB
  have hleg := VB.legs hB
  have hfr := VB.fric hB
  have hnow := VB.now hB
  have hkk := VB.kk hB
  have hc9 := nI_toInt (show V 2 < 2 ^ 31 by omega)
  show AW l G MX8_hasPendulum 0 0 0 0 _ n 0 0 0 [(0, .ref o), (1, .int v)] [] _ n
  refine aw_iload_n dX8_hasPendulum_0 rfl rfl ?_
  refine aw_if_lt (tgt := 22) dX8_hasPendulum_1 (by decide) (fun c_1 => ?_) (fun c_1 => ?_)
  · refine aw_iconst_n 0 dX8_hasPendulum_22 (by decide) ?_
    have e : isK v (V 2) = false := by unfold isK; apply decide_eq_false; intro z; simp only [Int32.lt_iff_toInt_lt, Int32.le_iff_toInt_le, Int32.toInt_zero, nI_toInt (show 3 < 2 ^ 31 by decide), nI_toInt (show 8 < 2 ^ 31 by decide), nI_toInt (show 6 < 2 ^ 31 by decide)] at *; omega
    exact aw_zret rfl rfl (by decide) (by decide) dX8_hasPendulum_23 (rI_of (by rw [e]; rfl))
  · refine aw_iload_n dX8_hasPendulum_4 rfl rfl ?_
    refine aw_aload_n dX8_hasPendulum_5 rfl rfl ?_
    refine aw_get (v := .int (nI (V 2))) fl_X8_36 sU_0 (congrArg (fun z => some (Value.int z)) hS.cnt) dX8_hasPendulum_6 ?_
    refine aw_icmp_ge (tgt := 22) dX8_hasPendulum_9 (by decide) (fun c_2 => ?_) (fun c_2 => ?_)
    · refine aw_iconst_n 0 dX8_hasPendulum_22 (by decide) ?_
      have e : isK v (V 2) = false := by unfold isK; apply decide_eq_false; intro z; simp only [Int32.lt_iff_toInt_lt, Int32.le_iff_toInt_le, Int32.toInt_zero, nI_toInt (show 3 < 2 ^ 31 by decide), nI_toInt (show 8 < 2 ^ 31 by decide), nI_toInt (show 6 < 2 ^ 31 by decide)] at *; omega
      exact aw_zret rfl rfl (by decide) (by decide) dX8_hasPendulum_23 (rI_of (by rw [e]; rfl))
    · refine aw_iload_n dX8_hasPendulum_12 rfl rfl ?_
      refine aw_bipush_n 8 dX8_hasPendulum_13 (by decide) ?_
      refine aw_icmp_ge (tgt := 22) dX8_hasPendulum_15 (by decide) (fun c_3 => ?_) (fun c_3 => ?_)
      · refine aw_iconst_n 0 dX8_hasPendulum_22 (by decide) ?_
        have e : isK v (V 2) = false := by unfold isK; apply decide_eq_false; intro z; simp only [Int32.lt_iff_toInt_lt, Int32.le_iff_toInt_le, Int32.toInt_zero, nI_toInt (show 3 < 2 ^ 31 by decide), nI_toInt (show 8 < 2 ^ 31 by decide), nI_toInt (show 6 < 2 ^ 31 by decide)] at *; omega
        exact aw_zret rfl rfl (by decide) (by decide) dX8_hasPendulum_23 (rI_of (by rw [e]; rfl))
      · refine aw_iconst_n 1 dX8_hasPendulum_18 (by decide) ?_
        refine aw_goto (tgt := 23) dX8_hasPendulum_19 (by decide) ?_
        have e : isK v (V 2) = true := by unfold isK; apply decide_eq_true; simp only [Int32.lt_iff_toInt_lt, Int32.le_iff_toInt_le, Int32.toInt_zero, nI_toInt (show 3 < 2 ^ 31 by decide), nI_toInt (show 8 < 2 ^ 31 by decide), nI_toInt (show 6 < 2 ^ 31 by decide)] at *; omega
        exact aw_zret rfl rfl (by decide) (by decide) dX8_hasPendulum_23 (rI_of (by rw [e]; rfl))
abbrev MX8_hasLeg : MT := (RX8, cX8_hasLeg, 2, (some .boolean), [], "hasLeg")
set_option maxHeartbeats 4000000 in
theorem s_hasLeg {l : Launch} {G : GT} {n : Nat} {f : HT} {o : Nat} {J : Nat → Int32} {B : Nat → Nat → Int32} {K : Nat} {V : Nat → Nat} (hS : SV J B V) (hB : VB K V) (v : Int32) : AM l G yX8_hasLeg (.code yX8_hasLeg cX8_hasLeg 2 (some .boolean)) 0 0 0 0 [.ref o, .int v] (sU f o J B) n (rI (bI (isK v (V 3))) (sU f o J B) n) := by
  refine aw_enter (M := MX8_hasLeg) rfl rfl (by decide +kernel) rfl (Nat.le_of_ble_eq_true rfl) ?_
  have hcnt := VB.cnt hB
  have hleg := VB.legs hB
  have hfr := VB.fric hB
  have hnow := VB.now hB
  have hkk := VB.kk hB
  have hc9 := nI_toInt (show V 3 < 2 ^ 31 by omega)
  show AW l G MX8_hasLeg 0 0 0 0 _ n 0 0 0 [(0, .ref o), (1, .int v)] [] _ n
  refine aw_iload_n dX8_hasLeg_0 rfl rfl ?_
  refine aw_if_lt (tgt := 22) dX8_hasLeg_1 (by decide) (fun c_1 => ?_) (fun c_1 => ?_)
  · refine aw_iconst_n 0 dX8_hasLeg_22 (by decide) ?_
    have e : isK v (V 3) = false := by unfold isK; apply decide_eq_false; intro z; simp only [Int32.lt_iff_toInt_lt, Int32.le_iff_toInt_le, Int32.toInt_zero, nI_toInt (show 3 < 2 ^ 31 by decide), nI_toInt (show 8 < 2 ^ 31 by decide), nI_toInt (show 6 < 2 ^ 31 by decide)] at *; omega
    exact aw_zret rfl rfl (by decide) (by decide) dX8_hasLeg_23 (rI_of (by rw [e]; rfl))
  · refine aw_iload_n dX8_hasLeg_4 rfl rfl ?_
    refine aw_aload_n dX8_hasLeg_5 rfl rfl ?_
    refine aw_get (v := .int (nI (V 3))) fl_X8_40 sU_0 (congrArg (fun z => some (Value.int z)) hS.leg) dX8_hasLeg_6 ?_
    refine aw_icmp_ge (tgt := 22) dX8_hasLeg_9 (by decide) (fun c_2 => ?_) (fun c_2 => ?_)
    · refine aw_iconst_n 0 dX8_hasLeg_22 (by decide) ?_
      have e : isK v (V 3) = false := by unfold isK; apply decide_eq_false; intro z; simp only [Int32.lt_iff_toInt_lt, Int32.le_iff_toInt_le, Int32.toInt_zero, nI_toInt (show 3 < 2 ^ 31 by decide), nI_toInt (show 8 < 2 ^ 31 by decide), nI_toInt (show 6 < 2 ^ 31 by decide)] at *; omega
      exact aw_zret rfl rfl (by decide) (by decide) dX8_hasLeg_23 (rI_of (by rw [e]; rfl))
    · refine aw_iload_n dX8_hasLeg_12 rfl rfl ?_
      refine aw_bipush_n 6 dX8_hasLeg_13 (by decide) ?_
      refine aw_icmp_ge (tgt := 22) dX8_hasLeg_15 (by decide) (fun c_3 => ?_) (fun c_3 => ?_)
      · refine aw_iconst_n 0 dX8_hasLeg_22 (by decide) ?_
        have e : isK v (V 3) = false := by unfold isK; apply decide_eq_false; intro z; simp only [Int32.lt_iff_toInt_lt, Int32.le_iff_toInt_le, Int32.toInt_zero, nI_toInt (show 3 < 2 ^ 31 by decide), nI_toInt (show 8 < 2 ^ 31 by decide), nI_toInt (show 6 < 2 ^ 31 by decide)] at *; omega
        exact aw_zret rfl rfl (by decide) (by decide) dX8_hasLeg_23 (rI_of (by rw [e]; rfl))
      · refine aw_iconst_n 1 dX8_hasLeg_18 (by decide) ?_
        refine aw_goto (tgt := 23) dX8_hasLeg_19 (by decide) ?_
        have e : isK v (V 3) = true := by unfold isK; apply decide_eq_true; simp only [Int32.lt_iff_toInt_lt, Int32.le_iff_toInt_le, Int32.toInt_zero, nI_toInt (show 3 < 2 ^ 31 by decide), nI_toInt (show 8 < 2 ^ 31 by decide), nI_toInt (show 6 < 2 ^ 31 by decide)] at *; omega
        exact aw_zret rfl rfl (by decide) (by decide) dX8_hasLeg_23 (rI_of (by rw [e]; rfl))
abbrev MX8_lengthAt : MT := (RX8, cX8_lengthAt, 2, (some .int), [], "lengthAt")
set_option maxHeartbeats 4000000 in
theorem s_len {l : Launch} {G : GT} {n : Nat} {f : HT} {o : Nat} {J : Nat → Int32} {B : Nat → Nat → Int32} {K : Nat} {V : Nat → Nat} (hS : SV J B V) (hB : VB K V) {k : Nat} (hk : k < V 2) : AM l G yX8_lengthAt (.code yX8_lengthAt cX8_lengthAt 2 (some .int)) 1 60 0 0 [.ref o, .int (nI k)] (sU f o J B) n (rI (nI (V (4 + k))) (sU f o J B) n) := by
  refine aw_enter (M := MX8_lengthAt) rfl rfl (by decide +kernel) rfl (Nat.le_of_ble_eq_true rfl) ?_
  have hcnt := VB.cnt hB
  have hleg := VB.legs hB
  have hfr := VB.fric hB
  have hnow := VB.now hB
  have hkk := VB.kk hB
  have hisk : isK (nI k) (V 2) = true := by rw [isK_nI (by omega)]; exact decide_eq_true hk
  show AW l G MX8_lengthAt 1 60 0 0 _ n 0 0 0 [(0, .ref o), (1, .int (nI k))] [] _ n
  refine aw_aload_n dX8_lengthAt_0 rfl rfl ?_
  refine aw_iload_n dX8_lengthAt_1 rfl rfl ?_
  refine aw_vI (as := [Value.int (nI k)]) (rest := []) mV_X8_hasPendulum (s_has hS hB (nI k)) ml_X8_55 sU_0 rfl dX8_lengthAt_2 rfl rfl (by decide) (Nat.le_of_ble_eq_true rfl) (by decide) ?_
  refine aw_if_eq_b (tgt := 17) dX8_lengthAt_5 (by decide) (fun c_1 => by exfalso; simp_all) (fun c_1 => ?_)
  refine aw_aload_n dX8_lengthAt_8 rfl rfl ?_
  refine aw_get (v := .ref (o + 1)) fl_X8_9 sU_0 rfl dX8_lengthAt_9 ?_
  refine aw_iload_n dX8_lengthAt_12 rfl rfl ?_
  refine aw_iald_n (k := k) (v := (nI (V (4 + k)))) sU_1 (by omega) (by decide) (hS.len _ (by omega)) dX8_lengthAt_13 ?_
  refine aw_goto (tgt := 18) dX8_lengthAt_14 (by decide) ?_
  exact aw_iret rfl (by decide) (by decide) dX8_lengthAt_18 (rI_of (by rfl))
abbrev MX8_periodAt : MT := (RX8, cX8_periodAt, 2, (some .int), [], "periodAt")
set_option maxHeartbeats 4000000 in
theorem s_per {l : Launch} {G : GT} {n : Nat} {f : HT} {o : Nat} {J : Nat → Int32} {B : Nat → Nat → Int32} {K : Nat} {V : Nat → Nat} (hS : SV J B V) (hB : VB K V) {k : Nat} (hk : k < V 2) : AM l G yX8_periodAt (.code yX8_periodAt cX8_periodAt 2 (some .int)) 1 60 0 0 [.ref o, .int (nI k)] (sU f o J B) n (rI (nI (perN (V (4 + k)))) (sU f o J B) n) := by
  refine aw_enter (M := MX8_periodAt) rfl rfl (by decide +kernel) rfl (Nat.le_of_ble_eq_true rfl) ?_
  have hcnt := VB.cnt hB
  have hleg := VB.legs hB
  have hfr := VB.fric hB
  have hnow := VB.now hB
  have hkk := VB.kk hB
  have hisk : isK (nI k) (V 2) = true := by rw [isK_nI (by omega)]; exact decide_eq_true hk
  show AW l G MX8_periodAt 1 60 0 0 _ n 0 0 0 [(0, .ref o), (1, .int (nI k))] [] _ n
  refine aw_aload_n dX8_periodAt_0 rfl rfl ?_
  refine aw_iload_n dX8_periodAt_1 rfl rfl ?_
  refine aw_vI (as := [Value.int (nI k)]) (rest := []) mV_X8_hasPendulum (s_has hS hB (nI k)) ml_X8_55 sU_0 rfl dX8_periodAt_2 rfl rfl (by decide) (Nat.le_of_ble_eq_true rfl) (by decide) ?_
  refine aw_if_eq_b (tgt := 17) dX8_periodAt_5 (by decide) (fun c_1 => by exfalso; simp_all) (fun c_1 => ?_)
  refine aw_aload_n dX8_periodAt_8 rfl rfl ?_
  refine aw_get (v := .ref (o + 2)) fl_X8_15 sU_0 rfl dX8_periodAt_9 ?_
  refine aw_iload_n dX8_periodAt_12 rfl rfl ?_
  refine aw_iald_n (k := k) (v := (nI (perN (V (4 + k))))) sU_2 (by omega) (by decide) (hS.per _ (by omega)) dX8_periodAt_13 ?_
  refine aw_goto (tgt := 18) dX8_periodAt_14 (by decide) ?_
  exact aw_iret rfl (by decide) (by decide) dX8_periodAt_18 (rI_of (by rfl))
abbrev MX8_amplitudeAt : MT := (RX8, cX8_amplitudeAt, 2, (some .int), [], "amplitudeAt")
set_option maxHeartbeats 4000000 in
theorem s_amp {l : Launch} {G : GT} {n : Nat} {f : HT} {o : Nat} {J : Nat → Int32} {B : Nat → Nat → Int32} {K : Nat} {V : Nat → Nat} (hS : SV J B V) (hB : VB K V) {k : Nat} (hk : k < V 2) : AM l G yX8_amplitudeAt (.code yX8_amplitudeAt cX8_amplitudeAt 2 (some .int)) 1 60 0 0 [.ref o, .int (nI k)] (sU f o J B) n (rI (nI (V (12 + k))) (sU f o J B) n) := by
  refine aw_enter (M := MX8_amplitudeAt) rfl rfl (by decide +kernel) rfl (Nat.le_of_ble_eq_true rfl) ?_
  have hcnt := VB.cnt hB
  have hleg := VB.legs hB
  have hfr := VB.fric hB
  have hnow := VB.now hB
  have hkk := VB.kk hB
  have hisk : isK (nI k) (V 2) = true := by rw [isK_nI (by omega)]; exact decide_eq_true hk
  show AW l G MX8_amplitudeAt 1 60 0 0 _ n 0 0 0 [(0, .ref o), (1, .int (nI k))] [] _ n
  refine aw_aload_n dX8_amplitudeAt_0 rfl rfl ?_
  refine aw_iload_n dX8_amplitudeAt_1 rfl rfl ?_
  refine aw_vI (as := [Value.int (nI k)]) (rest := []) mV_X8_hasPendulum (s_has hS hB (nI k)) ml_X8_55 sU_0 rfl dX8_amplitudeAt_2 rfl rfl (by decide) (Nat.le_of_ble_eq_true rfl) (by decide) ?_
  refine aw_if_eq_b (tgt := 17) dX8_amplitudeAt_5 (by decide) (fun c_1 => by exfalso; simp_all) (fun c_1 => ?_)
  refine aw_aload_n dX8_amplitudeAt_8 rfl rfl ?_
  refine aw_get (v := .ref (o + 3)) fl_X8_18 sU_0 rfl dX8_amplitudeAt_9 ?_
  refine aw_iload_n dX8_amplitudeAt_12 rfl rfl ?_
  refine aw_iald_n (k := k) (v := (nI (V (12 + k)))) sU_3 (by omega) (by decide) (hS.amp _ (by omega)) dX8_amplitudeAt_13 ?_
  refine aw_goto (tgt := 18) dX8_amplitudeAt_14 (by decide) ?_
  exact aw_iret rfl (by decide) (by decide) dX8_amplitudeAt_18 (rI_of (by rfl))
abbrev MX8_startAt : MT := (RX8, cX8_startAt, 2, (some .int), [], "startAt")
set_option maxHeartbeats 4000000 in
theorem s_start {l : Launch} {G : GT} {n : Nat} {f : HT} {o : Nat} {J : Nat → Int32} {B : Nat → Nat → Int32} {K : Nat} {V : Nat → Nat} (hS : SV J B V) (hB : VB K V) {k : Nat} (hk : k < V 2) : AM l G yX8_startAt (.code yX8_startAt cX8_startAt 2 (some .int)) 1 60 0 0 [.ref o, .int (nI k)] (sU f o J B) n (rI (nI (V (20 + k))) (sU f o J B) n) := by
  refine aw_enter (M := MX8_startAt) rfl rfl (by decide +kernel) rfl (Nat.le_of_ble_eq_true rfl) ?_
  have hcnt := VB.cnt hB
  have hleg := VB.legs hB
  have hfr := VB.fric hB
  have hnow := VB.now hB
  have hkk := VB.kk hB
  have hisk : isK (nI k) (V 2) = true := by rw [isK_nI (by omega)]; exact decide_eq_true hk
  show AW l G MX8_startAt 1 60 0 0 _ n 0 0 0 [(0, .ref o), (1, .int (nI k))] [] _ n
  refine aw_aload_n dX8_startAt_0 rfl rfl ?_
  refine aw_iload_n dX8_startAt_1 rfl rfl ?_
  refine aw_vI (as := [Value.int (nI k)]) (rest := []) mV_X8_hasPendulum (s_has hS hB (nI k)) ml_X8_55 sU_0 rfl dX8_startAt_2 rfl rfl (by decide) (Nat.le_of_ble_eq_true rfl) (by decide) ?_
  refine aw_if_eq_b (tgt := 17) dX8_startAt_5 (by decide) (fun c_1 => by exfalso; simp_all) (fun c_1 => ?_)
  refine aw_aload_n dX8_startAt_8 rfl rfl ?_
  refine aw_get (v := .ref (o + 4)) fl_X8_21 sU_0 rfl dX8_startAt_9 ?_
  refine aw_iload_n dX8_startAt_12 rfl rfl ?_
  refine aw_iald_n (k := k) (v := (nI (V (20 + k)))) sU_4 (by omega) (by decide) (hS.start _ (by omega)) dX8_startAt_13 ?_
  refine aw_goto (tgt := 18) dX8_startAt_14 (by decide) ?_
  exact aw_iret rfl (by decide) (by decide) dX8_startAt_18 (rI_of (by rfl))
abbrev MX8_swingsAt : MT := (RX8, cX8_swingsAt, 2, (some .int), [], "swingsAt")
set_option maxHeartbeats 4000000 in
theorem s_sw {l : Launch} {G : GT} {n : Nat} {f : HT} {o : Nat} {J : Nat → Int32} {B : Nat → Nat → Int32} {K : Nat} {V : Nat → Nat} (hS : SV J B V) (hB : VB K V) {k : Nat} (hk : k < V 2) : AM l G yX8_swingsAt (.code yX8_swingsAt cX8_swingsAt 2 (some .int)) 1 60 0 0 [.ref o, .int (nI k)] (sU f o J B) n (rI (nI (V (28 + k))) (sU f o J B) n) := by
  refine aw_enter (M := MX8_swingsAt) rfl rfl (by decide +kernel) rfl (Nat.le_of_ble_eq_true rfl) ?_
  have hcnt := VB.cnt hB
  have hleg := VB.legs hB
  have hfr := VB.fric hB
  have hnow := VB.now hB
  have hkk := VB.kk hB
  have hisk : isK (nI k) (V 2) = true := by rw [isK_nI (by omega)]; exact decide_eq_true hk
  show AW l G MX8_swingsAt 1 60 0 0 _ n 0 0 0 [(0, .ref o), (1, .int (nI k))] [] _ n
  refine aw_aload_n dX8_swingsAt_0 rfl rfl ?_
  refine aw_iload_n dX8_swingsAt_1 rfl rfl ?_
  refine aw_vI (as := [Value.int (nI k)]) (rest := []) mV_X8_hasPendulum (s_has hS hB (nI k)) ml_X8_55 sU_0 rfl dX8_swingsAt_2 rfl rfl (by decide) (Nat.le_of_ble_eq_true rfl) (by decide) ?_
  refine aw_if_eq_b (tgt := 17) dX8_swingsAt_5 (by decide) (fun c_1 => by exfalso; simp_all) (fun c_1 => ?_)
  refine aw_aload_n dX8_swingsAt_8 rfl rfl ?_
  refine aw_get (v := .ref (o + 5)) fl_X8_24 sU_0 rfl dX8_swingsAt_9 ?_
  refine aw_iload_n dX8_swingsAt_12 rfl rfl ?_
  refine aw_iald_n (k := k) (v := (nI (V (28 + k)))) sU_5 (by omega) (by decide) (hS.sw _ (by omega)) dX8_swingsAt_13 ?_
  refine aw_goto (tgt := 18) dX8_swingsAt_14 (by decide) ?_
  exact aw_iret rfl (by decide) (by decide) dX8_swingsAt_18 (rI_of (by rfl))
abbrev MX8_wishAt : MT := (RX8, cX8_wishAt, 2, (some .int), [], "wishAt")
set_option maxHeartbeats 4000000 in
theorem s_wish {l : Launch} {G : GT} {n : Nat} {f : HT} {o : Nat} {J : Nat → Int32} {B : Nat → Nat → Int32} {K : Nat} {V : Nat → Nat} (hS : SV J B V) (hB : VB K V) {k : Nat} (hk : k < V 3) : AM l G yX8_wishAt (.code yX8_wishAt cX8_wishAt 2 (some .int)) 1 60 0 0 [.ref o, .int (nI k)] (sU f o J B) n (rI (nI (V (42 + k))) (sU f o J B) n) := by
  refine aw_enter (M := MX8_wishAt) rfl rfl (by decide +kernel) rfl (Nat.le_of_ble_eq_true rfl) ?_
  have hcnt := VB.cnt hB
  have hleg := VB.legs hB
  have hfr := VB.fric hB
  have hnow := VB.now hB
  have hkk := VB.kk hB
  have hisk : isK (nI k) (V 3) = true := by rw [isK_nI (by omega)]; exact decide_eq_true hk
  show AW l G MX8_wishAt 1 60 0 0 _ n 0 0 0 [(0, .ref o), (1, .int (nI k))] [] _ n
  refine aw_aload_n dX8_wishAt_0 rfl rfl ?_
  refine aw_iload_n dX8_wishAt_1 rfl rfl ?_
  refine aw_vI (as := [Value.int (nI k)]) (rest := []) mV_X8_hasLeg (s_hasLeg hS hB (nI k)) ml_X8_59 sU_0 rfl dX8_wishAt_2 rfl rfl (by decide) (Nat.le_of_ble_eq_true rfl) (by decide) ?_
  refine aw_if_eq_b (tgt := 17) dX8_wishAt_5 (by decide) (fun c_1 => by exfalso; simp_all) (fun c_1 => ?_)
  refine aw_aload_n dX8_wishAt_8 rfl rfl ?_
  refine aw_get (v := .ref (o + 8)) fl_X8_33 sU_0 rfl dX8_wishAt_9 ?_
  refine aw_iload_n dX8_wishAt_12 rfl rfl ?_
  refine aw_iald_n (k := k) (v := (nI (V (42 + k)))) sU_8 (by omega) (by decide) (hS.wish _ (by omega)) dX8_wishAt_13 ?_
  refine aw_goto (tgt := 18) dX8_wishAt_14 (by decide) ?_
  exact aw_iret rfl (by decide) (by decide) dX8_wishAt_18 (rI_of (by rfl))
abbrev MX8_isSwinging : MT := (RX8, cX8_isSwinging, 2, (some .boolean), [], "isSwinging")
set_option maxHeartbeats 4000000 in
theorem s_swinging {l : Launch} {G : GT} {n : Nat} {f : HT} {o : Nat} {J : Nat → Int32} {B : Nat → Nat → Int32} {K : Nat} {V : Nat → Nat} (hS : SV J B V) (hB : VB K V) {k : Nat} (hk : k < V 2) : AM l G yX8_isSwinging (.code yX8_isSwinging cX8_isSwinging 2 (some .boolean)) 1 60 0 0 [.ref o, .int (nI k)] (sU f o J B) n (rI (bI (decide (V (12 + k) ≠ 0))) (sU f o J B) n) := by
  refine aw_enter (M := MX8_isSwinging) rfl rfl (by decide +kernel) rfl (Nat.le_of_ble_eq_true rfl) ?_
  have hcnt := VB.cnt hB
  have hleg := VB.legs hB
  have hfr := VB.fric hB
  have hnow := VB.now hB
  have hkk := VB.kk hB
  have hisk : isK (nI k) (V 2) = true := by rw [isK_nI (by omega)]; exact decide_eq_true hk
  have hax := VB.amp hB (k := k) (by omega)
  show AW l G MX8_isSwinging 1 60 0 0 _ n 0 0 0 [(0, .ref o), (1, .int (nI k))] [] _ n
  refine aw_aload_n dX8_isSwinging_0 rfl rfl ?_
  refine aw_iload_n dX8_isSwinging_1 rfl rfl ?_
  refine aw_vI (as := [Value.int (nI k)]) (rest := []) mV_X8_hasPendulum (s_has hS hB (nI k)) ml_X8_55 sU_0 rfl dX8_isSwinging_2 rfl rfl (by decide) (Nat.le_of_ble_eq_true rfl) (by decide) ?_
  refine aw_if_eq_b (tgt := 21) dX8_isSwinging_5 (by decide) (fun c_1 => by exfalso; simp_all) (fun c_1 => ?_)
  refine aw_aload_n dX8_isSwinging_8 rfl rfl ?_
  refine aw_get (v := .ref (o + 3)) fl_X8_18 sU_0 rfl dX8_isSwinging_9 ?_
  refine aw_iload_n dX8_isSwinging_12 rfl rfl ?_
  refine aw_iald_n (k := k) (v := (nI (V (12 + k)))) sU_3 (by omega) (by decide) (hS.amp _ (by omega)) dX8_isSwinging_13 ?_
  refine aw_if_le_n (by omega) (tgt := 21) dX8_isSwinging_14 (by decide) (fun c_2 => ?_) (fun c_2 => ?_)
  · refine aw_iconst_n 0 dX8_isSwinging_21 (by decide) ?_
    exact aw_zret rfl rfl (by decide) (by decide) dX8_isSwinging_22 (rI_of (by rw [decide_eq_false (by omega)]; rfl))
  · refine aw_iconst_n 1 dX8_isSwinging_17 (by decide) ?_
    refine aw_goto (tgt := 22) dX8_isSwinging_18 (by decide) ?_
    exact aw_zret rfl rfl (by decide) (by decide) dX8_isSwinging_22 (rI_of (by rw [decide_eq_true (by omega)]; rfl))
abbrev MX8_recordAt : MT := (RX8, cX8_recordAt, 2, (some .int), [], "recordAt")
set_option maxHeartbeats 4000000 in
theorem s_rec {l : Launch} {G : GT} {n : Nat} {f : HT} {o : Nat} {J : Nat → Int32} {B : Nat → Nat → Int32} {K : Nat} {V : Nat → Nat} (hS : SV J B V) (hB : VB K V) {k : Nat} (hk : k < 3) : AM l G yX8_recordAt (.code yX8_recordAt cX8_recordAt 2 (some .int)) 1 60 0 0 [.ref o, .int (nI k)] (sU f o J B) n (rI (nI (V (36 + k))) (sU f o J B) n) := by
  refine aw_enter (M := MX8_recordAt) rfl rfl (by decide +kernel) rfl (Nat.le_of_ble_eq_true rfl) ?_
  have hcnt := VB.cnt hB
  have hleg := VB.legs hB
  have hfr := VB.fric hB
  have hnow := VB.now hB
  have hkk := VB.kk hB
  have hisk : isK (nI k) (3) = true := by rw [isK_nI (by omega)]; exact decide_eq_true hk
  show AW l G MX8_recordAt 1 60 0 0 _ n 0 0 0 [(0, .ref o), (1, .int (nI k))] [] _ n
  refine aw_iload_n dX8_recordAt_0 rfl rfl ?_
  refine aw_sI (as := [Value.int (nI k)]) (rest := []) mS_X8_isKind (s_isKind (nI k)) ml_X8_62 dX8_recordAt_1 rfl rfl (by decide) (Nat.le_of_ble_eq_true rfl) (by decide) ?_
  refine aw_if_eq_b (tgt := 16) dX8_recordAt_4 (by decide) (fun c_1 => by exfalso; simp_all) (fun c_1 => ?_)
  refine aw_aload_n dX8_recordAt_7 rfl rfl ?_
  refine aw_get (v := .ref (o + 6)) fl_X8_27 sU_0 rfl dX8_recordAt_8 ?_
  refine aw_iload_n dX8_recordAt_11 rfl rfl ?_
  refine aw_iald_n (k := k) (v := (nI (V (36 + k)))) sU_6 (by omega) (by decide) (hS.rec _ (by omega)) dX8_recordAt_12 ?_
  refine aw_goto (tgt := 17) dX8_recordAt_13 (by decide) ?_
  exact aw_iret rfl (by decide) (by decide) dX8_recordAt_17 (rI_of (by rfl))
abbrev MX8_holderAt : MT := (RX8, cX8_holderAt, 2, (some .int), [], "holderAt")
set_option maxHeartbeats 4000000 in
theorem s_hol {l : Launch} {G : GT} {n : Nat} {f : HT} {o : Nat} {J : Nat → Int32} {B : Nat → Nat → Int32} {K : Nat} {V : Nat → Nat} (hS : SV J B V) (hB : VB K V) {k : Nat} (hk : k < 3) : AM l G yX8_holderAt (.code yX8_holderAt cX8_holderAt 2 (some .int)) 1 60 0 0 [.ref o, .int (nI k)] (sU f o J B) n (rI (if V (36 + k) = 0 then -1 else nI (V (39 + k))) (sU f o J B) n) := by
  refine aw_enter (M := MX8_holderAt) rfl rfl (by decide +kernel) rfl (Nat.le_of_ble_eq_true rfl) ?_
  have hcnt := VB.cnt hB
  have hleg := VB.legs hB
  have hfr := VB.fric hB
  have hnow := VB.now hB
  have hkk := VB.kk hB
  have hisk : isK (nI k) (3) = true := by rw [isK_nI (by omega)]; exact decide_eq_true hk
  have hrx := VB.rec hB hk
  show AW l G MX8_holderAt 1 60 0 0 _ n 0 0 0 [(0, .ref o), (1, .int (nI k))] [] _ n
  refine aw_iload_n dX8_holderAt_0 rfl rfl ?_
  refine aw_sI (as := [Value.int (nI k)]) (rest := []) mS_X8_isKind (s_isKind (nI k)) ml_X8_62 dX8_holderAt_1 rfl rfl (by decide) (Nat.le_of_ble_eq_true rfl) (by decide) ?_
  refine aw_if_eq_b (tgt := 25) dX8_holderAt_4 (by decide) (fun c_1 => by exfalso; simp_all) (fun c_1 => ?_)
  refine aw_aload_n dX8_holderAt_7 rfl rfl ?_
  refine aw_get (v := .ref (o + 6)) fl_X8_27 sU_0 rfl dX8_holderAt_8 ?_
  refine aw_iload_n dX8_holderAt_11 rfl rfl ?_
  refine aw_iald_n (k := k) (v := (nI (V (36 + k)))) sU_6 (by omega) (by decide) (hS.rec _ (by omega)) dX8_holderAt_12 ?_
  refine aw_if_le_n (by omega) (tgt := 25) dX8_holderAt_13 (by decide) (fun c_2 => ?_) (fun c_2 => ?_)
  · refine aw_iconst (v := -1) dX8_holderAt_25 (by decide) ?_
    exact aw_iret rfl (by decide) (by decide) dX8_holderAt_26 (rI_of (by rw [if_pos (by omega)]))
  · refine aw_aload_n dX8_holderAt_16 rfl rfl ?_
    refine aw_get (v := .ref (o + 7)) fl_X8_30 sU_0 rfl dX8_holderAt_17 ?_
    refine aw_iload_n dX8_holderAt_20 rfl rfl ?_
    refine aw_iald_n (k := k) (v := (nI (V (39 + k)))) sU_7 (by omega) (by decide) (hS.hol _ (by omega)) dX8_holderAt_21 ?_
    refine aw_goto (tgt := 26) dX8_holderAt_22 (by decide) ?_
    exact aw_iret rfl (by decide) (by decide) dX8_holderAt_26 (rI_of (by rw [if_neg (by omega)]))
