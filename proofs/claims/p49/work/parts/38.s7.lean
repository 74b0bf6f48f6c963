theorem SV.add9 {J : Nat → Int32} {B : Nat → Nat → Int32} {V : Nat → Nat} {K x : Nat} (h : SV J B V) (hB : VB K V) (h8 : V 2 ≠ 8) (hx : x ≤ 99) :
    SV (va_up J 8 (nI (V 2 + 1))) (va_up (va_up (va_up (va_up (va_up B 0 (upd (B 0) (V 2) (nI x))) 1 (upd (B 1) (V 2) (nI (perN x)))) 2 (upd (B 2) (V 2) (nI 0))) 3 (upd (B 3) (V 2) (nI 0))) 4 (upd (B 4) (V 2) (nI 0))) (va_up (va_up V (4 + V 2) x) 2 (V 2 + 1)) := by
  have hc := hB.cnt
  have hl := hB.legs
  have ev : ∀ j, j ≠ 2 → j ≠ 4 + V 2 → va_up (va_up V (4 + V 2) x) 2 (V 2 + 1) j = V j := fun j h1 h2 => by rw [up_ne h1, up_ne h2]
  have e2 : va_up (va_up V (4 + V 2) x) 2 (V 2 + 1) 2 = V 2 + 1 := up_self
  have hd := hB.dead (k := V 2) (by omega) (Nat.le_refl _)
  have ex : va_up (va_up V (4 + V 2) x) 2 (V 2 + 1) (4 + V 2) = x := by rw [up_ne (by omega), up_self]
  refine ⟨by rw [e2, up_self], by rw [ev _ (by omega) (by omega), up_ne (by decide)]; exact h.leg, by rw [ev _ (by omega) (by omega), up_ne (by decide)]; exact h.now, by rw [ev _ (by omega) (by omega), up_ne (by decide)]; exact h.fric, fun k hk => ?_, fun k hk => ?_, fun k hk => ?_, fun k hk => ?_, fun k hk => ?_, fun k hk => ?_, fun k hk => ?_, fun k hk => ?_⟩
  · rw [e2] at hk
    rw [up_ne (by decide), up_ne (by decide), up_ne (by decide), up_ne (by decide), up_self]
    by_cases z : k = V 2
    · rw [z, pk_us, ex]
    · rw [pk_un z, ev _ (by omega) (by omega)]; exact h.len k (by omega)
  · rw [e2] at hk
    rw [up_ne (by decide), up_ne (by decide), up_ne (by decide), up_self]
    by_cases z : k = V 2
    · rw [z, pk_us, ex]
    · rw [pk_un z, ev _ (by omega) (by omega)]; exact h.per k (by omega)
  · rw [e2] at hk
    rw [up_ne (by decide), up_ne (by decide), up_self, ev _ (by omega) (by omega)]
    by_cases z : k = V 2
    · rw [z, pk_us, hd.1]
    · rw [pk_un z]; exact h.amp k (by omega)
  · rw [e2] at hk
    rw [up_ne (by decide), up_self, ev _ (by omega) (by omega)]
    by_cases z : k = V 2
    · rw [z, pk_us, hd.2.1]
    · rw [pk_un z]; exact h.start k (by omega)
  · rw [e2] at hk
    rw [up_self, ev _ (by omega) (by omega)]
    by_cases z : k = V 2
    · rw [z, pk_us, hd.2.2]
    · rw [pk_un z]; exact h.sw k (by omega)
  · rw [up_ne (by decide), up_ne (by decide), up_ne (by decide), up_ne (by decide), up_ne (by decide), ev _ (by omega) (by omega)]; exact h.rec k hk
  · rw [up_ne (by decide), up_ne (by decide), up_ne (by decide), up_ne (by decide), up_ne (by decide), ev _ (by omega) (by omega)]; exact h.hol k hk
  · rw [ev _ (by omega) (by omega)] at hk
    rw [up_ne (by decide), up_ne (by decide), up_ne (by decide), up_ne (by decide), up_ne (by decide), ev _ (by omega) (by omega)]; exact h.wish k hk
theorem SV.sw9 {J : Nat → Int32} {B : Nat → Nat → Int32} {V : Nat → Nat} (h : SV J B V) (hc : V 2 ≤ 8) (hl : V 3 ≤ 6) {x a : Nat} (hx : x < 8) : SV J (va_up B 4 (upd (B 4) x (nI a))) (va_up V (28 + x) a) := by
  have e2 : va_up V (28 + x) a 2 = V 2 := up_ne (by omega)
  have e3 : va_up V (28 + x) a 3 = V 3 := up_ne (by omega)
  have e : ∀ j, j ≠ 4 → va_up B 4 (upd (B 4) x (nI a)) j = B j := fun j hj => up_ne hj
  refine ⟨by rw [e2]; exact h.cnt, by rw [e3]; exact h.leg, by rw [up_ne (by omega)]; exact h.now, by rw [up_ne (by omega)]; exact h.fric, fun k hk => ?_, fun k hk => ?_, fun k hk => ?_, fun k hk => ?_, fun k hk => ?_, fun k hk => ?_, fun k hk => ?_, fun k hk => ?_⟩
  · rw [e2] at hk; rw [e _ (by decide), up_ne (by omega)]; exact h.len k hk
  · rw [e2] at hk; rw [e _ (by decide), up_ne (by omega)]; exact h.per k hk
  · rw [e2] at hk; rw [e _ (by decide), up_ne (by omega)]; exact h.amp k hk
  · rw [e2] at hk; rw [e _ (by decide), up_ne (by omega)]; exact h.start k hk
  · rw [e2] at hk; rw [up_self]
    by_cases z : k = x
    · rw [z, pk_us, up_self]
    · rw [pk_un z, up_ne (by omega)]; exact h.sw k hk
  · rw [e _ (by decide), up_ne (by omega)]; exact h.rec k hk
  · rw [e _ (by decide), up_ne (by omega)]; exact h.hol k hk
  · rw [e3] at hk; rw [e _ (by decide), up_ne (by omega)]; exact h.wish k hk
theorem SV.now9 {J : Nat → Int32} {B : Nat → Nat → Int32} {V : Nat → Nat} (h : SV J B V) : SV (va_up J 10 (nI (V 0 + 1))) B (tkV V 0) := by
  rw [tkV_0]
  have ev : ∀ j, j ≠ 0 → va_up V 0 (V 0 + 1) j = V j := fun j h1 => up_ne h1
  refine ⟨by rw [ev _ (by decide), up_ne (by decide)]; exact h.cnt, by rw [ev _ (by decide), up_ne (by decide)]; exact h.leg, by rw [up_self, up_self], by rw [ev _ (by decide), up_ne (by decide)]; exact h.fric, fun k hk => ?_, fun k hk => ?_, fun k hk => ?_, fun k hk => ?_, fun k hk => ?_, fun k hk => ?_, fun k hk => ?_, fun k hk => ?_⟩
  · rw [ev _ (by decide)] at hk; rw [ev _ (by omega)]; exact h.len k hk
  · rw [ev _ (by decide)] at hk; rw [ev _ (by omega)]; exact h.per k hk
  · rw [ev _ (by decide)] at hk; rw [ev _ (by omega)]; exact h.amp k hk
  · rw [ev _ (by decide)] at hk; rw [ev _ (by omega)]; exact h.start k hk
  · rw [ev _ (by decide)] at hk; rw [ev _ (by omega)]; exact h.sw k hk
  · rw [ev _ (by omega)]; exact h.rec k hk
  · rw [ev _ (by omega)]; exact h.hol k hk
  · rw [ev _ (by decide)] at hk; rw [ev _ (by omega)]; exact h.wish k hk
theorem dv_n {d a : Nat} (hd0 : 0 < d) (hd : d < 2 ^ 31) (ha : a < 2 ^ 31) : dvI d (nI a) = decide (a % d = 0) := by
  unfold dvI
  have e : nI a - nI a / nI d * nI d = nI (a % d) := pk_rem ha hd0 hd
  rw [e]
  by_cases h : a % d = 0
  · rw [decide_eq_true h]; exact decide_eq_true ⟨by omega, by rw [h]; exact nI_0⟩
  · rw [decide_eq_false h]; exact decide_eq_false (fun z => h ((nI_eq0 (by have := Nat.mod_lt a hd0; omega)).mp z.2))
theorem add_ok {V : Nat → Nat} {v : Int32} (h : c2 (opAdd V v).1 = 0) : inB v (nI 1) (nI 99) = true ∧ V 2 ≠ 8 := by
  unfold opAdd at h
  split at h
  · exact absurd (show (2 : Nat) = 0 from h) (by decide)
  · next h1 =>
    split at h
    · exact absurd (show (3 : Nat) = 0 from h) (by decide)
    · next h2 => exact ⟨eq_true_of_ne_false h1, h2⟩
theorem add_no {V : Nat → Nat} {v : Int32} (h : c2 (opAdd V v).1 ≠ 0) : (opAdd V v).1 ≠ 0 ∧ (opAdd V v).2.2 = V := by
  refine ⟨fun z => h (by rw [z]; rfl), ?_⟩
  unfold opAdd at h ⊢
  split
  · rfl
  · split
    · rfl
    · next h1 h2 => exact absurd (by rw [if_neg h1, if_neg h2]; rfl) h
theorem pass_ok {V : Nat → Nat} {v : Int32} (h : c2 (opPass V v).1 = 0) : inB v (nI 1) (nI 500) = true := by
  unfold opPass at h
  split at h
  · exact absurd (show (2 : Nat) = 0 from h) (by decide)
  · next h1 => exact eq_true_of_ne_false h1
theorem pass_no {V : Nat → Nat} {v : Int32} (h : c2 (opPass V v).1 ≠ 0) : (opPass V v).1 ≠ 0 ∧ (opPass V v).2.2 = V := by
  refine ⟨fun z => h (by rw [z]; rfl), ?_⟩
  unfold opPass at h ⊢
  split
  · rfl
  · next h1 => exact absurd (by rw [if_neg h1]; rfl) h
theorem tk_3 {V : Nat → Nat} {u : Nat} : tkV V u 3 = V 3 := tk_keep (by decide) (Or.inl (by decide)) (Or.inl (by decide))
def TSo (f : HT) (o : Nat) (V : Nat → Nat) (n : Nat) : PT := fun r f' n' => r = .inl (some (.int (nI (tkC V (V 2))))) ∧ n' = n ∧ ∃ (J' : Nat → Int32) (B' : Nat → Nat → Int32), f' = sU f o J' B' ∧ SV J' B' (tkV V (V 2))
abbrev MX8_squareOfPeriod : MT := (RX8, cX8_squareOfPeriod, 1, (some .int), [], "squareOfPeriod")
set_option maxHeartbeats 4000000 in
theorem s_sq {l : Launch} {G : GT} {n : Nat} {f : HT} {L : Nat} : AM l G yX8_squareOfPeriod (.code yX8_squareOfPeriod cX8_squareOfPeriod 1 (some .int)) 0 0 0 0 [.int (nI L)] (f) n (rI (nI (36 * L)) f n) := by
  refine aw_enter (M := MX8_squareOfPeriod) rfl rfl (by decide +kernel) rfl (Nat.le_of_ble_eq_true rfl) ?_
  show AW l G MX8_squareOfPeriod 0 0 0 0 _ n 0 0 0 [(0, .int (nI L))] [] _ n
  refine aw_bipush_n 36 dX8_squareOfPeriod_0 (by decide) ?_
  refine aw_iload_n dX8_squareOfPeriod_2 rfl rfl ?_
  refine aw_imul_n dX8_squareOfPeriod_3 ?_
  exact aw_iret rfl (by decide) (by decide) dX8_squareOfPeriod_4 (rI_of (by rfl))
abbrev MX8_hang : MT := (RX8, cX8_hang, 3, (some .int), [], "hang")
set_option maxHeartbeats 4000000 in
theorem s_hang {l : Launch} {G : GT} {n : Nat} {f : HT} {o : Nat} {J : Nat → Int32} {B : Nat → Nat → Int32} {K : Nat} {V : Nat → Nat} (hS : SV J B V) (hB : VB K V) (v : Int32) : AM l G yX8_hang (.code yX8_hang cX8_hang 3 (some .int)) 1 60 0 0 [.ref o, .int v] (sU f o J B) n (PSo f o (opAdd V v) n) := by
  refine aw_enter (M := MX8_hang) rfl rfl (by decide +kernel) rfl (Nat.le_of_ble_eq_true rfl) ?_
  have hcnt := VB.cnt hB
  have hleg := VB.legs hB
  have hfr := VB.fric hB
  have hnow := VB.now hB
  have hkk := VB.kk hB
  have hq4 := c2_le (opAdd_4 V v)
  show AW l G MX8_hang 1 60 0 0 _ n 0 0 0 [(0, .ref o), (1, .int v)] [] _ n
  refine aw_aload_n dX8_hang_0 rfl rfl ?_
  refine aw_iload_n dX8_hang_1 rfl rfl ?_
  refine aw_vI (as := [Value.int v]) (rest := []) mV_X8_refusalToHang (s_rfHang hS hB v) ml_X8_65 sU_0 rfl dX8_hang_2 rfl rfl (by decide) (Nat.le_of_ble_eq_true rfl) (by decide) ?_
  refine aw_if_eq_n (by omega) (tgt := 10) dX8_hang_5 (by decide) (fun c_1 => ?_) (fun c_1 => ?_)
  · have hok := add_ok c_1
    obtain ⟨x, hx0, hx1, rfl⟩ := inB_of (a := 1) (b := 99) (by decide) (by decide) hok.1
    have hnx := nIc (show x < 2 ^ 31 by omega)
    have h36 := hok.2
    refine aw_aload_n dX8_hang_10 rfl rfl ?_
    refine aw_get (v := .int (nI (V 2))) fl_X8_36 sU_0 (congrArg (fun z => some (Value.int z)) hS.cnt) dX8_hang_11 ?_
    refine aw_istore_n (L' := [(2, .int (nI (V 2))), (0, .ref o), (1, .int (nI x))]) dX8_hang_14 rfl (by decide) rfl ?_
    refine aw_aload_n dX8_hang_15 rfl rfl ?_
    refine aw_get (v := .ref (o + 1)) fl_X8_9 sU_0 rfl dX8_hang_16 ?_
    refine aw_iload_n dX8_hang_19 rfl rfl ?_
    refine aw_iload_n dX8_hang_20 rfl rfl ?_
    refine aw_iast_n (k := V 2) sU_1 (by omega) (by decide) dX8_hang_21 ?_
    rw [sU_A0]
    refine aw_aload_n dX8_hang_22 rfl rfl ?_
    refine aw_get (v := .ref (o + 2)) fl_X8_15 sU_0 rfl dX8_hang_23 ?_
    refine aw_iload_n dX8_hang_26 rfl rfl ?_
    refine aw_iload_n dX8_hang_27 rfl rfl ?_
    refine aw_sI (as := [Value.int (nI x)]) (rest := [Value.int (nI (V 2)), Value.ref (o + 2)]) mS_X8_squareOfPeriod (s_sq ) ml_X8_69 dX8_hang_28 rfl rfl (by decide) (Nat.le_of_ble_eq_true rfl) (by decide) ?_
    refine aw_sI (as := [Value.int (nI (36 * x))]) (rest := [Value.int (nI (V 2)), Value.ref (o + 2)]) mS_X4_rootByBits (n_root (by omega)) ml_X8_72 dX8_hang_31 rfl rfl (by decide) (Nat.le_of_ble_eq_true rfl) (by decide) ?_
    refine aw_iast_n (k := V 2) sU_2 (by omega) (by decide) dX8_hang_34 ?_
    rw [sU_A1]
    rw [show (va_up B 0 (upd (B 0) (V 2) ((nI x)))) 1 = B 1 from by (repeat rw [up_ne (by decide)])]
    refine aw_aload_n dX8_hang_35 rfl rfl ?_
    refine aw_get (v := .ref (o + 3)) fl_X8_18 sU_0 rfl dX8_hang_36 ?_
    refine aw_iload_n dX8_hang_39 rfl rfl ?_
    refine aw_iconst_n 0 dX8_hang_40 (by decide) ?_
    refine aw_iast_n (k := V 2) sU_3 (by omega) (by decide) dX8_hang_41 ?_
    rw [sU_A2]
    rw [show (va_up (va_up B 0 (upd (B 0) (V 2) ((nI x)))) 1 (upd (B 1) (V 2) ((nI (perN x))))) 2 = B 2 from by (repeat rw [up_ne (by decide)])]
    refine aw_aload_n dX8_hang_42 rfl rfl ?_
    refine aw_get (v := .ref (o + 4)) fl_X8_21 sU_0 rfl dX8_hang_43 ?_
    refine aw_iload_n dX8_hang_46 rfl rfl ?_
    refine aw_iconst_n 0 dX8_hang_47 (by decide) ?_
    refine aw_iast_n (k := V 2) sU_4 (by omega) (by decide) dX8_hang_48 ?_
    rw [sU_A3]
    rw [show (va_up (va_up (va_up B 0 (upd (B 0) (V 2) ((nI x)))) 1 (upd (B 1) (V 2) ((nI (perN x))))) 2 (upd (B 2) (V 2) ((nI 0)))) 3 = B 3 from by (repeat rw [up_ne (by decide)])]
    refine aw_aload_n dX8_hang_49 rfl rfl ?_
    refine aw_get (v := .ref (o + 5)) fl_X8_24 sU_0 rfl dX8_hang_50 ?_
    refine aw_iload_n dX8_hang_53 rfl rfl ?_
    refine aw_iconst_n 0 dX8_hang_54 (by decide) ?_
    refine aw_iast_n (k := V 2) sU_5 (by omega) (by decide) dX8_hang_55 ?_
    rw [sU_A4]
    rw [show (va_up (va_up (va_up (va_up B 0 (upd (B 0) (V 2) ((nI x)))) 1 (upd (B 1) (V 2) ((nI (perN x))))) 2 (upd (B 2) (V 2) ((nI 0)))) 3 (upd (B 3) (V 2) ((nI 0)))) 4 = B 4 from by (repeat rw [up_ne (by decide)])]
    refine aw_aload_n dX8_hang_56 rfl rfl ?_
    refine aw_iload_n dX8_hang_57 rfl rfl ?_
    refine aw_iconst_n 1 dX8_hang_58 (by decide) ?_
    refine aw_iadd_n dX8_hang_59 ?_
    refine aw_sput fp_X8_36 (by decide) rfl rfl dX8_hang_60 ?_
    refine aw_iload_n dX8_hang_63 rfl rfl ?_
    have e : opAdd V (nI x) = (0, V 2, va_up (va_up V (4 + V 2) x) 2 (V 2 + 1)) := by unfold opAdd; rw [if_neg (by rw [hok.1]; decide), if_neg hok.2, hnx]
    rw [e]
    have h9 := hS.add9 hB hok.2 hx1
    exact aw_iret rfl (by decide) (by decide) dX8_hang_64 ⟨rfl, rfl, _, _, rfl, h9⟩
  · refine aw_iconst (v := -1) dX8_hang_8 (by decide) ?_
    exact aw_iret rfl (by decide) (by decide) dX8_hang_9 ⟨by rw [if_neg (add_no c_1).1], rfl, _, _, rfl, by rw [(add_no c_1).2]; exact hS⟩
abbrev MX8_afterSwing : MT := (RX8, cX8_afterSwing, 2, (some .int), [], "afterSwing")
set_option maxHeartbeats 4000000 in
theorem s_after {l : Launch} {G : GT} {n : Nat} {f : HT} {o : Nat} {J : Nat → Int32} {B : Nat → Nat → Int32} {K : Nat} {V : Nat → Nat} (hS : SV J B V) (hB : VB K V) {a : Nat} (ha1 : 1 ≤ a) (ha : a ≤ 60) : AM l G yX8_afterSwing (.code yX8_afterSwing cX8_afterSwing 2 (some .int)) 1 60 0 0 [.ref o, .int (nI a)] (sU f o J B) n (rI (nI (swN (V 1) a)) (sU f o J B) n) := by
  refine aw_enter (M := MX8_afterSwing) rfl rfl (by decide +kernel) rfl (Nat.le_of_ble_eq_true rfl) ?_
  have hcnt := VB.cnt hB
  have hleg := VB.legs hB
  have hfr := VB.fric hB
  have hnow := VB.now hB
  have hkk := VB.kk hB
  have hmf : a * V 1 ≤ 60 * 30 := Nat.mul_le_mul ha hfr
  have hdf : a * V 1 / 100 ≤ 60 * 30 / 100 := Nat.div_le_div_right hmf
  have hmx : max 1 (a * V 1 / 100) ≤ a := by
    have h9 : a * V 1 ≤ a * 30 := Nat.mul_le_mul (Nat.le_refl a) hfr
    have h8 : a * V 1 / 100 ≤ a := Nat.le_trans (Nat.div_le_div_right h9) (by omega)
    exact Nat.max_le.mpr ⟨ha1, h8⟩
  show AW l G MX8_afterSwing 1 60 0 0 _ n 0 0 0 [(0, .ref o), (1, .int (nI a))] [] _ n
  refine aw_iload_n dX8_afterSwing_0 rfl rfl ?_
  refine aw_iconst_n 1 dX8_afterSwing_1 (by decide) ?_
  refine aw_iload_n dX8_afterSwing_2 rfl rfl ?_
  refine aw_aload_n dX8_afterSwing_3 rfl rfl ?_
  refine aw_get (v := .int (nI (V 1))) fl_X8_46 sU_0 (congrArg (fun z => some (Value.int z)) hS.fric) dX8_afterSwing_4 ?_
  refine aw_imul_n dX8_afterSwing_7 ?_
  refine aw_bipush_n 100 dX8_afterSwing_8 (by decide) ?_
  refine aw_idiv_n (by omega) (by omega) (by omega) dX8_afterSwing_10 ?_
  refine aw_mmax_n (by omega) (by omega) ml_X8_111 (by decide) (Nat.le_of_ble_eq_true rfl) (by decide) (by decide) dX8_afterSwing_11 ?_
  refine aw_isub_n (by omega) dX8_afterSwing_14 ?_
  exact aw_iret rfl (by decide) (by decide) dX8_afterSwing_15 (rI_of (by rfl))
abbrev MX8_swingAll : MT := (RX8, cX8_swingAll, 3, (some .int), [], "swingAll")
set_option maxHeartbeats 4000000 in
theorem s_swAll_loop {l : Launch} {G : GT} {n : Nat} {f : HT} {o : Nat} {K : Nat} {V : Nat → Nat} (hB : VB K V) (hK : K + 1 < 16000000) : ∀ (N : Nat) (u cnt : Nat) (J : Nat → Int32) (B : Nat → Nat → Int32), (V 2 - u = N) → (u ≤ V 2) → (cnt = tkC V u) → (SV J B (tkV V u)) → AW l G MX8_swingAll 2 120 0 0 (TSo f o V n) n 0 0 4 [(2, .int (nI u)), (1, .int (nI cnt)), (0, .ref o)] [] (sU f o J B) n := by
  intro N
  induction N using Nat.strongRecOn with
  | ind N ih =>
    intro u cnt J B hN hu hc hS
    have hcnt := VB.cnt hB
    have hleg := VB.legs hB
    have hfr := VB.fric hB
    have hnow := VB.now hB
    have hkk := VB.kk hB
    have hW := hB.tick hK hu
    have hcl := tkC_le V u
    refine aw_iload_n dX8_swingAll_4 rfl rfl ?_
    refine aw_aload_n dX8_swingAll_5 rfl rfl ?_
    refine aw_get (v := .int (nI (V 2))) fl_X8_36 sU_0 (congrArg (fun z => some (Value.int z)) (hS.cnt.trans (congrArg nI tk_2))) dX8_swingAll_6 ?_
    refine aw_icmp_ge_n (by omega) (by omega) (tgt := 78) dX8_swingAll_9 (by decide) (fun c_1 => ?_) (fun c_1 => ?_)
    · refine aw_iload_n dX8_swingAll_78 rfl rfl ?_
      have e9 : u = V 2 := by omega
      subst e9
      exact aw_iret rfl (by decide) (by decide) dX8_swingAll_79 ⟨by rw [hc], rfl, _, _, rfl, hS⟩
    · have hax := VB.amp hB (k := u) (by omega)
      have hsx := VB.start hB (k := u) (by omega)
      have hlx := VB.len hB (k := u) (by omega)
      have hl1 := VB.len1 hB (k := u) (by omega)
      have hwx := VB.sw hB (k := u) (by omega)
      have hpp := per_pos hl1
      have hpl := per_le hlx
      refine aw_aload_n dX8_swingAll_12 rfl rfl ?_
      refine aw_iload_n dX8_swingAll_13 rfl rfl ?_
      refine aw_vI (as := [Value.int (nI u)]) (rest := []) mV_X8_isSwinging (s_swinging hS hW (k := u) (by rw [tk_2]; omega)) ml_X8_101 sU_0 rfl dX8_swingAll_14 rfl rfl (by decide) (Nat.le_of_ble_eq_true rfl) (by decide) ?_
      rw [tk_12 (by omega)]
      refine aw_if_eq_b (tgt := 72) dX8_swingAll_17 (by decide) (fun c_2 => ?_) (fun c_2 => ?_)
      · have d_1 := of_decide_eq_false c_2
        refine aw_iinc_n (L' := [(2, .int (nI (u + 1))), (1, .int (nI cnt)), (0, .ref o)]) 1 dX8_swingAll_72 rfl (by decide) (by decide) rfl ?_
        refine aw_goto (tgt := 4) dX8_swingAll_75 (by decide) ?_
        refine aw_sub [(2, .int (nI (u + 1))), (1, .int (nI (cnt))), (0, .ref o)] (by simp) ?_
        have hs : swg V u = false := decide_eq_false (fun z => d_1 z.1)
        exact ih _ (by omega) (u + 1) _ _ _ rfl (by omega) (by rw [hc]; simp [tkC, hs]) (by rw [tkV_f hs]; exact hS)
      · have d_1 := of_decide_eq_true c_2
        refine aw_aload_n dX8_swingAll_20 rfl rfl ?_
        refine aw_get (v := .ref (o + 2)) fl_X8_15 sU_0 rfl dX8_swingAll_21 ?_
        refine aw_iload_n dX8_swingAll_24 rfl rfl ?_
        refine aw_iald_n (k := u) (v := nI (perN (V (4 + u)))) sU_2 (by omega) (by decide) (by first | exact (hS.per u (by rw [tk_2]; omega)).trans (by rw [tk_4 (by omega)]) | (rw [up_ne (by decide)]; exact (hS.per u (by rw [tk_2]; omega)).trans (by rw [tk_4 (by omega)]))) dX8_swingAll_25 ?_
        refine aw_aload_n dX8_swingAll_26 rfl rfl ?_
        refine aw_get (v := .int (nI (V 0 + 1))) fl_X8_43 sU_0 (congrArg (fun z => some (Value.int z)) (hS.now)) dX8_swingAll_27 ?_
        refine aw_aload_n dX8_swingAll_30 rfl rfl ?_
        refine aw_get (v := .ref (o + 4)) fl_X8_21 sU_0 rfl dX8_swingAll_31 ?_
        refine aw_iload_n dX8_swingAll_34 rfl rfl ?_
        refine aw_iald_n (k := u) (v := nI (V (20 + u))) sU_4 (by omega) (by decide) (by first | exact (hS.start u (by rw [tk_2]; omega)).trans (by rw [tk_20 (by omega)]) | (rw [up_ne (by decide)]; exact (hS.start u (by rw [tk_2]; omega)).trans (by rw [tk_20 (by omega)]))) dX8_swingAll_35 ?_
        refine aw_isub_n (by omega) dX8_swingAll_36 ?_
        refine aw_sI (as := [Value.int (nI (perN (V (4 + u)))), Value.int (nI ((V 0 + 1) - (V (20 + u))))]) (rest := []) mS_X4_divides (n_div (by omega)) ml_X8_104 dX8_swingAll_37 rfl rfl (by decide) (Nat.le_of_ble_eq_true rfl) (by decide) ?_
        rw [dv_n (by omega) (by omega) (by omega)]
        refine aw_if_eq_b (tgt := 72) dX8_swingAll_40 (by decide) (fun c_3 => ?_) (fun c_3 => ?_)
        · have d_2 := of_decide_eq_false c_3
          refine aw_iinc_n (L' := [(2, .int (nI (u + 1))), (1, .int (nI cnt)), (0, .ref o)]) 1 dX8_swingAll_72 rfl (by decide) (by decide) rfl ?_
          refine aw_goto (tgt := 4) dX8_swingAll_75 (by decide) ?_
          refine aw_sub [(2, .int (nI (u + 1))), (1, .int (nI (cnt))), (0, .ref o)] (by simp) ?_
          have hs : swg V u = false := decide_eq_false (fun z => d_2 z.2)
          exact ih _ (by omega) (u + 1) _ _ _ rfl (by omega) (by rw [hc]; simp [tkC, hs]) (by rw [tkV_f hs]; exact hS)
        · have d_2 := of_decide_eq_true c_3
          refine aw_aload_n dX8_swingAll_43 rfl rfl ?_
          refine aw_get (v := .ref (o + 3)) fl_X8_18 sU_0 rfl dX8_swingAll_44 ?_
          refine aw_iload_n dX8_swingAll_47 rfl rfl ?_
          refine aw_aload_n dX8_swingAll_48 rfl rfl ?_
          refine aw_aload_n dX8_swingAll_49 rfl rfl ?_
          refine aw_get (v := .ref (o + 3)) fl_X8_18 sU_0 rfl dX8_swingAll_50 ?_
          refine aw_iload_n dX8_swingAll_53 rfl rfl ?_
          refine aw_iald_n (k := u) (v := nI (V (12 + u))) sU_3 (by omega) (by decide) (by first | exact (hS.amp u (by rw [tk_2]; omega)).trans (by rw [tk_12 (by omega)]) | (rw [up_ne (by decide)]; exact (hS.amp u (by rw [tk_2]; omega)).trans (by rw [tk_12 (by omega)]))) dX8_swingAll_54 ?_
          refine aw_vI (as := [Value.int (nI (V (12 + u)))]) (rest := [Value.int (nI u), Value.ref (o + 3)]) mV_X8_afterSwing (s_after hS hW (a := V (12 + u)) (by omega) (by omega)) ml_X8_108 sU_0 rfl dX8_swingAll_55 rfl rfl (by decide) (Nat.le_of_ble_eq_true rfl) (by decide) ?_
          rw [tk_1]
          refine aw_iast_n (k := u) sU_3 (by omega) (by decide) dX8_swingAll_58 ?_
          rw [sU_A2]
          refine aw_aload_n dX8_swingAll_59 rfl rfl ?_
          refine aw_get (v := .ref (o + 5)) fl_X8_24 sU_0 rfl dX8_swingAll_60 ?_
          refine aw_iload_n dX8_swingAll_63 rfl rfl ?_
          refine aw_dup2 dX8_swingAll_64 rfl rfl ?_
          refine aw_iald_n (k := u) (v := nI (V (28 + u))) sU_5 (by omega) (by decide) (by first | exact (hS.sw u (by rw [tk_2]; omega)).trans (by rw [tk_28 (by omega)]) | (rw [up_ne (by decide)]; exact (hS.sw u (by rw [tk_2]; omega)).trans (by rw [tk_28 (by omega)]))) dX8_swingAll_65 ?_
          refine aw_iconst_n 1 dX8_swingAll_66 (by decide) ?_
          refine aw_iadd_n dX8_swingAll_67 ?_
          refine aw_iast_n (k := u) sU_5 (by omega) (by decide) dX8_swingAll_68 ?_
          rw [sU_A4]
          refine aw_iinc_n (L' := [(1, .int (nI (cnt + 1))), (2, .int (nI u)), (0, .ref o)]) 1 dX8_swingAll_69 rfl (by decide) (by decide) rfl ?_
          refine aw_iinc_n (L' := [(2, .int (nI (u + 1))), (1, .int (nI (cnt + 1))), (0, .ref o)]) 1 dX8_swingAll_72 rfl (by decide) (by decide) rfl ?_
          refine aw_goto (tgt := 4) dX8_swingAll_75 (by decide) ?_
          refine aw_sub [(2, .int (nI (u + 1))), (1, .int (nI (cnt + 1))), (0, .ref o)] (by simp) ?_
          have hs : swg V u = true := decide_eq_true ⟨d_1, d_2⟩
          have h91 := (hS.amp9 (x := u) (a := swN (V 1) (V (12 + u))) (by rw [tk_2]; exact hcnt) (by rw [tk_3]; exact hleg) (by omega)).sw9 (x := u) (a := V (28 + u) + 1) (by rw [up_ne (by omega), tk_2]; exact hcnt) (by rw [up_ne (by omega), tk_3]; exact hleg) (by omega)
          rw [← tkV_t (by omega) hs] at h91
          exact ih _ (by omega) (u + 1) _ _ _ rfl (by omega) (by rw [hc]; simp [tkC, hs]) h91
set_option maxHeartbeats 4000000 in
theorem s_swAll {l : Launch} {G : GT} {n : Nat} {f : HT} {o : Nat} {K : Nat} {V : Nat → Nat} (hB : VB K V) (hK : K + 1 < 16000000) {J : Nat → Int32} {B : Nat → Nat → Int32} (hS : SV J B (tkV V 0)) : AM l G yX8_swingAll (.code yX8_swingAll cX8_swingAll 3 (some .int)) 2 120 0 0 [.ref o] (sU f o J B) n (TSo f o V n) := by
  refine aw_enter (M := MX8_swingAll) rfl rfl (by decide +kernel) rfl (Nat.le_of_ble_eq_true rfl) ?_
  show AW l G MX8_swingAll 2 120 0 0 _ n 0 0 0 [(0, .ref o)] [] _ n
  refine aw_iconst_n 0 dX8_swingAll_0 (by decide) ?_
  refine aw_istore_n (L' := [(1, .int (nI 0)), (0, .ref o)]) dX8_swingAll_1 rfl (by decide) rfl ?_
  refine aw_iconst_n 0 dX8_swingAll_2 (by decide) ?_
  refine aw_istore_n (L' := [(2, .int (nI 0)), (1, .int (nI 0)), (0, .ref o)]) dX8_swingAll_3 rfl (by decide) rfl ?_
  exact aw_sub [(2, .int (nI 0)), (1, .int (nI 0)), (0, .ref o)] (by simp) (s_swAll_loop hB hK _ 0 0 _ _ rfl (Nat.zero_le _) rfl hS)
abbrev MX8_waitFor : MT := (RX8, cX8_waitFor, 4, (some .int), [], "waitFor")
set_option maxHeartbeats 4000000 in
theorem s_wait_loop {l : Launch} {G : GT} {n : Nat} {f : HT} {o : Nat} {K : Nat} {V : Nat → Nat} {t : Nat} (ht : t ≤ 500) (hK : K + t < 16000000) : ∀ (N : Nat) (u cnt : Nat) (W : Nat → Nat) (J : Nat → Int32) (B : Nat → Nat → Int32), (t - u = N) → (u ≤ t) → (VB (K + u) W) → (cnt + tkcs (t - u) W = tkcs t V) → (tks (t - u) W = tks t V) → (cnt ≤ 8 * u) → (SV J B W) → AW l G MX8_waitFor 3 180 0 0 (PSo f o (0, tkcs t V, tks t V) n) n 0 0 14 [(3, .int (nI u)), (2, .int (nI cnt)), (0, .ref o), (1, .int (nI t))] [] (sU f o J B) n := by
  intro N
  induction N using Nat.strongRecOn with
  | ind N ih =>
    intro u cnt W J B hN hu hV ht1 ht2 hcc hS
    refine aw_iload_n dX8_waitFor_14 rfl rfl ?_
    refine aw_iload_n dX8_waitFor_15 rfl rfl ?_
    refine aw_icmp_ge_n (by omega) (by omega) (tgt := 42) dX8_waitFor_16 (by decide) (fun c_1 => ?_) (fun c_1 => ?_)
    · have e0 : t - u = 0 := by omega
      refine aw_iload_n dX8_waitFor_42 rfl rfl ?_
      exact aw_iret rfl (by decide) (by decide) dX8_waitFor_43 ⟨by rw [← ht1, e0]; rfl, rfl, _, _, rfl, by rw [← ht2, e0]; exact hS⟩
    · have hKt : K + u + 1 < 16000000 := by omega
      refine aw_aload_n dX8_waitFor_19 rfl rfl ?_
      refine aw_dup dX8_waitFor_20 rfl ?_
      refine aw_get (v := .int (nI (W 0))) fl_X8_43 sU_0 (congrArg (fun z => some (Value.int z)) hS.now) dX8_waitFor_21 ?_
      refine aw_iconst_n 1 dX8_waitFor_24 (by decide) ?_
      refine aw_iadd_n dX8_waitFor_25 ?_
      refine aw_sput fp_X8_43 (by decide) rfl rfl dX8_waitFor_26 ?_
      refine aw_iload_n dX8_waitFor_29 rfl rfl ?_
      refine aw_aload_n dX8_waitFor_30 rfl rfl ?_
      refine aw_vP (as := []) (rest := [Value.int (nI cnt)]) mV_X8_swingAll (s_swAll (V := W) hV hKt hS.now9) ml_X8_97 sU_0 rfl dX8_waitFor_31 rfl rfl (by decide) (Nat.le_of_ble_eq_true rfl) (by decide) (fun _ _ _ h => by cases h.1) (fun r f9 n9 _ h => ?_)
      obtain ⟨h1, h2, J1, B1, h3, hS1⟩ := h
      cases h1; subst h2; subst h3
      have htc := tkC_le W (W 2)
      have hc8 := VB.cnt hV
      refine aw_iadd_n dX8_waitFor_34 ?_
      refine aw_istore_n (L' := [(2, .int (nI (cnt + (tkC W (W 2))))), (3, .int (nI u)), (0, .ref o), (1, .int (nI t))]) dX8_waitFor_35 rfl (by decide) rfl ?_
      refine aw_iinc_n (L' := [(3, .int (nI (u + 1))), (2, .int (nI (cnt + (tkC W (W 2))))), (0, .ref o), (1, .int (nI t))]) 1 dX8_waitFor_36 rfl (by decide) (by decide) rfl ?_
      refine aw_goto (tgt := 14) dX8_waitFor_39 (by decide) ?_
      have e : t - u = (t - (u + 1)) + 1 := by omega
      exact ih _ (by omega) (u + 1) _ _ _ _ rfl (by omega) (VB.tick hV hKt (Nat.le_refl _)) (by rw [← ht1, e]; show _ = _ + (_ + _); omega) (by rw [← ht2, e]; rfl) (by omega) hS1
set_option maxHeartbeats 4000000 in
theorem s_waitFor {l : Launch} {G : GT} {n : Nat} {f : HT} {o : Nat} {J : Nat → Int32} {B : Nat → Nat → Int32} {K : Nat} {V : Nat → Nat} (hS : SV J B V) (hB : VB K V) (hK : K + 500 < 16000000) (v : Int32) : AM l G yX8_waitFor (.code yX8_waitFor cX8_waitFor 4 (some .int)) 3 180 0 0 [.ref o, .int v] (sU f o J B) n (PSo f o (opPass V v) n) := by
  refine aw_enter (M := MX8_waitFor) rfl rfl (by decide +kernel) rfl (Nat.le_of_ble_eq_true rfl) ?_
  have hcnt := VB.cnt hB
  have hleg := VB.legs hB
  have hfr := VB.fric hB
  have hnow := VB.now hB
  have hkk := VB.kk hB
  have hq4 := c2_le (opPass_4 V v)
  show AW l G MX8_waitFor 3 180 0 0 _ n 0 0 0 [(0, .ref o), (1, .int v)] [] _ n
  refine aw_aload_n dX8_waitFor_0 rfl rfl ?_
  refine aw_iload_n dX8_waitFor_1 rfl rfl ?_
  refine aw_vI (as := [Value.int v]) (rest := []) mV_X8_refusalToWait (s_rfWait hS hB v) ml_X8_94 sU_0 rfl dX8_waitFor_2 rfl rfl (by decide) (Nat.le_of_ble_eq_true rfl) (by decide) ?_
  refine aw_if_eq_n (by omega) (tgt := 10) dX8_waitFor_5 (by decide) (fun c_1 => ?_) (fun c_1 => ?_)
  · have hok := pass_ok c_1
    obtain ⟨x, hx0, hx1, rfl⟩ := inB_of (a := 1) (b := 500) (by decide) (by decide) hok
    have hnx := nIc (show x < 2 ^ 31 by omega)
    refine aw_iconst_n 0 dX8_waitFor_10 (by decide) ?_
    refine aw_istore_n (L' := [(2, .int (nI 0)), (0, .ref o), (1, .int (nI x))]) dX8_waitFor_11 rfl (by decide) rfl ?_
    refine aw_iconst_n 0 dX8_waitFor_12 (by decide) ?_
    refine aw_istore_n (L' := [(3, .int (nI 0)), (2, .int (nI 0)), (0, .ref o), (1, .int (nI x))]) dX8_waitFor_13 rfl (by decide) rfl ?_
    have e : opPass V (nI x) = (0, tkcs x V, tks x V) := by unfold opPass; rw [if_neg (by rw [hok]; decide), hnx]
    rw [e]
    exact s_wait_loop hx1 (by omega) _ 0 0 V _ _ rfl (Nat.zero_le _) hB (by simp) rfl (by decide) hS
  · refine aw_iconst (v := -1) dX8_waitFor_8 (by decide) ?_
    exact aw_iret rfl (by decide) (by decide) dX8_waitFor_9 ⟨by rw [if_neg (pass_no c_1).1], rfl, _, _, rfl, by rw [(pass_no c_1).2]; exact hS⟩
