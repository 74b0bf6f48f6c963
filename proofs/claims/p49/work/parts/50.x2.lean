/-- the state with ints J, arrays B lies at o -/
def sAt (H : HT) (o : Nat) (J : Nat → Int32) (B : Nat → Nat → Int32) : Prop := ∀ j, j < 9 → H (o + j) = sC o J B j
theorem sAt.self {H : HT} {o : Nat} {J : Nat → Int32} {B : Nat → Nat → Int32} (h : sAt H o J B) : sU H o J B = H := rU_self h
theorem sAt.new {H : HT} {o : Nat} {J : Nat → Int32} {B : Nat → Nat → Int32} : sAt (sU H o J B) o J B := fun j hj => rU_at j hj
theorem sAt.out {H : HT} {o a w : Nat} {J : Nat → Int32} {B : Nat → Nat → Int32} {C : Nat → va_E} (h : sAt H o J B) (hd : o + 9 ≤ a ∨ a + w ≤ o) : sAt (rU H a w C) o J B := fun j hj => (rU_out (by omega)).trans (h j hj)
theorem sAt.up {H : HT} {o a : Nat} {c : va_E} {J : Nat → Int32} {B : Nat → Nat → Int32} (h : sAt H o J B) (hd : a < o ∨ o + 9 ≤ a) : sAt (va_up H a c) o J B := fun j hj => (up_ne (by omega)).trans (h j hj)
theorem sAt.obj {H : HT} {o : Nat} {J : Nat → Int32} {B : Nat → Nat → Int32} (h : sAt H o J B) : H o = .inr (5, sFs o J) := h 0 (by decide)
theorem AM.cast {l : Launch} {G : GT} {y : MethodName} {w : Cond} {fr lo mc ms : Nat} {as : List Value} {f f' : HT} {n : Nat} {P : PT} (h : f = f') (hA : AM l G y w fr lo mc ms as f n P) : AM l G y w fr lo mc ms as f' n P := by subst h; exact hA
/-- copyFrom in any heap -/
theorem s_copyH {l : Launch} {G : GT} {n : Nat} {H : HT} {o o2 : Nat} {J J2 : Nat → Int32} {B B2 : Nat → Nat → Int32} (h1 : sAt H o J B) (h2 : sAt H o2 J2 B2) (hd : o2 + 9 ≤ o ∨ o + 9 ≤ o2) : AM l G yX8_copyFrom (.code yX8_copyFrom cX8_copyFrom 2 none) 1 60 0 0 [.ref o, .ref o2] H n (rV (sU H o (cpJ J2 J) (cpB B2 B)) n) := by
  have e : sU (sU H o2 J2 B2) o J B = H := by rw [h2.self, h1.self]
  have h := s_copy (l := l) (G := G) (n := n) (f := H) (J := J) (J2 := J2) (B := B) (B2 := B2) hd
  rw [e, h2.self] at h
  exact h
/-! the ring of states -/
abbrev hcell (h a k : Nat) : va_E := .inr (2, [.ref (h + 1), .int (nI a), .int (nI k)])
abbrev hring (g : Nat → Option Nat) : va_E := .inl (5, (8, .inr (.inr (.inr (.inr g)))))
abbrev MX2_slotAt : MT := (RX2, cX2_slotAt, 2, (some (.object "PendulumGym$State")), [], "slotAt")
set_option maxHeartbeats 4000000 in
theorem h_slot {l : Launch} {G : GT} {n : Nat} {H : HT} {h a k : Nat} {g : Nat → Option Nat} (h0 : H h = hcell h a k) (h1 : H (h + 1) = hring g) {i v : Nat} (hi : i < 8) (hg : g i = some v) : AM l G yX2_slotAt (.code yX2_slotAt cX2_slotAt 2 (some (.object "PendulumGym$State"))) 0 0 0 0 [.ref h, .int (nI i)] (H) n (rR (.ref v) H n) := by
  refine aw_enter (M := MX2_slotAt) rfl rfl (by decide +kernel) rfl (Nat.le_of_ble_eq_true rfl) ?_
  show AW l G MX2_slotAt 0 0 0 0 _ n 0 0 0 [(0, .ref h), (1, .int (nI i))] [] _ n
  refine aw_iload_n dX2_slotAt_0 rfl rfl ?_
  refine aw_if_lt_n (by omega) (tgt := 22) dX2_slotAt_1 (by decide) ?_
  refine aw_iload_n dX2_slotAt_4 rfl rfl ?_
  refine aw_aload_n dX2_slotAt_5 rfl rfl ?_
  refine aw_get (v := .ref (h + 1)) fl_X2_11 (h0) rfl dX2_slotAt_6 ?_
  refine aw_alen (N := 0) (x := nilc) (ty := .object RX8) (v := nI 8) (h1) rfl rfl dX2_slotAt_9 ?_
  refine aw_icmp_ge_n (by omega) (by omega) (tgt := 22) dX2_slotAt_10 (by decide) (fun c_2 => by exfalso; omega) (fun c_2 => ?_)
  refine aw_aload_n dX2_slotAt_13 rfl rfl ?_
  refine aw_get (v := .ref (h + 1)) fl_X2_11 (h0) rfl dX2_slotAt_14 ?_
  refine aw_iload_n dX2_slotAt_17 rfl rfl ?_
  refine aw_aald RX8 (h1) rfl (vp_in_nI (by omega) (by decide)) dX2_slotAt_18 ?_
  rw [nIc (by omega), hg]
  refine aw_goto (tgt := 23) dX2_slotAt_19 (by decide) ?_
  exact aw_aret rfl (Or.inl ⟨_, rfl⟩) (Or.inr ⟨_, rfl⟩) (by decide) (by decide) dX2_slotAt_23 ⟨rfl, rfl, rfl⟩
abbrev MX2_size : MT := (RX2, cX2_size, 1, (some .int), [], "size")
set_option maxHeartbeats 4000000 in
theorem h_size {l : Launch} {G : GT} {n : Nat} {H : HT} {h a k : Nat} {g : Nat → Option Nat} (h0 : H h = hcell h a k) (h1 : H (h + 1) = hring g) : AM l G yX2_size (.code yX2_size cX2_size 1 (some .int)) 0 0 0 0 [.ref h] (H) n (rI (nI k) H n) := by
  refine aw_enter (M := MX2_size) rfl rfl (by decide +kernel) rfl (Nat.le_of_ble_eq_true rfl) ?_
  show AW l G MX2_size 0 0 0 0 _ n 0 0 0 [(0, .ref h)] [] _ n
  refine aw_aload_n dX2_size_0 rfl rfl ?_
  refine aw_get (v := .int (nI k)) fl_X2_21 (h0) rfl dX2_size_1 ?_
  exact aw_iret rfl (by decide) (by decide) dX2_size_4 (rI_of (by rfl))
abbrev MX2_forget : MT := (RX2, cX2_forget, 1, none, [], "forget")
set_option maxHeartbeats 4000000 in
theorem h_forget {l : Launch} {G : GT} {n : Nat} {H : HT} {h a k : Nat} {g : Nat → Option Nat} (h0 : H h = hcell h a k) (h1 : H (h + 1) = hring g) : AM l G yX2_forget (.code yX2_forget cX2_forget 1 none) 0 0 0 0 [.ref h] (H) n (rV (va_up H h (hcell h a 0)) n) := by
  refine aw_enter (M := MX2_forget) rfl rfl (by decide +kernel) rfl (Nat.le_of_ble_eq_true rfl) ?_
  show AW l G MX2_forget 0 0 0 0 _ n 0 0 0 [(0, .ref h)] [] _ n
  refine aw_aload_n dX2_forget_0 rfl rfl ?_
  refine aw_iconst_n 0 dX2_forget_1 (by decide) ?_
  refine aw_put fp_X2_21 (h0) (fun _ => rfl) (fun _ => rfl) (Nat.le_of_ble_eq_true rfl) dX2_forget_2 ?_
  exact aw_vret rfl (by decide) (by decide) dX2_forget_5 (rV_of (by rfl))
abbrev MX2_keep : MT := (RX2, cX2_keep, 3, none, [], "keep")
set_option maxHeartbeats 4000000 in
theorem h_keep {l : Launch} {G : GT} {n : Nat} {H : HT} {h a k : Nat} {g : Nat → Option Nat} (h0 : H h = hcell h a k) (h1 : H (h + 1) = hring g) (hg : ∀ i, i < 8 → g i = some (h + 2 + 9 * i)) (ha : a < 8) (hk : k ≤ 8) {o : Nat} {J J2 : Nat → Int32} {B B2 : Nat → Nat → Int32} (hso : sAt H o J B) (hd : o + 9 ≤ h ∨ h + 74 ≤ o) (hsl : sAt H (h + 2 + 9 * a) J2 B2) : AM l G yX2_keep (.code yX2_keep cX2_keep 3 none) 2 120 0 0 [.ref h, .ref o] (H) n (rV (va_up (sU H (h + 2 + 9 * a) (cpJ J J2) (cpB B B2)) h (hcell h (if a + 1 < 8 then a + 1 else 0) (min (k + 1) 8))) n) := by
  refine aw_enter (M := MX2_keep) rfl rfl (by decide +kernel) rfl (Nat.le_of_ble_eq_true rfl) ?_
  show AW l G MX2_keep 2 120 0 0 _ n 0 0 0 [(0, .ref h), (1, .ref o)] [] _ n
  refine aw_aload_n dX2_keep_0 rfl rfl ?_
  refine aw_aload_n dX2_keep_1 rfl rfl ?_
  refine aw_get (v := .int (nI a)) fl_X2_17 (h0) rfl dX2_keep_2 ?_
  refine aw_cR (as := [Value.int (nI a)]) (rest := []) (MV.c mV_X2_slotAt) (h_slot (h0) (h1) (i := a) (v := h + 2 + 9 * a) (by omega) (hg _ (by omega))) ml_X2_25 (RC.w (h0) rfl) dX2_keep_5 rfl rfl (by decide) (Nat.le_of_ble_eq_true rfl) (by decide) ?_
  refine aw_astore_n (L' := [(2, .ref (h + 2 + 9 * a)), (0, .ref h), (1, .ref o)]) dX2_keep_8 rfl (by decide) rfl ?_
  refine aw_aload_n dX2_keep_9 rfl rfl ?_
  refine aw_ifnonnull (tgt := 14) dX2_keep_10 (by decide) ?_
  refine aw_aload_n dX2_keep_14 rfl rfl ?_
  refine aw_aload_n dX2_keep_15 rfl rfl ?_
  refine aw_cV (as := [Value.ref o]) (rest := []) (MV.c mV_X8_copyFrom) (s_copyH hsl hso (by omega)) ml_X2_29 (RC.w hsl.obj rfl) dX2_keep_16 rfl rfl (by decide) (Nat.le_of_ble_eq_true rfl) (by decide) ?_
  refine aw_aload_n dX2_keep_19 rfl rfl ?_
  refine aw_aload_n dX2_keep_20 rfl rfl ?_
  refine aw_get (v := .int (nI a)) fl_X2_17 ((rU_out (by omega)).trans (h0)) rfl dX2_keep_21 ?_
  refine aw_iconst_n 1 dX2_keep_24 (by decide) ?_
  refine aw_iadd_n dX2_keep_25 ?_
  refine aw_bipush_n 8 dX2_keep_26 (by decide) ?_
  refine aw_icmp_ge_n (by omega) (by omega) (tgt := 40) dX2_keep_28 (by decide) (fun c_1 => ?_) (fun c_1 => ?_)
  · refine aw_iconst_n 0 dX2_keep_40 (by decide) ?_
    refine aw_put fp_X2_17 ((rU_out (by omega)).trans (h0)) (fun _ => rfl) (fun _ => rfl) (Nat.le_of_ble_eq_true rfl) dX2_keep_41 ?_
    refine aw_aload_n dX2_keep_44 rfl rfl ?_
    refine aw_aload_n dX2_keep_45 rfl rfl ?_
    refine aw_get (v := .int (nI k)) fl_X2_21 (up_self) rfl dX2_keep_46 ?_
    refine aw_iconst_n 1 dX2_keep_49 (by decide) ?_
    refine aw_iadd_n dX2_keep_50 ?_
    refine aw_bipush_n 8 dX2_keep_51 (by decide) ?_
    refine aw_mmin_n (by omega) (by omega) ml_X2_33 (by decide) (Nat.le_of_ble_eq_true rfl) (by decide) (by decide) dX2_keep_53 ?_
    refine aw_put fp_X2_21 (up_self) (fun _ => rfl) (fun _ => rfl) (Nat.le_of_ble_eq_true rfl) dX2_keep_56 ?_
    exact aw_vret rfl (by decide) (by decide) dX2_keep_59 (rV_of (by rw [bx_uu, if_neg (by omega)]; rfl))
  · refine aw_aload_n dX2_keep_31 rfl rfl ?_
    refine aw_get (v := .int (nI a)) fl_X2_17 ((rU_out (by omega)).trans (h0)) rfl dX2_keep_32 ?_
    refine aw_iconst_n 1 dX2_keep_35 (by decide) ?_
    refine aw_iadd_n dX2_keep_36 ?_
    refine aw_goto (tgt := 41) dX2_keep_37 (by decide) ?_
    refine aw_put fp_X2_17 ((rU_out (by omega)).trans (h0)) (fun _ => rfl) (fun _ => rfl) (Nat.le_of_ble_eq_true rfl) dX2_keep_41 ?_
    refine aw_aload_n dX2_keep_44 rfl rfl ?_
    refine aw_aload_n dX2_keep_45 rfl rfl ?_
    refine aw_get (v := .int (nI k)) fl_X2_21 (up_self) rfl dX2_keep_46 ?_
    refine aw_iconst_n 1 dX2_keep_49 (by decide) ?_
    refine aw_iadd_n dX2_keep_50 ?_
    refine aw_bipush_n 8 dX2_keep_51 (by decide) ?_
    refine aw_mmin_n (by omega) (by omega) ml_X2_33 (by decide) (Nat.le_of_ble_eq_true rfl) (by decide) (by decide) dX2_keep_53 ?_
    refine aw_put fp_X2_21 (up_self) (fun _ => rfl) (fun _ => rfl) (Nat.le_of_ble_eq_true rfl) dX2_keep_56 ?_
    exact aw_vret rfl (by decide) (by decide) dX2_keep_59 (rV_of (by rw [bx_uu, if_pos (by omega)]; rfl))
abbrev MX2_takeBackInto : MT := (RX2, cX2_takeBackInto, 4, none, [], "takeBackInto")
set_option maxHeartbeats 4000000 in
theorem h_take {l : Launch} {G : GT} {n : Nat} {H : HT} {h a k : Nat} {g : Nat → Option Nat} (h0 : H h = hcell h a k) (h1 : H (h + 1) = hring g) (hg : ∀ i, i < 8 → g i = some (h + 2 + 9 * i)) (ha : a < 8) (hk1 : 1 ≤ k) (hk : k ≤ 8) {o : Nat} {J J2 : Nat → Int32} {B B2 : Nat → Nat → Int32} (hso : sAt H o J B) (hd : o + 9 ≤ h ∨ h + 74 ≤ o) {b9 : Nat} (hb : b9 = (if 0 < a then a - 1 else 7)) (hsl : sAt H (h + 2 + 9 * b9) J2 B2) : AM l G yX2_takeBackInto (.code yX2_takeBackInto cX2_takeBackInto 4 none) 2 120 0 0 [.ref h, .ref o] (H) n (rV (va_up (sU H o (cpJ J2 J) (cpB B2 B)) h (hcell h b9 (k - 1))) n) := by
  refine aw_enter (M := MX2_takeBackInto) rfl rfl (by decide +kernel) rfl (Nat.le_of_ble_eq_true rfl) ?_
  show AW l G MX2_takeBackInto 2 120 0 0 _ n 0 0 0 [(0, .ref h), (1, .ref o)] [] _ n
  refine aw_aload_n dX2_takeBackInto_0 rfl rfl ?_
  refine aw_get (v := .int (nI a)) fl_X2_17 (h0) rfl dX2_takeBackInto_1 ?_
  refine aw_if_le_n (by omega) (tgt := 16) dX2_takeBackInto_4 (by decide) (fun c_1 => ?_) (fun c_1 => ?_)
  · refine aw_bipush_n 7 dX2_takeBackInto_16 (by decide) ?_
    have e9 : 7 = b9 := by rw [hb]; first | rw [if_pos (by omega)] | rw [if_neg (by omega)]
    rw [e9]
    refine aw_istore_n (L' := [(2, .int (nI b9)), (0, .ref h), (1, .ref o)]) dX2_takeBackInto_18 rfl (by decide) rfl ?_
    refine aw_aload_n dX2_takeBackInto_19 rfl rfl ?_
    refine aw_iload_n dX2_takeBackInto_20 rfl rfl ?_
    refine aw_cR (as := [Value.int (nI b9)]) (rest := []) (MV.c mV_X2_slotAt) (h_slot (h0) (h1) (i := b9) (v := h + 2 + 9 * b9) (by omega) (hg _ (by omega))) ml_X2_25 (RC.w (h0) rfl) dX2_takeBackInto_21 rfl rfl (by decide) (Nat.le_of_ble_eq_true rfl) (by decide) ?_
    refine aw_astore_n (L' := [(3, .ref (h + 2 + 9 * b9)), (2, .int (nI b9)), (0, .ref h), (1, .ref o)]) dX2_takeBackInto_24 rfl (by decide) rfl ?_
    refine aw_aload_n dX2_takeBackInto_25 rfl rfl ?_
    refine aw_get (v := .int (nI k)) fl_X2_21 (h0) rfl dX2_takeBackInto_26 ?_
    refine aw_if_eq_n (by omega) (tgt := 36) dX2_takeBackInto_29 (by decide) (fun c_2 => by exfalso; omega) (fun c_2 => ?_)
    refine aw_aload_n dX2_takeBackInto_32 rfl rfl ?_
    refine aw_ifnonnull (tgt := 37) dX2_takeBackInto_33 (by decide) ?_
    refine aw_aload_n dX2_takeBackInto_37 rfl rfl ?_
    refine aw_aload_n dX2_takeBackInto_38 rfl rfl ?_
    refine aw_cV (as := [Value.ref (h + 2 + 9 * b9)]) (rest := []) (MV.c mV_X8_copyFrom) (s_copyH hso hsl (by omega)) ml_X2_29 (RC.w hso.obj rfl) dX2_takeBackInto_39 rfl rfl (by decide) (Nat.le_of_ble_eq_true rfl) (by decide) ?_
    refine aw_aload_n dX2_takeBackInto_42 rfl rfl ?_
    refine aw_iload_n dX2_takeBackInto_43 rfl rfl ?_
    refine aw_put fp_X2_17 ((rU_out (by omega)).trans (h0)) (fun _ => rfl) (fun _ => rfl) (Nat.le_of_ble_eq_true rfl) dX2_takeBackInto_44 ?_
    refine aw_aload_n dX2_takeBackInto_47 rfl rfl ?_
    refine aw_dup dX2_takeBackInto_48 rfl ?_
    refine aw_get (v := .int (nI k)) fl_X2_21 (up_self) rfl dX2_takeBackInto_49 ?_
    refine aw_iconst_n 1 dX2_takeBackInto_52 (by decide) ?_
    refine aw_isub_n (by omega) dX2_takeBackInto_53 ?_
    refine aw_put fp_X2_21 (up_self) (fun _ => rfl) (fun _ => rfl) (Nat.le_of_ble_eq_true rfl) dX2_takeBackInto_54 ?_
    exact aw_vret rfl (by decide) (by decide) dX2_takeBackInto_57 (rV_of (by rw [bx_uu]; rfl))
  · refine aw_aload_n dX2_takeBackInto_7 rfl rfl ?_
    refine aw_get (v := .int (nI a)) fl_X2_17 (h0) rfl dX2_takeBackInto_8 ?_
    refine aw_iconst_n 1 dX2_takeBackInto_11 (by decide) ?_
    refine aw_isub_n (by omega) dX2_takeBackInto_12 ?_
    refine aw_goto (tgt := 18) dX2_takeBackInto_13 (by decide) ?_
    have e9 : a - 1 = b9 := by rw [hb]; first | rw [if_pos (by omega)] | rw [if_neg (by omega)]
    rw [e9]
    refine aw_istore_n (L' := [(2, .int (nI b9)), (0, .ref h), (1, .ref o)]) dX2_takeBackInto_18 rfl (by decide) rfl ?_
    refine aw_aload_n dX2_takeBackInto_19 rfl rfl ?_
    refine aw_iload_n dX2_takeBackInto_20 rfl rfl ?_
    refine aw_cR (as := [Value.int (nI b9)]) (rest := []) (MV.c mV_X2_slotAt) (h_slot (h0) (h1) (i := b9) (v := h + 2 + 9 * b9) (by omega) (hg _ (by omega))) ml_X2_25 (RC.w (h0) rfl) dX2_takeBackInto_21 rfl rfl (by decide) (Nat.le_of_ble_eq_true rfl) (by decide) ?_
    refine aw_astore_n (L' := [(3, .ref (h + 2 + 9 * b9)), (2, .int (nI b9)), (0, .ref h), (1, .ref o)]) dX2_takeBackInto_24 rfl (by decide) rfl ?_
    refine aw_aload_n dX2_takeBackInto_25 rfl rfl ?_
    refine aw_get (v := .int (nI k)) fl_X2_21 (h0) rfl dX2_takeBackInto_26 ?_
    refine aw_if_eq_n (by omega) (tgt := 36) dX2_takeBackInto_29 (by decide) (fun c_3 => by exfalso; omega) (fun c_3 => ?_)
    refine aw_aload_n dX2_takeBackInto_32 rfl rfl ?_
    refine aw_ifnonnull (tgt := 37) dX2_takeBackInto_33 (by decide) ?_
    refine aw_aload_n dX2_takeBackInto_37 rfl rfl ?_
    refine aw_aload_n dX2_takeBackInto_38 rfl rfl ?_
    refine aw_cV (as := [Value.ref (h + 2 + 9 * b9)]) (rest := []) (MV.c mV_X8_copyFrom) (s_copyH hso hsl (by omega)) ml_X2_29 (RC.w hso.obj rfl) dX2_takeBackInto_39 rfl rfl (by decide) (Nat.le_of_ble_eq_true rfl) (by decide) ?_
    refine aw_aload_n dX2_takeBackInto_42 rfl rfl ?_
    refine aw_iload_n dX2_takeBackInto_43 rfl rfl ?_
    refine aw_put fp_X2_17 ((rU_out (by omega)).trans (h0)) (fun _ => rfl) (fun _ => rfl) (Nat.le_of_ble_eq_true rfl) dX2_takeBackInto_44 ?_
    refine aw_aload_n dX2_takeBackInto_47 rfl rfl ?_
    refine aw_dup dX2_takeBackInto_48 rfl ?_
    refine aw_get (v := .int (nI k)) fl_X2_21 (up_self) rfl dX2_takeBackInto_49 ?_
    refine aw_iconst_n 1 dX2_takeBackInto_52 (by decide) ?_
    refine aw_isub_n (by omega) dX2_takeBackInto_53 ?_
    refine aw_put fp_X2_21 (up_self) (fun _ => rfl) (fun _ => rfl) (Nat.le_of_ble_eq_true rfl) dX2_takeBackInto_54 ?_
    exact aw_vret rfl (by decide) (by decide) dX2_takeBackInto_57 (rV_of (by rw [bx_uu]; rfl))
