/-- obey, for any command as it was read -/
theorem g_obeyC {l : Launch} {G : GT} {n : Nat} {H : HT} {x : Nat} {J : Nat → Int32} {B : Nat → Nat → Int32} {K : Nat} {V : Nat → Nat} {sv : Bool} {e1 e2 : Int32} (h0 : H x = gC x sv e1 e2) (hst : sAt H (x + 1) J B) (hS : SV J B V) (hB : VB K V) (hK : K + 500 < 16000000) (c : Nat × Nat × Nat) : AM l G yX10_obey (.code yX10_obey cX10_obey 4 (some .boolean)) 5 300 0 0 [.ref x, .ref ((wcE c).1 + 1), .int (nI (wcE c).2.1), .int (nI (wcE c).2.2)] H n (OBo H x (opC V c) n) := by
  unfold wcE opC
  by_cases z0 : c.1 = 104
  · rw [if_pos z0, if_pos z0]
    exact g_obey0 h0 hst hS hB
  by_cases z1 : c.1 = 112
  · rw [if_neg z0, if_pos z1, if_neg z0, if_pos z1]
    exact g_obey1 h0 hst hS hB
  by_cases z2 : c.1 = 99
  · rw [if_neg z0, if_neg z1, if_pos z2, if_neg z0, if_neg z1, if_pos z2]
    exact g_obey2 h0 hst hS hB
  by_cases z3 : c.1 = 102
  · rw [if_neg z0, if_neg z1, if_neg z2, if_pos z3, if_neg z0, if_neg z1, if_neg z2, if_pos z3]
    exact g_obey3 h0 hst hS hB
  by_cases z4 : c.1 = 108
  · rw [if_neg z0, if_neg z1, if_neg z2, if_neg z3, if_pos z4, if_neg z0, if_neg z1, if_neg z2, if_neg z3, if_pos z4]
    exact g_obey4 h0 hst hS hB
  by_cases z5 : c.1 = 117
  · rw [if_neg z0, if_neg z1, if_neg z2, if_neg z3, if_neg z4, if_pos z5, if_neg z0, if_neg z1, if_neg z2, if_neg z3, if_neg z4, if_pos z5]
    exact g_obey5 h0 hst hS hB
  rw [if_neg z0, if_neg z1, if_neg z2, if_neg z3, if_neg z4, if_neg z5, if_neg z0, if_neg z1, if_neg z2, if_neg z3, if_neg z4, if_neg z5]
  exact g_obey6 h0 hst hS hB hK
theorem rn_len : ∀ (cs : List (Nat × Nat × Nat)) (k : Nat) {V : Nat → Nat}, (rnL cs k V).1 = 0 → (rnL cs k V).2.1 = k + cs.length := by
  intro cs
  induction cs with
  | nil => intro k V _; rfl
  | cons c cs ih =>
    intro k V h
    by_cases z : (opC V c).1 = 0
    · rw [rn_yes z] at h ⊢
      rw [ih (k + 1) h]
      show k + 1 + cs.length = k + (cs.length + 1); omega
    · rw [rn_no z] at h; cases h
theorem rn_lt : ∀ (cs : List (Nat × Nat × Nat)) (k : Nat) {V : Nat → Nat}, (rnL cs k V).1 ≠ 0 → (rnL cs k V).1 = 2 ∧ (rnL cs k V).2.1 < k + cs.length := by
  intro cs
  induction cs with
  | nil => intro k V h; exact absurd rfl h
  | cons c cs ih =>
    intro k V h
    by_cases z : (opC V c).1 = 0
    · rw [rn_yes z] at h ⊢
      have h9 := ih (k + 1) h
      refine ⟨h9.1, ?_⟩
      show _ < k + (cs.length + 1); omega
    · rw [rn_no z]; exact ⟨rfl, by show k < k + (cs.length + 1); omega⟩
theorem dr_at {D : List (Nat × Nat × Nat)} {i : Nat} (h : i < D.length) : D.drop i = D.getD i (0, 0, 0) :: D.drop (i + 1) := by
  rw [List.drop_eq_getElem_cons h, List.getD_eq_getElem?_getD, List.getElem?_eq_getElem h]; rfl
/-- firstFailure: -1 or the place; the rest of the heap as in H -/
def FF9 (H : HT) (x : Nat) (R : Nat × Nat × (Nat → Nat)) (n : Nat) : PT := fun r f' n' => r = .inl (some (.int (if R.1 = 0 then -1 else nI R.2.1))) ∧ n' = n ∧ (∀ a, (a < x + 1 ∨ x + 10 ≤ a) → f' a = H a) ∧ ∃ (J' : Nat → Int32) (B' : Nat → Nat → Int32), sAt f' (x + 1) J' B' ∧ (R.1 = 0 → SV J' B' R.2.2)
abbrev MX10_firstFailure : MT := (RX10, cX10_firstFailure, 2, (some .int), [], "firstFailure")
set_option maxHeartbeats 4000000 in
theorem g_ff_loop {l : Launch} {G : GT} {n : Nat} {H : HT} {x K : Nat} {sv : Bool} {e1 e2 : Int32} {D : List (Nat × Nat × Nat)} {R : Nat × Nat × (Nat → Nat)} {I : Nat → Int32} {A : Nat → Nat → Int32} {g : Nat → Option Nat} (hK : K + 30500 < 16000000) (hD : D.length ≤ 60) (h5 : I 5 = nI D.length) (hE : ∀ i, i < D.length → CE A g i (D.getD i (0, 0, 0))) : ∀ (N : Nat) (i : Nat) (f : HT) (J : Nat → Int32) (B : Nat → Nat → Int32) (W : Nat → Nat), (D.length - i = N) → (i ≤ D.length) → (f x = gC x sv e1 e2) → (sAt f (x + 1) J B) → (SV J B W) → (VB (K + 500 * i) W) → (pAt f (x + 106) I A g) → (rnL (D.drop i) i W = R) → (∀ a, (a < x + 1 ∨ x + 10 ≤ a) → f a = H a) → AW l G MX10_firstFailure 6 360 0 0 (FF9 H x R n) n 0 0 2 [(1, .int (nI i)), (0, .ref x)] [] (f) n := by
  intro N
  induction N using Nat.strongRecOn with
  | ind N ih =>
    intro i f J B W hNN hi h0 hst hS hB hpp hR hF
    refine aw_iload_n dX10_firstFailure_2 rfl rfl ?_
    refine aw_aload_n dX10_firstFailure_3 rfl rfl ?_
    refine aw_get (v := .ref (x + 106)) fl_X10_46 (h0) rfl dX10_firstFailure_4 ?_
    have hq_7 := p_commands (l := l) (G := G) (n := n) (f := f) (o := x + 106) (I := I) (A := A) (g := g) 
    rw [hpp.self] at hq_7
    refine aw_cI (as := []) (rest := [Value.int (nI i)]) (MV.c mV_X5_commands) hq_7 ml_X10_342 (RC.w hpp.obj rfl) dX10_firstFailure_7 rfl rfl (by decide) (Nat.le_of_ble_eq_true rfl) (by decide) ?_
    rw [h5]
    refine aw_icmp_ge_n (by omega) (by omega) (tgt := 52) dX10_firstFailure_10 (by decide) (fun c_1 => ?_) (fun c_1 => ?_)
    · refine aw_iconst (v := -1) dX10_firstFailure_52 (by decide) ?_
      have ei : i = D.length := by omega
      have hR2 : R = (0, i, W) := by rw [← hR, ei, List.drop_length]; rfl
      exact aw_iret rfl (by decide) (by decide) dX10_firstFailure_53 ⟨by rw [hR2]; rfl, rfl, hF, J, B, hst, fun _ => by rw [hR2]; exact hS⟩
    · refine aw_aload_n dX10_firstFailure_13 rfl rfl ?_
      refine aw_aload_n dX10_firstFailure_14 rfl rfl ?_
      refine aw_get (v := .ref (x + 106)) fl_X10_46 (h0) rfl dX10_firstFailure_15 ?_
      refine aw_iload_n dX10_firstFailure_18 rfl rfl ?_
      have hce := hE i (by omega)
      have hq_19 := p_word (l := l) (G := G) (n := n) (f := f) (o := x + 106) (I := I) (A := A) (g := g) (i := i) (v := (wcE (D.getD i (0, 0, 0))).1 + 1) (by omega) hce.1
      rw [hpp.self] at hq_19
      refine aw_cR (as := [Value.int (nI i)]) (rest := [Value.ref x]) (MV.c mV_X5_wordAt) hq_19 ml_X10_397 (RC.w hpp.obj rfl) dX10_firstFailure_19 rfl rfl (by decide) (Nat.le_of_ble_eq_true rfl) (by decide) ?_
      refine aw_aload_n dX10_firstFailure_22 rfl rfl ?_
      refine aw_get (v := .ref (x + 106)) fl_X10_46 (h0) rfl dX10_firstFailure_23 ?_
      refine aw_iload_n dX10_firstFailure_26 rfl rfl ?_
      have hq_27 := p_digit (l := l) (G := G) (n := n) (f := f) (o := x + 106) (I := I) (A := A) (g := g) (i := i) (by omega)
      rw [hpp.self] at hq_27
      refine aw_cI (as := [Value.int (nI i)]) (rest := [Value.ref ((wcE (D.getD i (0, 0, 0))).1 + 1), Value.ref x]) (MV.c mV_X5_digitAt) hq_27 ml_X10_401 (RC.w hpp.obj rfl) dX10_firstFailure_27 rfl rfl (by decide) (Nat.le_of_ble_eq_true rfl) (by decide) ?_
      rw [hce.2.1]
      refine aw_aload_n dX10_firstFailure_30 rfl rfl ?_
      refine aw_get (v := .ref (x + 106)) fl_X10_46 (h0) rfl dX10_firstFailure_31 ?_
      refine aw_iload_n dX10_firstFailure_34 rfl rfl ?_
      have hq_35 := p_number (l := l) (G := G) (n := n) (f := f) (o := x + 106) (I := I) (A := A) (g := g) (i := i) (by omega)
      rw [hpp.self] at hq_35
      refine aw_cI (as := [Value.int (nI i)]) (rest := [Value.int (nI ((wcE (D.getD i (0, 0, 0))).2.1)), Value.ref ((wcE (D.getD i (0, 0, 0))).1 + 1), Value.ref x]) (MV.c mV_X5_numberAt) hq_35 ml_X10_404 (RC.w hpp.obj rfl) dX10_firstFailure_35 rfl rfl (by decide) (Nat.le_of_ble_eq_true rfl) (by decide) ?_
      rw [hce.2.2]
      have hq_o := g_obeyC (l := l) (G := G) (n := n) h0 hst hS hB (by omega) (D.getD i (0, 0, 0))
      refine aw_cP (as := [Value.ref ((wcE (D.getD i (0, 0, 0))).1 + 1), Value.int (nI ((wcE (D.getD i (0, 0, 0))).2.1)), Value.int (nI ((wcE (D.getD i (0, 0, 0))).2.2))]) (rest := []) (MV.c mV_X10_obey) hq_o ml_X10_407 (RC.w h0 rfl) dX10_firstFailure_38 rfl rfl (by decide) (Nat.le_of_ble_eq_true rfl) (by decide) (fun _ _ _ h => by cases h.1) (fun r9 f9 n9 _ h => ?_)
      obtain ⟨h1, h2, J', B', h3, hS'⟩ := h
      cases h1; subst h2
      have e9 : ∀ a, (a < x + 1 ∨ x + 10 ≤ a) → f9 a = f a := fun a h => by rw [h3]; exact rU_out (by omega)
      have hst9 : sAt f9 (x + 1) J' B' := by rw [h3]; exact sAt.new
      refine aw_if_ne_b (tgt := 46) dX10_firstFailure_41 (by decide) (fun c_2 => ?_) (fun c_2 => ?_)
      · refine aw_iinc_n (L' := [(1, .int (nI (i + 1))), (0, .ref x)]) 1 dX10_firstFailure_46 rfl (by decide) (by decide) rfl ?_
        refine aw_goto (tgt := 2) dX10_firstFailure_49 (by decide) ?_
        have z := of_decide_eq_true c_2
        refine aw_sub [(1, .int (nI (i + 1))), (0, .ref x)] (by simp) ?_
        have hv := vq_C hB (by omega) (D.getD i (0, 0, 0))
        exact ih _ (by omega) (i + 1) f9 J' B' (opC W (D.getD i (0, 0, 0))).2.2 rfl (by omega) ((e9 x (by omega)).trans h0) hst9 hS' (by rw [show K + 500 * (i + 1) = K + 500 * i + 500 by omega]; exact hv) (hpp.fr fun a _ _ => e9 a (by omega)) (by rw [← hR, dr_at (i := i) (by omega), rn_yes z]) (fun a h => (e9 a h).trans (hF a h))
      · refine aw_iload_n dX10_firstFailure_44 rfl rfl ?_
        have z := of_decide_eq_false c_2
        have hR2 : R = (2, i, W) := by rw [← hR, dr_at (by omega), rn_no z]
        exact aw_iret rfl (by decide) (by decide) dX10_firstFailure_45 ⟨by rw [hR2]; rfl, rfl, fun a h => (e9 a h).trans (hF a h), J', B', hst9, fun h => by rw [hR2] at h; cases h⟩
set_option maxHeartbeats 4000000 in
theorem g_ff {l : Launch} {G : GT} {n : Nat} {H : HT} {x K : Nat} {sv : Bool} {e1 e2 : Int32} {D : List (Nat × Nat × Nat)} {I : Nat → Int32} {A : Nat → Nat → Int32} {g : Nat → Option Nat} (hK : K + 30500 < 16000000) (hD : D.length ≤ 60) (h5 : I 5 = nI D.length) (hE : ∀ i, i < D.length → CE A g i (D.getD i (0, 0, 0))) {J : Nat → Int32} {B : Nat → Nat → Int32} {V : Nat → Nat} (h0 : H x = gC x sv e1 e2) (hst : sAt H (x + 1) J B) (hS : SV J B V) (hB : VB K V) (hpp : pAt H (x + 106) I A g) : AM l G yX10_firstFailure (.code yX10_firstFailure cX10_firstFailure 2 (some .int)) 6 360 0 0 [.ref x] (H) n (FF9 H x (rnL D 0 V) n) := by
  refine aw_enter (M := MX10_firstFailure) rfl rfl (by decide +kernel) rfl (Nat.le_of_ble_eq_true rfl) ?_
  show AW l G MX10_firstFailure 6 360 0 0 _ n 0 0 0 [(0, .ref x)] [] _ n
  refine aw_iconst_n 0 dX10_firstFailure_0 (by decide) ?_
  refine aw_istore_n (L' := [(1, .int (nI 0)), (0, .ref x)]) dX10_firstFailure_1 rfl (by decide) rfl ?_
  exact g_ff_loop hK hD h5 hE _ 0 H J B V rfl (Nat.zero_le _) h0 hst hS hB hpp rfl (fun _ _ => rfl)
