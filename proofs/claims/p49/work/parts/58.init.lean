theorem aw_nceq {l : Launch} {G : GT} {M : MT} {fr lo mc ms : Nat} {Post : PT} {n0 nc ns nc' ns' pc : Nat} {L : List (Nat × Value)} {S : List Value} {f : HT} {n : Nat} (h1 : nc = nc') (h2 : ns = ns') (k : AW l G M fr lo mc ms Post n0 nc' ns' pc L S f n) : AW l G M fr lo mc ms Post n0 nc ns pc L S f n := by subst h1; subst h2; exact k
theorem s_initH {l : Launch} {G : GT} {H : HT} {o : Nat} (h0 : H o = .inr (5, [.null, .null, .null, .null, .null, .null, .null, .null, .int 0, .int 0, .int 0, .int 0])) : AM l G yX8_init (.code yX8_init cX8_init 1 none) 1 60 8 52 [.ref o] H (o + 1) (rV (sU H o J00 B00) (o + 9)) := by
  have h := s_init (l := l) (G := G) (g := H) (o := o) (C0 := fun j => H (o + j)) h0
  rw [rU_self (fun _ _ => rfl)] at h
  exact AM.post h fun r f' n' hr => ⟨hr.1, hr.2.2, hr.2.1⟩
theorem rU_of {H f : HT} {o w : Nat} {C : Nat → va_E} (h : ∀ j, j < w → f (o + j) = C j) (e : ∀ a, (a < o ∨ o + w ≤ a) → f a = H a) : f = rU H o w C := by
  funext a
  by_cases z : o ≤ a ∧ a < o + w
  · have h9 := h (a - o) (by omega)
    rw [show o + (a - o) = a by omega] at h9
    rw [h9]
    unfold rU; rw [if_pos z]
  · rw [e a (by omega)]
    unfold rU; rw [if_neg z]
theorem kU_mk {H : HT} {ci N r : Nat} : va_up (va_up H (r + 1) (.inl (0, (N, .inl (fun _ => 0))))) r (.inr (ci, [.ref (r + 1)])) = kU ci N H r (fun _ => 0) := by
  refine rU_of (fun j hj => ?_) (fun a ha => ?_)
  · rcases (by omega : j = 0 ∨ j = 1) with rfl | rfl
    · exact up_self
    · exact (up_ne (by omega)).trans up_self
  · rw [up_ne (by omega), up_ne (by omega)]
theorem zv_all {fs : List Value} (h : fs.all (fun v => match v with | .ref _ => false | _ => true) = true) : ∀ v ∈ fs, vOK 0 v := fun v hv => by
  have h9 := List.all_eq_true.mp h v hv
  cases v <;> first | trivial | cases h9
theorem zv_8 : ∀ v ∈ ([.null, .null, .null, .null, .null, .null, .null, .null, .int 0, .int 0, .int 0, .int 0] : List Value), vOK 0 v := zv_all rfl
theorem nl_X2_24 : Cond.methodLinkNest RX2 24 yX8_init "PendulumGym" ∈ lw_nest := by simp [lw_nest]
theorem nl_X10_9 : Cond.methodLinkNest RX10 9 yX8_init "PendulumGym" ∈ lw_nest := by simp [lw_nest]
theorem nl_X10_31 : Cond.methodLinkNest RX10 31 yX1_init "PendulumGym" ∈ lw_nest := by simp [lw_nest]
theorem nl_X10_38 : Cond.methodLinkNest RX10 38 yX7_init "PendulumGym" ∈ lw_nest := by simp [lw_nest]
theorem nl_X10_45 : Cond.methodLinkNest RX10 45 yX5_init "PendulumGym" ∈ lw_nest := by simp [lw_nest]
def PG0 (H : HT) (o : Nat) : HT := pU H o (fun _ => 0) (fun _ _ => 0) (fun _ => none)
abbrev MX1_init : MT := (RX1, cX1_init, 1, none, [], "<init>")
set_option maxHeartbeats 4000000 in
theorem f_init {l : Launch} {G : GT} {H : HT} {r : Nat} (h0 : H r = .inr (1, [.null])) : AM l G yX1_init (.code yX1_init cX1_init 1 none) 1 60 1 61 [.ref r] (H) (r + 1) (rV (kU 1 61 H r (fun _ => 0)) (r + 2)) := by
  refine aw_enter (M := MX1_init) rfl rfl (by decide +kernel) rfl (Nat.le_of_ble_eq_true rfl) ?_
  show AW l G MX1_init 1 60 1 61 _ (r + 1) 0 0 0 [(0, .ref r)] [] _ (r + 1)
  refine aw_aload_n dX1_init_0 rfl rfl ?_
  refine aw_objInit ml_X1_3 (by decide) (by decide) dX1_init_1 ?_
  refine aw_aload_n dX1_init_4 rfl rfl ?_
  refine aw_bipush_n 61 dX1_init_5 (by decide) ?_
  refine aw_newa_int (N := 61) (by decide) (nIc (by decide)) (by decide) (by decide) (by decide) dX1_init_7 ?_
  refine aw_putF ff_X1_9 rfl ((up_ne (by omega)).trans (h0)) (fun _ => rfl) (fun _ => rfl) (Nat.le_of_ble_eq_true rfl) dX1_init_9 ?_
  exact aw_vret rfl (by decide) (by decide) dX1_init_12 (rV_of kU_mk)
abbrev MX7_init : MT := (RX7, cX7_init, 1, none, [], "<init>")
set_option maxHeartbeats 4000000 in
theorem r_init {l : Launch} {G : GT} {H : HT} {r : Nat} (h0 : H r = .inr (4, [.null])) : AM l G yX7_init (.code yX7_init cX7_init 1 none) 1 60 1 256 [.ref r] (H) (r + 1) (rV (kU 4 256 H r (fun _ => 0)) (r + 2)) := by
  refine aw_enter (M := MX7_init) rfl rfl (by decide +kernel) rfl (Nat.le_of_ble_eq_true rfl) ?_
  show AW l G MX7_init 1 60 1 256 _ (r + 1) 0 0 0 [(0, .ref r)] [] _ (r + 1)
  refine aw_aload_n dX7_init_0 rfl rfl ?_
  refine aw_objInit ml_X7_3 (by decide) (by decide) dX7_init_1 ?_
  refine aw_aload_n dX7_init_4 rfl rfl ?_
  refine aw_sipush_n 256 dX7_init_5 (by decide) ?_
  refine aw_newa_int (N := 256) (by decide) (nIc (by decide)) (by decide) (by decide) (by decide) dX7_init_8 ?_
  refine aw_putF ff_X7_9 rfl ((up_ne (by omega)).trans (h0)) (fun _ => rfl) (fun _ => rfl) (Nat.le_of_ble_eq_true rfl) dX7_init_10 ?_
  exact aw_vret rfl (by decide) (by decide) dX7_init_13 (rV_of kU_mk)
abbrev MX5_init : MT := (RX5, cX5_init, 1, none, [], "<init>")
set_option maxHeartbeats 4000000 in
theorem p_init {l : Launch} {G : GT} {H : HT} {o : Nat} (h0 : H o = .inr (3, [.null, .null, .null, .null, .int 0, .int 0, .int 0])) : AM l G yX5_init (.code yX5_init cX5_init 1 none) 1 60 4 240 [.ref o] (H) (o + 1) (rV (PG0 H o) (o + 5)) := by
  refine aw_enter (M := MX5_init) rfl rfl (by decide +kernel) rfl (Nat.le_of_ble_eq_true rfl) ?_
  show AW l G MX5_init 1 60 4 240 _ (o + 1) 0 0 0 [(0, .ref o)] [] _ (o + 1)
  refine aw_aload_n dX5_init_0 rfl rfl ?_
  refine aw_objInit ml_X5_3 (by decide) (by decide) dX5_init_1 ?_
  refine aw_aload_n dX5_init_4 rfl rfl ?_
  refine aw_bipush_n 60 dX5_init_5 (by decide) ?_
  refine aw_newa_char (N := 60) (by decide) (nIc (by decide)) (by decide) (by decide) (by decide) dX5_init_7 ?_
  refine aw_putF ff_X5_9 rfl ((up_ne (by omega)).trans (h0)) (fun _ => rfl) (fun _ => rfl) (Nat.le_of_ble_eq_true rfl) dX5_init_9 ?_
  refine aw_aload_n dX5_init_12 rfl rfl ?_
  refine aw_bipush_n 60 dX5_init_13 (by decide) ?_
  refine aw_newaq (t := 6) (N := 60) RX9 cl_X5_15 (fun _ h => h.2) rfl (by decide) (nIc (by decide)) (by decide) (by decide) (by decide) dX5_init_15 ?_
  refine aw_putF ff_X5_17 rfl ((up_ne (by omega)).trans (up_self)) (fun _ => rfl) (fun _ => rfl) (Nat.le_of_ble_eq_true rfl) dX5_init_18 ?_
  refine aw_aload_n dX5_init_21 rfl rfl ?_
  refine aw_bipush_n 60 dX5_init_22 (by decide) ?_
  refine aw_newa_int (N := 60) (by decide) (nIc (by decide)) (by decide) (by decide) (by decide) dX5_init_24 ?_
  refine aw_putF ff_X5_21 rfl ((up_ne (by omega)).trans (up_self)) (fun _ => rfl) (fun _ => rfl) (Nat.le_of_ble_eq_true rfl) dX5_init_26 ?_
  refine aw_aload_n dX5_init_29 rfl rfl ?_
  refine aw_bipush_n 60 dX5_init_30 (by decide) ?_
  refine aw_newa_int (N := 60) (by decide) (nIc (by decide)) (by decide) (by decide) (by decide) dX5_init_32 ?_
  refine aw_putF ff_X5_25 rfl ((up_ne (by omega)).trans (up_self)) (fun _ => rfl) (fun _ => rfl) (Nat.le_of_ble_eq_true rfl) dX5_init_34 ?_
  refine aw_aload_n dX5_init_37 rfl rfl ?_
  refine aw_iconst_n 0 dX5_init_38 (by decide) ?_
  refine aw_put fp_X5_28 (up_self) (fun _ => rfl) (fun _ => rfl) (Nat.le_of_ble_eq_true rfl) dX5_init_39 ?_
  refine aw_aload_n dX5_init_42 rfl rfl ?_
  refine aw_iconst_n 0 dX5_init_43 (by decide) ?_
  refine aw_put fp_X5_32 (up_self) (fun _ => rfl) (fun _ => rfl) (Nat.le_of_ble_eq_true rfl) dX5_init_44 ?_
  refine aw_aload_n dX5_init_47 rfl rfl ?_
  refine aw_iconst_n 0 dX5_init_48 (by decide) ?_
  refine aw_put fp_X5_35 (up_self) (fun _ => rfl) (fun _ => rfl) (Nat.le_of_ble_eq_true rfl) dX5_init_49 ?_
  refine aw_vret rfl (by decide) (by decide) dX5_init_52 (rV_of ?_)
  refine rU_of (fun j hj => ?_) (fun a ha => ?_)
  · rcases (by omega : j = 0 ∨ j = 1 ∨ j = 2 ∨ j = 3 ∨ j = 4) with rfl | rfl | rfl | rfl | rfl <;> simp [va_up, pC, pFs, nI_0]
  · have h9 : a ≠ o ∧ a ≠ o + 1 ∧ a ≠ o + 2 ∧ a ≠ o + 3 ∧ a ≠ o + 4 := by omega
    simp [va_up, h9.1, h9.2.1, h9.2.2.1, h9.2.2.2.1, h9.2.2.2.2]
abbrev MX2_init : MT := (RX2, cX2_init, 2, none, [], "<init>")
/-- a new history: nothing kept, eight states -/
def HI9 (H : HT) (h : Nat) : PT := fun r f' n' => r = .inl none ∧ n' = h + 74 ∧ (∀ Hs, hAt f' h 0 Hs) ∧ ∀ a, a < h → f' a = H a
set_option maxHeartbeats 4000000 in
theorem h_init_loop {l : Launch} {G : GT} {H : HT} {h : Nat} : ∀ (N i : Nat) (f : HT) (g : Nat → Option Nat), (8 - i = N) → (i ≤ 8) → (f h = hcell h 0 0) → (f (h + 1) = hring g) → (∀ j, j < i → g j = some (h + 2 + 9 * j)) → (∀ j, j < i → sAt f (h + 2 + 9 * j) J00 B00) → (∀ a, a < h → f a = H a) → AW l G MX2_init 2 120 73 520 (HI9 H h) (h + 1) (1 + 9 * i) (8 + 64 * i) 25 [(1, .int (nI i)), (0, .ref h)] [] f (h + 2 + 9 * i) := by
  intro N
  induction N with
  | zero =>
    intro i f g hN hi h0 h1 hg hs hF
    have e : i = 8 := by omega
    subst e
    refine aw_iload_n dX2_init_25 rfl rfl ?_
    refine aw_aload_n dX2_init_26 rfl rfl ?_
    refine aw_get (v := .ref (h + 1)) fl_X2_11 (h0) rfl dX2_init_27 ?_
    refine aw_alen (N := 0) (x := nilc) (ty := .object RX8) (v := nI 8) (h1) rfl rfl dX2_init_30 ?_
    refine aw_icmp_ge_n (by omega) (by omega) (tgt := 53) dX2_init_31 (by decide) (fun c => ?_) (fun c => by exfalso; omega)
    exact aw_vret rfl (by decide) (by decide) dX2_init_53 ⟨rfl, rfl, fun Hs => ⟨0, g, by decide, by decide, h0, h1, hg, fun j hj => ⟨_, _, hs j hj⟩, fun j hj => absurd hj (Nat.not_lt_zero _)⟩, hF⟩
  | succ N ih =>
    intro i f g hN hi h0 h1 hg hs hF
    refine aw_iload_n dX2_init_25 rfl rfl ?_
    refine aw_aload_n dX2_init_26 rfl rfl ?_
    refine aw_get (v := .ref (h + 1)) fl_X2_11 (h0) rfl dX2_init_27 ?_
    refine aw_alen (N := 0) (x := nilc) (ty := .object RX8) (v := nI 8) (h1) rfl rfl dX2_init_30 ?_
    refine aw_icmp_ge_n (by omega) (by omega) (tgt := 53) dX2_init_31 (by decide) (fun c => by exfalso; omega) (fun c => ?_)
    refine aw_aload_n dX2_init_34 rfl rfl ?_
    refine aw_get (v := .ref (h + 1)) fl_X2_11 (h0) rfl dX2_init_35 ?_
    refine aw_iload_n dX2_init_38 rfl rfl ?_
    refine aw_new fn_X2_9 zv_8 (by omega) (by show 8 + 64 * i + 12 ≤ 520; omega) dX2_init_39 ?_
    refine aw_dup dX2_init_42 rfl ?_
    refine aw_nV (as := []) (rest := [.ref (h + 2 + 9 * i), .int (nI i), .ref (h + 1)]) mI_X8_init (s_initH up_self) nl_X2_24 dX2_init_43 rfl rfl (by decide) (Nat.le_of_ble_eq_true rfl) ⟨by omega, by show 8 + 64 * i + 12 + 52 ≤ 520; omega⟩ ?_
    refine aw_aast (vs := sFs (h + 2 + 9 * i) J00) ((rU_out (by omega)).trans ((up_ne (by omega)).trans h1)) sU_0 (vp_in_nI (by omega) (by decide)) dX2_init_46 ?_
    refine aw_iinc_n (L' := [(1, .int (nI (i + 1))), (0, .ref h)]) 1 dX2_init_47 rfl (by decide) (by decide) rfl ?_
    refine aw_goto (tgt := 25) dX2_init_50 (by decide) ?_
    refine aw_nceq (nc' := 1 + 9 * (i + 1)) (ns' := 8 + 64 * (i + 1)) (by omega) (by show 8 + 64 * i + 12 + 52 = _; omega) ?_
    rw [nIc (by omega), show h + 2 + 9 * i + 9 = h + 2 + 9 * (i + 1) by omega]
    refine ih (i + 1) _ (va_up g i (some (h + 2 + 9 * i))) (by omega) (by omega) ((up_ne (by omega)).trans ((rU_out (by omega)).trans ((up_ne (by omega)).trans h0))) up_self (fun j hj => ?_) (fun j hj => ?_) (fun a ha => ?_)
    · by_cases z : j = i
      · rw [z]; exact up_self
      · rw [up_ne z]; exact hg j (by omega)
    · by_cases z : j = i
      · rw [z]; exact sAt.new.up (by omega)
      · exact (((hs j (by omega)).up (by omega)).out (by omega)).up (by omega)
    · exact (up_ne (by omega)).trans ((rU_out (by omega)).trans ((up_ne (by omega)).trans (hF a ha)))
set_option maxHeartbeats 4000000 in
theorem h_init {l : Launch} {G : GT} {H : HT} {h : Nat} (h0 : H h = .inr (2, [.null, .int 0, .int 0])) : AM l G yX2_init (.code yX2_init cX2_init 2 none) 2 120 73 520 [.ref h] (H) (h + 1) (HI9 H h) := by
  refine aw_enter (M := MX2_init) rfl rfl (by decide +kernel) rfl (Nat.le_of_ble_eq_true rfl) ?_
  show AW l G MX2_init 2 120 73 520 _ (h + 1) 0 0 0 [(0, .ref h)] [] _ (h + 1)
  refine aw_aload_n dX2_init_0 rfl rfl ?_
  refine aw_objInit ml_X2_3 (by decide) (by decide) dX2_init_1 ?_
  refine aw_aload_n dX2_init_4 rfl rfl ?_
  refine aw_bipush_n 8 dX2_init_5 (by decide) ?_
  refine aw_newaq (t := 5) (N := 8) RX8 cl_X2_9 (fun _ h => h.1) rfl (by decide) (nIc (by decide)) (by decide) (by decide) (by decide) dX2_init_7 ?_
  refine aw_putF ff_X2_11 rfl ((up_ne (by omega)).trans (h0)) (fun _ => rfl) (fun _ => rfl) (Nat.le_of_ble_eq_true rfl) dX2_init_10 ?_
  refine aw_aload_n dX2_init_13 rfl rfl ?_
  refine aw_iconst_n 0 dX2_init_14 (by decide) ?_
  refine aw_put fp_X2_17 (up_self) (fun _ => rfl) (fun _ => rfl) (Nat.le_of_ble_eq_true rfl) dX2_init_15 ?_
  refine aw_aload_n dX2_init_18 rfl rfl ?_
  refine aw_iconst_n 0 dX2_init_19 (by decide) ?_
  refine aw_put fp_X2_21 (up_self) (fun _ => rfl) (fun _ => rfl) (Nat.le_of_ble_eq_true rfl) dX2_init_20 ?_
  refine aw_iconst_n 0 dX2_init_23 (by decide) ?_
  refine aw_istore_n (L' := [(1, .int (nI 0)), (0, .ref h)]) dX2_init_24 rfl (by decide) rfl ?_
  refine h_init_loop 8 0 _ (fun _ => none) rfl (by decide) up_self ((up_ne (by omega)).trans ((up_ne (by omega)).trans ((up_ne (by omega)).trans up_self))) (fun j hj => absurd hj (Nat.not_lt_zero _)) (fun j hj => absurd hj (Nat.not_lt_zero _)) (fun a ha => ?_)
  rw [up_ne (by omega), up_ne (by omega), up_ne (by omega), up_ne (by omega)]
