def fmI (x y : Int32) : Int32 := if 0 ≤ x ^^^ y then x - x / y * y else if x - x / y * y = 0 then x - x / y * y else x - x / y * y + y
/-- does d divide x -/
def dvI (d : Nat) (x : Int32) : Bool := decide (d ≠ 0 ∧ x - x / nI d * nI d = 0)
def rtF : Nat → Nat → Nat → Nat → Nat
  | 0, _, _, r => r
  | u + 1, sq, bt, r => if bt = 0 then r else rtF u sq (bt / 2 ^ 1) (if (r + bt) * (r + bt) ≤ sq then r + bt else r)
theorem rt_per {L : Nat} (h : L ≤ 99) : rtF 6 (36 * L) 32 0 = perN L := by
  have key : ∀ L, L < 100 → rtF 6 (36 * L) 32 0 = perN L := by decide +kernel
  exact key L (by omega)
theorem rtF_0 {u sq r : Nat} : rtF u sq 0 r = r := by cases u <;> rfl
theorem rtF_s {u sq bt r : Nat} (h : 0 < bt) : rtF (u + 1) sq bt r = rtF u sq (bt / 2 ^ 1) (if (r + bt) * (r + bt) ≤ sq then r + bt else r) := by
  show (if bt = 0 then r else _) = _
  rw [if_neg (by omega)]
def nwF : Nat → Nat → Nat → Nat
  | 0, _, e => e
  | n + 1, sq, e => if e = 0 then e else if e ≤ (e + sq / e) / 2 then e else nwF n sq ((e + sq / e) / 2)
theorem nw_per {L : Nat} (h1 : 1 ≤ L) (h : L ≤ 99) : nwF 100 (36 * L) (36 * L) = perN L := by
  have key : ∀ L, L < 100 → 1 ≤ L → nwF 100 (36 * L) (36 * L) = perN L := by decide +kernel
  exact key L (by omega) h1
theorem nwF_0 {n sq : Nat} : nwF n sq 0 = 0 := by cases n <;> rfl
theorem nwF_y {n sq e : Nat} (h : e ≤ (e + sq / e) / 2) : nwF (n + 1) sq e = e := by
  show (if e = 0 then e else _) = _
  by_cases z : e = 0
  · rw [if_pos z]
  · rw [if_neg z, if_pos h]
theorem nwF_n {n sq e : Nat} (h0 : e ≠ 0) (h : ¬ e ≤ (e + sq / e) / 2) : nwF (n + 1) sq e = nwF n sq ((e + sq / e) / 2) := by
  show (if e = 0 then e else _) = _
  rw [if_neg h0, if_neg h]
def ivF : Nat → Nat → Nat → Int32 → Int32 → Int32
  | 0, _, _, x, _ => x
  | n + 1, g, s, x, y => if s = 0 then x else ivF n s (g - g / s * s) y (x - nI (g / s) * y)
theorem ivF_0 {n g : Nat} {x y : Int32} : ivF n g 0 x y = x := by cases n <;> rfl
theorem ivF_s {n g s : Nat} {x y : Int32} (h : s ≠ 0) : ivF (n + 1) g s x y = ivF n s (g - g / s * s) y (x - nI (g / s) * y) := by
  show (if s = 0 then x else _) = _
  rw [if_neg h]
theorem mod_sub (g s : Nat) : g - g / s * s = g % s := by
  have := Nat.div_add_mod g s
  rw [Nat.mul_comm] at this
  omega
abbrev MJ9_floorMod_7cf53 : MT := (RJ9, cJ9_floorMod_7cf53, 3, (some .int), [], "floorMod")
set_option maxHeartbeats 4000000 in
theorem n_fmod {l : Launch} {G : GT} {n : Nat} {f : HT} {x y : Int32} (hy : ¬ y = 0) : AM l G yJ9_floorMod_7cf53 (.code yJ9_floorMod_7cf53 cJ9_floorMod_7cf53 3 (some .int)) 0 0 0 0 [.int x, .int y] (f) n (rI (fmI x y) f n) := by
  refine aw_enterF (M := MJ9_floorMod_7cf53) rfl rfl (by decide +kernel) rfl (Nat.le_of_ble_eq_true rfl) ?_
  show AW l G MJ9_floorMod_7cf53 0 0 0 0 _ n 0 0 0 [(0, .int x), (1, .int y)] [] _ n
  refine aw_iload_n dJ9_floorMod_7cf53_0 rfl rfl ?_
  refine aw_iload_n dJ9_floorMod_7cf53_1 rfl rfl ?_
  refine aw_irem hy dJ9_floorMod_7cf53_2 ?_
  refine aw_istore_n (L' := [(2, .int (x - x / y * y)), (0, .int x), (1, .int y)]) dJ9_floorMod_7cf53_3 rfl (by decide) rfl ?_
  refine aw_iload_n dJ9_floorMod_7cf53_4 rfl rfl ?_
  refine aw_iload_n dJ9_floorMod_7cf53_5 rfl rfl ?_
  refine aw_ixor dJ9_floorMod_7cf53_6 ?_
  refine aw_if_ge (tgt := 18) dJ9_floorMod_7cf53_7 (by decide) (fun c_1 => ?_) (fun c_1 => ?_)
  · refine aw_iload_n dJ9_floorMod_7cf53_18 rfl rfl ?_
    have e : fmI x y = (x - x / y * y) := by unfold fmI; rw [if_pos c_1]
    exact aw_iret rfl (by decide) (by decide) dJ9_floorMod_7cf53_19 (rI_of (by rw [e]))
  · refine aw_iload_n dJ9_floorMod_7cf53_10 rfl rfl ?_
    refine aw_if_eq (tgt := 18) dJ9_floorMod_7cf53_11 (by decide) (fun c_2 => ?_) (fun c_2 => ?_)
    · refine aw_iload_n dJ9_floorMod_7cf53_18 rfl rfl ?_
      have e : fmI x y = (x - x / y * y) := by unfold fmI; rw [if_neg c_1, if_pos c_2]
      exact aw_iret rfl (by decide) (by decide) dJ9_floorMod_7cf53_19 (rI_of (by rw [e]))
    · refine aw_iload_n dJ9_floorMod_7cf53_14 rfl rfl ?_
      refine aw_iload_n dJ9_floorMod_7cf53_15 rfl rfl ?_
      refine aw_iadd dJ9_floorMod_7cf53_16 ?_
      have e : fmI x y = ((x - x / y * y) + y) := by unfold fmI; rw [if_neg c_1, if_neg c_2]
      exact aw_iret rfl (by decide) (by decide) dJ9_floorMod_7cf53_17 (rI_of (by rw [e]))
abbrev MX4_quotient : MT := (RX4, cX4_quotient, 2, (some .int), [], "quotient")
set_option maxHeartbeats 4000000 in
theorem n_quot {l : Launch} {G : GT} {n : Nat} {f : HT} {a c : Nat} (ha : a < 2 ^ 31) (hc : c < 2 ^ 31) : AM l G yX4_quotient (.code yX4_quotient cX4_quotient 2 (some .int)) 0 0 0 0 [.int (nI a), .int (nI c)] (f) n (rI (nI (a / c)) f n) := by
  refine aw_enter (M := MX4_quotient) rfl rfl (by decide +kernel) rfl (Nat.le_of_ble_eq_true rfl) ?_
  show AW l G MX4_quotient 0 0 0 0 _ n 0 0 0 [(0, .int (nI a)), (1, .int (nI c))] [] _ n
  refine aw_iload_n dX4_quotient_0 rfl rfl ?_
  refine aw_if_ne_n (by omega) (tgt := 8) dX4_quotient_1 (by decide) (fun c_1 => ?_) (fun c_1 => ?_)
  · refine aw_iload_n dX4_quotient_8 rfl rfl ?_
    refine aw_iload_n dX4_quotient_9 rfl rfl ?_
    refine aw_idiv_n (by omega) (by omega) (by omega) dX4_quotient_10 ?_
    exact aw_iret rfl (by decide) (by decide) dX4_quotient_11 (rI_of (by rfl))
  · refine aw_iconst_n 0 dX4_quotient_4 (by decide) ?_
    refine aw_goto (tgt := 11) dX4_quotient_5 (by decide) ?_
    exact aw_iret rfl (by decide) (by decide) dX4_quotient_11 (rI_of (by rw [c_1, Nat.div_zero]))
set_option maxHeartbeats 4000000 in
theorem n_quotI {l : Launch} {G : GT} {n : Nat} {f : HT} {x : Int32} {c : Nat} (hc0 : 0 < c) (hc : c < 2 ^ 31) : AM l G yX4_quotient (.code yX4_quotient cX4_quotient 2 (some .int)) 0 0 0 0 [.int x, .int (nI c)] (f) n (rI (x / nI c) f n) := by
  refine aw_enter (M := MX4_quotient) rfl rfl (by decide +kernel) rfl (Nat.le_of_ble_eq_true rfl) ?_
  show AW l G MX4_quotient 0 0 0 0 _ n 0 0 0 [(0, .int x), (1, .int (nI c))] [] _ n
  refine aw_iload_n dX4_quotient_0 rfl rfl ?_
  refine aw_if_ne_n (by omega) (tgt := 8) dX4_quotient_1 (by decide) (fun c_1 => ?_) (fun c_1 => by exfalso; omega)
  refine aw_iload_n dX4_quotient_8 rfl rfl ?_
  refine aw_iload_n dX4_quotient_9 rfl rfl ?_
  refine aw_idiv (fun z => by have := (nI_eq0 hc).mp z; omega) dX4_quotient_10 ?_
  exact aw_iret rfl (by decide) (by decide) dX4_quotient_11 (rI_of (by rfl))
abbrev MX4_remainder : MT := (RX4, cX4_remainder, 2, (some .int), [], "remainder")
set_option maxHeartbeats 4000000 in
theorem n_rem {l : Launch} {G : GT} {n : Nat} {f : HT} {a c : Nat} (ha : a < 2 ^ 31) (hc0 : 0 < c) (hc : c < 2 ^ 31) : AM l G yX4_remainder (.code yX4_remainder cX4_remainder 2 (some .int)) 0 0 0 0 [.int (nI a), .int (nI c)] (f) n (rI (nI (a % c)) f n) := by
  refine aw_enter (M := MX4_remainder) rfl rfl (by decide +kernel) rfl (Nat.le_of_ble_eq_true rfl) ?_
  show AW l G MX4_remainder 0 0 0 0 _ n 0 0 0 [(0, .int (nI a)), (1, .int (nI c))] [] _ n
  refine aw_iload_n dX4_remainder_0 rfl rfl ?_
  refine aw_if_ne_n (by omega) (tgt := 8) dX4_remainder_1 (by decide) (fun c_1 => ?_) (fun c_1 => by exfalso; omega)
  refine aw_iload_n dX4_remainder_8 rfl rfl ?_
  refine aw_iload_n dX4_remainder_9 rfl rfl ?_
  refine aw_irem_n (by omega) (by omega) (by omega) dX4_remainder_10 ?_
  have hm_2 : a % c < c := Nat.mod_lt _ (by omega)
  exact aw_iret rfl (by decide) (by decide) dX4_remainder_11 (rI_of (by rfl))
abbrev MX4_divides : MT := (RX4, cX4_divides, 2, (some .boolean), [], "divides")
set_option maxHeartbeats 4000000 in
theorem n_div {l : Launch} {G : GT} {n : Nat} {f : HT} {x : Int32} {d : Nat} (hd : d < 2 ^ 31) : AM l G yX4_divides (.code yX4_divides cX4_divides 2 (some .boolean)) 0 0 0 0 [.int (nI d), .int x] (f) n (rI (bI (dvI d x)) f n) := by
  refine aw_enter (M := MX4_divides) rfl rfl (by decide +kernel) rfl (Nat.le_of_ble_eq_true rfl) ?_
  show AW l G MX4_divides 0 0 0 0 _ n 0 0 0 [(0, .int (nI d)), (1, .int x)] [] _ n
  refine aw_iload_n dX4_divides_0 rfl rfl ?_
  refine aw_if_eq_n (by omega) (tgt := 14) dX4_divides_1 (by decide) (fun c_1 => ?_) (fun c_1 => ?_)
  · refine aw_iconst_n 0 dX4_divides_14 (by decide) ?_
    have e : dvI d x = false := by unfold dvI; exact decide_eq_false (fun z => z.1 c_1)
    exact aw_zret rfl rfl (by decide) (by decide) dX4_divides_15 (rI_of (by rw [e]; rfl))
  · refine aw_iload_n dX4_divides_4 rfl rfl ?_
    refine aw_iload_n dX4_divides_5 rfl rfl ?_
    refine aw_irem (fun z => c_1 ((nI_eq0 hd).mp z)) dX4_divides_6 ?_
    refine aw_if_ne (tgt := 14) dX4_divides_7 (by decide) (fun c_2 => ?_) (fun c_2 => ?_)
    · refine aw_iconst_n 0 dX4_divides_14 (by decide) ?_
      have e : dvI d x = false := by unfold dvI; exact decide_eq_false (fun z => c_2 z.2)
      exact aw_zret rfl rfl (by decide) (by decide) dX4_divides_15 (rI_of (by rw [e]; rfl))
    · refine aw_iconst_n 1 dX4_divides_10 (by decide) ?_
      refine aw_goto (tgt := 15) dX4_divides_11 (by decide) ?_
      have e : dvI d x = true := by unfold dvI; exact decide_eq_true ⟨c_1, c_2⟩
      exact aw_zret rfl rfl (by decide) (by decide) dX4_divides_15 (rI_of (by rw [e]; rfl))
abbrev MX4_rootByBits : MT := (RX4, cX4_rootByBits, 4, (some .int), [], "rootByBits")
set_option maxHeartbeats 4000000 in
theorem n_root_loop {l : Launch} {G : GT} {n : Nat} {f : HT} {sq : Nat} (hsq : sq < 2 ^ 30) : ∀ (N : Nat) (u bt r : Nat), (u = N) → (bt < 2 ^ u) → (r + 2 * bt ≤ 64) → (rtF u sq bt r = rtF 6 sq 32 0) → AW l G MX4_rootByBits 0 0 0 0 (rI (nI (rtF 6 sq 32 0)) f n) n 0 0 5 [(2, .int (nI bt)), (1, .int (nI r)), (0, .int (nI sq))] [] (f) n := by
  intro N
  induction N using Nat.strongRecOn with
  | ind N ih =>
    intro u bt r hN hb hr he
    refine aw_iload_n dX4_rootByBits_5 rfl rfl ?_
    refine aw_if_le_n (by omega) (tgt := 29) dX4_rootByBits_6 (by decide) (fun c_1 => ?_) (fun c_1 => ?_)
    · have c_9 := c_1
      refine aw_iload_n dX4_rootByBits_29 rfl rfl ?_
      exact aw_iret rfl (by decide) (by decide) dX4_rootByBits_30 (rI_of (by rw [← he, c_1, rtF_0]))
    · refine aw_iload_n dX4_rootByBits_9 rfl rfl ?_
      refine aw_iload_n dX4_rootByBits_10 rfl rfl ?_
      refine aw_iadd_n dX4_rootByBits_11 ?_
      refine aw_istore_n (L' := [(3, .int (nI (r + bt))), (2, .int (nI bt)), (1, .int (nI r)), (0, .int (nI sq))]) dX4_rootByBits_12 rfl (by decide) rfl ?_
      have hmx : (r + bt) * (r + bt) ≤ 64 * 64 := Nat.mul_le_mul (by omega) (by omega)
      refine aw_iload_n dX4_rootByBits_13 rfl rfl ?_
      refine aw_iload_n dX4_rootByBits_14 rfl rfl ?_
      refine aw_imul_n dX4_rootByBits_15 ?_
      refine aw_iload_n dX4_rootByBits_16 rfl rfl ?_
      refine aw_icmp_gt_n (by omega) (by omega) (tgt := 22) dX4_rootByBits_17 (by decide) (fun c_2 => ?_) (fun c_2 => ?_)
      · have hm9 := c_2
        refine aw_iload_n dX4_rootByBits_22 rfl rfl ?_
        refine aw_iconst_n 1 dX4_rootByBits_23 (by decide) ?_
        refine aw_shr (a := bt) (k := 1) (by omega) (by omega) dX4_rootByBits_24 ?_
        refine aw_istore_n (L' := [(2, .int (nI (bt / 2 ^ 1))), (3, .int (nI (r + bt))), (1, .int (nI r)), (0, .int (nI sq))]) dX4_rootByBits_25 rfl (by decide) rfl ?_
        refine aw_goto (tgt := 5) dX4_rootByBits_26 (by decide) ?_
        have hu0 : u ≠ 0 := fun z => by subst z; simp at hb; omega
        obtain ⟨v, rfl⟩ : ∃ v, u = v + 1 := ⟨u - 1, by omega⟩
        have hp2 : 2 ^ (v + 1) = 2 * 2 ^ v := by rw [Nat.pow_succ]; omega
        rw [rtF_s (by omega), if_neg (by omega)] at he
        refine aw_sub [(2, .int (nI (bt / 2 ^ 1))), (1, .int (nI r)), (0, .int (nI sq))] (by simp) ?_
        exact ih v (by omega) v _ _ rfl (by omega) (by omega) he
      · have hm9 := c_2
        refine aw_iload_n dX4_rootByBits_20 rfl rfl ?_
        refine aw_istore_n (L' := [(1, .int (nI (r + bt))), (3, .int (nI (r + bt))), (2, .int (nI bt)), (0, .int (nI sq))]) dX4_rootByBits_21 rfl (by decide) rfl ?_
        refine aw_iload_n dX4_rootByBits_22 rfl rfl ?_
        refine aw_iconst_n 1 dX4_rootByBits_23 (by decide) ?_
        refine aw_shr (a := bt) (k := 1) (by omega) (by omega) dX4_rootByBits_24 ?_
        refine aw_istore_n (L' := [(2, .int (nI (bt / 2 ^ 1))), (1, .int (nI (r + bt))), (3, .int (nI (r + bt))), (0, .int (nI sq))]) dX4_rootByBits_25 rfl (by decide) rfl ?_
        refine aw_goto (tgt := 5) dX4_rootByBits_26 (by decide) ?_
        have hu0 : u ≠ 0 := fun z => by subst z; simp at hb; omega
        obtain ⟨v, rfl⟩ : ∃ v, u = v + 1 := ⟨u - 1, by omega⟩
        have hp2 : 2 ^ (v + 1) = 2 * 2 ^ v := by rw [Nat.pow_succ]; omega
        rw [rtF_s (by omega), if_pos (by omega)] at he
        refine aw_sub [(2, .int (nI (bt / 2 ^ 1))), (1, .int (nI (r + bt))), (0, .int (nI sq))] (by simp) ?_
        exact ih v (by omega) v _ _ rfl (by omega) (by omega) he
set_option maxHeartbeats 4000000 in
theorem n_root {l : Launch} {G : GT} {n : Nat} {f : HT} {L : Nat} (hL : L ≤ 99) : AM l G yX4_rootByBits (.code yX4_rootByBits cX4_rootByBits 4 (some .int)) 0 0 0 0 [.int (nI (36 * L))] (f) n (rI (nI (perN L)) f n) := by
  refine aw_enter (M := MX4_rootByBits) rfl rfl (by decide +kernel) rfl (Nat.le_of_ble_eq_true rfl) ?_
  show AW l G MX4_rootByBits 0 0 0 0 _ n 0 0 0 [(0, .int (nI (36 * L)))] [] _ n
  refine aw_iconst_n 0 dX4_rootByBits_0 (by decide) ?_
  refine aw_istore_n (L' := [(1, .int (nI 0)), (0, .int (nI (36 * L)))]) dX4_rootByBits_1 rfl (by decide) rfl ?_
  refine aw_bipush_n 32 dX4_rootByBits_2 (by decide) ?_
  refine aw_istore_n (L' := [(2, .int (nI 32)), (1, .int (nI 0)), (0, .int (nI (36 * L)))]) dX4_rootByBits_4 rfl (by decide) rfl ?_
  have h := n_root_loop (l := l) (G := G) (n := n) (f := f) (sq := 36 * L) (by omega) _ 6 32 0 rfl (by decide) (by decide) rfl
  rw [rt_per hL] at h
  exact h
abbrev MX4_rootByEstimates : MT := (RX4, cX4_rootByEstimates, 4, (some .int), [], "rootByEstimates")
set_option maxHeartbeats 4000000 in
theorem n_est_loop {l : Launch} {G : GT} {n : Nat} {f : HT} {sq : Nat} (hsq : sq < 2 ^ 29) : ∀ (N : Nat) (k e : Nat), (100 - k = N) → (k ≤ 100) → (e < 2 ^ 29) → (nwF (100 - k) sq e = nwF 100 sq sq) → AW l G MX4_rootByEstimates 0 0 0 0 (rI (nI (nwF 100 sq sq)) f n) n 0 0 4 [(2, .int (nI k)), (1, .int (nI e)), (0, .int (nI sq))] [] (f) n := by
  intro N
  induction N using Nat.strongRecOn with
  | ind N ih =>
    intro k e hN hk hq he
    refine aw_iload_n dX4_rootByEstimates_4 rfl rfl ?_
    refine aw_bipush_n 100 dX4_rootByEstimates_5 (by decide) ?_
    refine aw_icmp_ge_n (by omega) (by omega) (tgt := 37) dX4_rootByEstimates_7 (by decide) (fun c_1 => ?_) (fun c_1 => ?_)
    · refine aw_iload_n dX4_rootByEstimates_37 rfl rfl ?_
      exact aw_iret rfl (by decide) (by decide) dX4_rootByEstimates_38 (rI_of (by rw [← he, show 100 - k = 0 by omega]; rfl))
    · refine aw_iload_n dX4_rootByEstimates_10 rfl rfl ?_
      refine aw_if_le_n (by omega) (tgt := 37) dX4_rootByEstimates_11 (by decide) (fun c_2 => ?_) (fun c_2 => ?_)
      · have e0 : e = 0 := c_2
        refine aw_iload_n dX4_rootByEstimates_37 rfl rfl ?_
        exact aw_iret rfl (by decide) (by decide) dX4_rootByEstimates_38 (rI_of (by subst e0; rw [← he, nwF_0]))
      · have hdv : sq / e ≤ sq := Nat.div_le_self _ _
        refine aw_iload_n dX4_rootByEstimates_14 rfl rfl ?_
        refine aw_iload_n dX4_rootByEstimates_15 rfl rfl ?_
        refine aw_iload_n dX4_rootByEstimates_16 rfl rfl ?_
        refine aw_idiv_n (by omega) (by omega) (by omega) dX4_rootByEstimates_17 ?_
        refine aw_iadd_n dX4_rootByEstimates_18 ?_
        refine aw_iconst_n 2 dX4_rootByEstimates_19 (by decide) ?_
        refine aw_idiv_n (by omega) (by omega) (by omega) dX4_rootByEstimates_20 ?_
        refine aw_istore_n (L' := [(3, .int (nI ((e + (sq / e)) / 2))), (2, .int (nI k)), (1, .int (nI e)), (0, .int (nI sq))]) dX4_rootByEstimates_21 rfl (by decide) rfl ?_
        refine aw_iload_n dX4_rootByEstimates_22 rfl rfl ?_
        refine aw_iload_n dX4_rootByEstimates_23 rfl rfl ?_
        refine aw_icmp_lt_n (by omega) (by omega) (tgt := 29) dX4_rootByEstimates_24 (by decide) (fun c_3 => ?_) (fun c_3 => ?_)
        · refine aw_iload_n dX4_rootByEstimates_29 rfl rfl ?_
          refine aw_istore_n (L' := [(1, .int (nI ((e + (sq / e)) / 2))), (3, .int (nI ((e + (sq / e)) / 2))), (2, .int (nI k)), (0, .int (nI sq))]) dX4_rootByEstimates_30 rfl (by decide) rfl ?_
          refine aw_iinc_n (L' := [(2, .int (nI (k + 1))), (1, .int (nI ((e + (sq / e)) / 2))), (3, .int (nI ((e + (sq / e)) / 2))), (0, .int (nI sq))]) 1 dX4_rootByEstimates_31 rfl (by decide) (by decide) rfl ?_
          refine aw_goto (tgt := 4) dX4_rootByEstimates_34 (by decide) ?_
          refine aw_sub [(2, .int (nI (k + 1))), (1, .int (nI ((e + sq / e) / 2))), (0, .int (nI sq))] (by simp) ?_
          refine ih _ (by omega) (k + 1) _ rfl (by omega) (by omega) ?_
          rw [← he, show 100 - k = (100 - (k + 1)) + 1 by omega, nwF_n (by omega) (by omega)]
        · refine aw_iload_n dX4_rootByEstimates_27 rfl rfl ?_
          exact aw_iret rfl (by decide) (by decide) dX4_rootByEstimates_28 (rI_of (by rw [← he, show 100 - k = (100 - (k + 1)) + 1 by omega, nwF_y (by omega)]))
set_option maxHeartbeats 4000000 in
theorem n_est {l : Launch} {G : GT} {n : Nat} {f : HT} {L : Nat} (h1 : 1 ≤ L) (hL : L ≤ 99) : AM l G yX4_rootByEstimates (.code yX4_rootByEstimates cX4_rootByEstimates 4 (some .int)) 0 0 0 0 [.int (nI (36 * L))] (f) n (rI (nI (perN L)) f n) := by
  refine aw_enter (M := MX4_rootByEstimates) rfl rfl (by decide +kernel) rfl (Nat.le_of_ble_eq_true rfl) ?_
  show AW l G MX4_rootByEstimates 0 0 0 0 _ n 0 0 0 [(0, .int (nI (36 * L)))] [] _ n
  refine aw_iload_n dX4_rootByEstimates_0 rfl rfl ?_
  refine aw_istore_n (L' := [(1, .int (nI (36 * L))), (0, .int (nI (36 * L)))]) dX4_rootByEstimates_1 rfl (by decide) rfl ?_
  refine aw_iconst_n 0 dX4_rootByEstimates_2 (by decide) ?_
  refine aw_istore_n (L' := [(2, .int (nI 0)), (1, .int (nI (36 * L))), (0, .int (nI (36 * L)))]) dX4_rootByEstimates_3 rfl (by decide) rfl ?_
  have h := n_est_loop (l := l) (G := G) (n := n) (f := f) (sq := 36 * L) (by omega) _ 0 (36 * L) rfl (by decide) (by omega) rfl
  rw [nw_per h1 hL] at h
  exact aw_sub [(2, .int (nI 0)), (1, .int (nI (36 * L))), (0, .int (nI (36 * L)))] (by simp) h
abbrev MX4_greatestDivisor : MT := (RX4, cX4_greatestDivisor, 6, (some .int), [], "greatestDivisor")
set_option maxHeartbeats 4000000 in
theorem n_gcd_loop {l : Launch} {G : GT} {n : Nat} {f : HT} {a c : Nat} : ∀ (N : Nat) (k g s : Nat), (100 - k = N) → (k ≤ 100) → (g < 2 ^ 30) → (k + s ≤ 100) → (Nat.gcd s g = Nat.gcd a c) → AW l G MX4_greatestDivisor 0 0 0 0 (rI (nI (Nat.gcd a c)) f n) n 0 0 7 [(4, .int (nI k)), (3, .int (nI s)), (2, .int (nI g)), (0, .int (nI a)), (1, .int (nI c))] [] (f) n := by
  intro N
  induction N using Nat.strongRecOn with
  | ind N ih =>
    intro k g s hN hk hg hs he
    refine aw_iload dX4_greatestDivisor_7 rfl ?_
    refine aw_bipush_n 100 dX4_greatestDivisor_9 (by decide) ?_
    refine aw_icmp_ge_n (by omega) (by omega) (tgt := 34) dX4_greatestDivisor_11 (by decide) (fun c_1 => ?_) (fun c_1 => ?_)
    · refine aw_iload_n dX4_greatestDivisor_34 rfl rfl ?_
      exact aw_iret rfl (by decide) (by decide) dX4_greatestDivisor_35 (rI_of (by rw [← he, show s = 0 by omega, Nat.gcd_zero_left]))
    · refine aw_iload_n dX4_greatestDivisor_14 rfl rfl ?_
      refine aw_if_eq_n (by omega) (tgt := 34) dX4_greatestDivisor_15 (by decide) (fun c_2 => ?_) (fun c_2 => ?_)
      · refine aw_iload_n dX4_greatestDivisor_34 rfl rfl ?_
        exact aw_iret rfl (by decide) (by decide) dX4_greatestDivisor_35 (rI_of (by rw [← he, show s = 0 by omega, Nat.gcd_zero_left]))
      · refine aw_iload_n dX4_greatestDivisor_18 rfl rfl ?_
        refine aw_iload_n dX4_greatestDivisor_19 rfl rfl ?_
        refine aw_irem_n (by omega) (by omega) (by omega) dX4_greatestDivisor_20 ?_
        have hm_3 : g % s < s := Nat.mod_lt _ (by omega)
        refine aw_istore (L' := [(5, .int (nI (g % s))), (4, .int (nI k)), (3, .int (nI s)), (2, .int (nI g)), (0, .int (nI a)), (1, .int (nI c))]) dX4_greatestDivisor_21 (by decide) rfl ?_
        refine aw_iload_n dX4_greatestDivisor_23 rfl rfl ?_
        refine aw_istore_n (L' := [(2, .int (nI s)), (5, .int (nI (g % s))), (4, .int (nI k)), (3, .int (nI s)), (0, .int (nI a)), (1, .int (nI c))]) dX4_greatestDivisor_24 rfl (by decide) rfl ?_
        refine aw_iload dX4_greatestDivisor_25 rfl ?_
        refine aw_istore_n (L' := [(3, .int (nI (g % s))), (2, .int (nI s)), (5, .int (nI (g % s))), (4, .int (nI k)), (0, .int (nI a)), (1, .int (nI c))]) dX4_greatestDivisor_27 rfl (by decide) rfl ?_
        refine aw_iinc_n (L' := [(4, .int (nI (k + 1))), (3, .int (nI (g % s))), (2, .int (nI s)), (5, .int (nI (g % s))), (0, .int (nI a)), (1, .int (nI c))]) 1 dX4_greatestDivisor_28 rfl (by decide) (by decide) rfl ?_
        refine aw_goto (tgt := 7) dX4_greatestDivisor_31 (by decide) ?_
        refine aw_sub [(4, .int (nI (k + 1))), (3, .int (nI (g % s))), (2, .int (nI s)), (0, .int (nI a)), (1, .int (nI c))] (by simp) ?_
        have hms := Nat.mod_lt g (show 0 < s by omega)
        refine ih _ (by omega) (k + 1) _ _ rfl (by omega) (by omega) (by omega) ?_
        rw [← he, Nat.gcd_rec s g]
set_option maxHeartbeats 4000000 in
theorem n_gcd {l : Launch} {G : GT} {n : Nat} {f : HT} {a c : Nat} (ha : a < 2 ^ 30) (hc : c ≤ 100) : AM l G yX4_greatestDivisor (.code yX4_greatestDivisor cX4_greatestDivisor 6 (some .int)) 0 0 0 0 [.int (nI a), .int (nI c)] (f) n (rI (nI (Nat.gcd a c)) f n) := by
  refine aw_enter (M := MX4_greatestDivisor) rfl rfl (by decide +kernel) rfl (Nat.le_of_ble_eq_true rfl) ?_
  show AW l G MX4_greatestDivisor 0 0 0 0 _ n 0 0 0 [(0, .int (nI a)), (1, .int (nI c))] [] _ n
  refine aw_iload_n dX4_greatestDivisor_0 rfl rfl ?_
  refine aw_istore_n (L' := [(2, .int (nI a)), (0, .int (nI a)), (1, .int (nI c))]) dX4_greatestDivisor_1 rfl (by decide) rfl ?_
  refine aw_iload_n dX4_greatestDivisor_2 rfl rfl ?_
  refine aw_istore_n (L' := [(3, .int (nI c)), (2, .int (nI a)), (0, .int (nI a)), (1, .int (nI c))]) dX4_greatestDivisor_3 rfl (by decide) rfl ?_
  refine aw_iconst_n 0 dX4_greatestDivisor_4 (by decide) ?_
  refine aw_istore (L' := [(4, .int (nI 0)), (3, .int (nI c)), (2, .int (nI a)), (0, .int (nI a)), (1, .int (nI c))]) dX4_greatestDivisor_5 (by decide) rfl ?_
  exact aw_sub [(4, .int (nI 0)), (3, .int (nI c)), (2, .int (nI a)), (0, .int (nI a)), (1, .int (nI c))] (by simp) (n_gcd_loop _ 0 a c rfl (by decide) ha (by omega) (Nat.gcd_comm c a))
abbrev MX4_leastMultiple : MT := (RX4, cX4_leastMultiple, 2, (some .int), [], "leastMultiple")
set_option maxHeartbeats 4000000 in
theorem n_lcm {l : Launch} {G : GT} {n : Nat} {f : HT} {a c : Nat} (ha : a ≤ 59) (hc : c ≤ 59) : AM l G yX4_leastMultiple (.code yX4_leastMultiple cX4_leastMultiple 2 (some .int)) 1 60 0 0 [.int (nI a), .int (nI c)] (f) n (rI (nI (cyN a c)) f n) := by
  refine aw_enter (M := MX4_leastMultiple) rfl rfl (by decide +kernel) rfl (Nat.le_of_ble_eq_true rfl) ?_
  have hgl : Nat.gcd a c ≤ 59 := by
    rcases Nat.eq_zero_or_pos a with z | z
    · subst z; rw [Nat.gcd_zero_left]; exact hc
    · exact Nat.le_trans (Nat.gcd_le_left c z) ha
  show AW l G MX4_leastMultiple 1 60 0 0 _ n 0 0 0 [(0, .int (nI a)), (1, .int (nI c))] [] _ n
  refine aw_iload_n dX4_leastMultiple_0 rfl rfl ?_
  refine aw_iload_n dX4_leastMultiple_1 rfl rfl ?_
  refine aw_iload_n dX4_leastMultiple_2 rfl rfl ?_
  refine aw_sI (as := [Value.int (nI a), Value.int (nI c)]) (rest := [Value.int (nI a)]) mS_X4_greatestDivisor (n_gcd (by omega) (by omega)) ml_X4_9 dX4_leastMultiple_3 rfl rfl (by decide) (Nat.le_of_ble_eq_true rfl) (by decide) ?_
  refine aw_sI (as := [Value.int (nI a), Value.int (nI (Nat.gcd a c))]) (rest := []) mS_X4_quotient (n_quot (by omega) (by omega)) ml_X4_15 dX4_leastMultiple_6 rfl rfl (by decide) (Nat.le_of_ble_eq_true rfl) (by decide) ?_
  refine aw_iload_n dX4_leastMultiple_9 rfl rfl ?_
  refine aw_imul_n dX4_leastMultiple_10 ?_
  exact aw_iret rfl (by decide) (by decide) dX4_leastMultiple_11 (rI_of (by rfl))
abbrev MX4_inverse : MT := (RX4, cX4_inverse, 10, (some .int), [], "inverse")
set_option maxHeartbeats 4000000 in
theorem n_inv_loop {l : Launch} {G : GT} {n : Nat} {f : HT} {a c : Nat} (hc0 : 0 < c) (hc : c < 2 ^ 30) : ∀ (N : Nat) (k g s : Nat) (x y : Int32), (100 - k = N) → (k ≤ 100) → (g < 2 ^ 30) → (s < 2 ^ 30) → (ivF (100 - k) g s x y = ivF 100 a c 1 0) → AW l G MX4_inverse 1 60 0 0 (rI (fmI (ivF 100 a c 1 0) (nI c)) f n) n 0 0 13 [(6, .int (nI k)), (5, .int y), (4, .int x), (3, .int (nI s)), (2, .int (nI g)), (1, .int (nI c))] [] (f) n := by
  intro N
  induction N using Nat.strongRecOn with
  | ind N ih =>
    intro k g s x y hN hk hg hs he
    refine aw_iload dX4_inverse_13 rfl ?_
    refine aw_bipush_n 100 dX4_inverse_15 (by decide) ?_
    refine aw_icmp_ge_n (by omega) (by omega) (tgt := 66) dX4_inverse_17 (by decide) (fun c_1 => ?_) (fun c_1 => ?_)
    · refine aw_iload_n dX4_inverse_66 rfl rfl ?_
      refine aw_if_le_n (by omega) (tgt := 79) dX4_inverse_67 (by decide) (fun c_2 => by exfalso; omega) (fun c_2 => ?_)
      refine aw_iload dX4_inverse_70 rfl ?_
      refine aw_iload_n dX4_inverse_72 rfl rfl ?_
      refine aw_sI (as := [Value.int x, Value.int (nI c)]) (rest := []) mS_J9_floorMod_7cf53 (n_fmod (fun z => by have := (nI_eq0 (show c < 2 ^ 31 by omega)).mp z; omega)) ml_X4_18 dX4_inverse_73 rfl rfl (by decide) (Nat.le_of_ble_eq_true rfl) (by decide) ?_
      refine aw_goto (tgt := 80) dX4_inverse_76 (by decide) ?_
      exact aw_iret rfl (by decide) (by decide) dX4_inverse_80 (rI_of (by rw [← he, show 100 - k = 0 by omega]; rfl))
    · refine aw_iload_n dX4_inverse_20 rfl rfl ?_
      refine aw_if_eq_n (by omega) (tgt := 66) dX4_inverse_21 (by decide) (fun c_3 => ?_) (fun c_3 => ?_)
      · refine aw_iload_n dX4_inverse_66 rfl rfl ?_
        refine aw_if_le_n (by omega) (tgt := 79) dX4_inverse_67 (by decide) (fun c_4 => by exfalso; omega) (fun c_4 => ?_)
        refine aw_iload dX4_inverse_70 rfl ?_
        refine aw_iload_n dX4_inverse_72 rfl rfl ?_
        refine aw_sI (as := [Value.int x, Value.int (nI c)]) (rest := []) mS_J9_floorMod_7cf53 (n_fmod (fun z => by have := (nI_eq0 (show c < 2 ^ 31 by omega)).mp z; omega)) ml_X4_18 dX4_inverse_73 rfl rfl (by decide) (Nat.le_of_ble_eq_true rfl) (by decide) ?_
        refine aw_goto (tgt := 80) dX4_inverse_76 (by decide) ?_
        exact aw_iret rfl (by decide) (by decide) dX4_inverse_80 (rI_of (by rw [← he, show s = 0 by omega, ivF_0]))
      · refine aw_iload_n dX4_inverse_24 rfl rfl ?_
        refine aw_iload_n dX4_inverse_25 rfl rfl ?_
        refine aw_idiv_n (by omega) (by omega) (by omega) dX4_inverse_26 ?_
        refine aw_istore (L' := [(7, .int (nI (g / s))), (6, .int (nI k)), (5, .int y), (4, .int x), (3, .int (nI s)), (2, .int (nI g)), (1, .int (nI c))]) dX4_inverse_27 (by decide) rfl ?_
        have hdm := Nat.div_mul_le_self g s
        refine aw_iload_n dX4_inverse_29 rfl rfl ?_
        refine aw_iload dX4_inverse_30 rfl ?_
        refine aw_iload_n dX4_inverse_32 rfl rfl ?_
        refine aw_imul_n dX4_inverse_33 ?_
        refine aw_isub_n (by omega) dX4_inverse_34 ?_
        refine aw_istore (L' := [(8, .int (nI (g - ((g / s) * s)))), (7, .int (nI (g / s))), (6, .int (nI k)), (5, .int y), (4, .int x), (3, .int (nI s)), (2, .int (nI g)), (1, .int (nI c))]) dX4_inverse_35 (by decide) rfl ?_
        refine aw_iload_n dX4_inverse_37 rfl rfl ?_
        refine aw_istore_n (L' := [(2, .int (nI s)), (8, .int (nI (g - ((g / s) * s)))), (7, .int (nI (g / s))), (6, .int (nI k)), (5, .int y), (4, .int x), (3, .int (nI s)), (1, .int (nI c))]) dX4_inverse_38 rfl (by decide) rfl ?_
        refine aw_iload dX4_inverse_39 rfl ?_
        refine aw_istore_n (L' := [(3, .int (nI (g - ((g / s) * s)))), (2, .int (nI s)), (8, .int (nI (g - ((g / s) * s)))), (7, .int (nI (g / s))), (6, .int (nI k)), (5, .int y), (4, .int x), (1, .int (nI c))]) dX4_inverse_41 rfl (by decide) rfl ?_
        refine aw_iload dX4_inverse_42 rfl ?_
        refine aw_iload dX4_inverse_44 rfl ?_
        refine aw_iload dX4_inverse_46 rfl ?_
        refine aw_imul dX4_inverse_48 ?_
        refine aw_isub dX4_inverse_49 ?_
        refine aw_istore (L' := [(9, .int (x - ((nI (g / s)) * y))), (3, .int (nI (g - ((g / s) * s)))), (2, .int (nI s)), (8, .int (nI (g - ((g / s) * s)))), (7, .int (nI (g / s))), (6, .int (nI k)), (5, .int y), (4, .int x), (1, .int (nI c))]) dX4_inverse_50 (by decide) rfl ?_
        refine aw_iload dX4_inverse_52 rfl ?_
        refine aw_istore (L' := [(4, .int y), (9, .int (x - ((nI (g / s)) * y))), (3, .int (nI (g - ((g / s) * s)))), (2, .int (nI s)), (8, .int (nI (g - ((g / s) * s)))), (7, .int (nI (g / s))), (6, .int (nI k)), (5, .int y), (1, .int (nI c))]) dX4_inverse_54 (by decide) rfl ?_
        refine aw_iload dX4_inverse_56 rfl ?_
        refine aw_istore (L' := [(5, .int (x - ((nI (g / s)) * y))), (4, .int y), (9, .int (x - ((nI (g / s)) * y))), (3, .int (nI (g - ((g / s) * s)))), (2, .int (nI s)), (8, .int (nI (g - ((g / s) * s)))), (7, .int (nI (g / s))), (6, .int (nI k)), (1, .int (nI c))]) dX4_inverse_58 (by decide) rfl ?_
        refine aw_iinc_n (L' := [(6, .int (nI (k + 1))), (5, .int (x - ((nI (g / s)) * y))), (4, .int y), (9, .int (x - ((nI (g / s)) * y))), (3, .int (nI (g - ((g / s) * s)))), (2, .int (nI s)), (8, .int (nI (g - ((g / s) * s)))), (7, .int (nI (g / s))), (1, .int (nI c))]) 1 dX4_inverse_60 rfl (by decide) (by decide) rfl ?_
        refine aw_goto (tgt := 13) dX4_inverse_63 (by decide) ?_
        refine aw_sub [(6, .int (nI (k + 1))), (5, .int (x - nI (g / s) * y)), (4, .int y), (3, .int (nI (g - g / s * s))), (2, .int (nI s)), (1, .int (nI c))] (by simp) ?_
        refine ih _ (by omega) (k + 1) _ _ _ _ rfl (by omega) (by omega) (by omega) ?_
        rw [← he, show 100 - k = (100 - (k + 1)) + 1 by omega, ivF_s (by omega)]
set_option maxHeartbeats 4000000 in
theorem n_inv {l : Launch} {G : GT} {n : Nat} {f : HT} {a c : Nat} (ha : a < 2 ^ 30) (hc0 : 0 < c) (hc : c < 2 ^ 30) : AM l G yX4_inverse (.code yX4_inverse cX4_inverse 10 (some .int)) 1 60 0 0 [.int (nI a), .int (nI c)] (f) n (rI (fmI (ivF 100 a c 1 0) (nI c)) f n) := by
  refine aw_enter (M := MX4_inverse) rfl rfl (by decide +kernel) rfl (Nat.le_of_ble_eq_true rfl) ?_
  show AW l G MX4_inverse 1 60 0 0 _ n 0 0 0 [(0, .int (nI a)), (1, .int (nI c))] [] _ n
  refine aw_iload_n dX4_inverse_0 rfl rfl ?_
  refine aw_istore_n (L' := [(2, .int (nI a)), (0, .int (nI a)), (1, .int (nI c))]) dX4_inverse_1 rfl (by decide) rfl ?_
  refine aw_iload_n dX4_inverse_2 rfl rfl ?_
  refine aw_istore_n (L' := [(3, .int (nI c)), (2, .int (nI a)), (0, .int (nI a)), (1, .int (nI c))]) dX4_inverse_3 rfl (by decide) rfl ?_
  refine aw_iconst_n 1 dX4_inverse_4 (by decide) ?_
  refine aw_istore (L' := [(4, .int (nI 1)), (3, .int (nI c)), (2, .int (nI a)), (0, .int (nI a)), (1, .int (nI c))]) dX4_inverse_5 (by decide) rfl ?_
  refine aw_iconst_n 0 dX4_inverse_7 (by decide) ?_
  refine aw_istore (L' := [(5, .int (nI 0)), (4, .int (nI 1)), (3, .int (nI c)), (2, .int (nI a)), (0, .int (nI a)), (1, .int (nI c))]) dX4_inverse_8 (by decide) rfl ?_
  refine aw_iconst_n 0 dX4_inverse_10 (by decide) ?_
  refine aw_istore (L' := [(6, .int (nI 0)), (5, .int (nI 0)), (4, .int (nI 1)), (3, .int (nI c)), (2, .int (nI a)), (0, .int (nI a)), (1, .int (nI c))]) dX4_inverse_11 (by decide) rfl ?_
  exact aw_sub [(6, .int (nI 0)), (5, .int 0), (4, .int 1), (3, .int (nI c)), (2, .int (nI a)), (1, .int (nI c))] (by simp; decide) (n_inv_loop hc0 hc _ 0 a c 1 0 rfl (by decide) ha hc rfl)
