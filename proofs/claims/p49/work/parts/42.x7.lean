/-! an object with one array of ints, beneath the state -/
theorem rU_upo {f : HT} {o w a : Nat} {C : Nat → va_E} (h : a < o ∨ o + w ≤ a) (c : va_E) : va_up (rU f o w C) a c = rU (va_up f a c) o w C := by
  funext j
  by_cases e : j = a
  · subst e; rw [up_self, rU_out h, up_self]
  · rw [up_ne e]
    by_cases hi : o ≤ j ∧ j < o + w
    · simp only [rU]; rw [if_pos hi, if_pos hi]
    · rw [rU_out (by omega), rU_out (by omega), up_ne e]
def kC (ci N r : Nat) (T : Nat → Int32) : Nat → va_E := fun j => match j with
  | 0 => .inr (ci, [.ref (r + 1)])
  | 1 => .inl (0, (N, .inl T))
  | _ => nilc
abbrev kU (ci N : Nat) (f : HT) (r : Nat) (T : Nat → Int32) : HT := rU f r 2 (kC ci N r T)
section KR9
variable {ci N : Nat} {f : HT} {r o : Nat} {T T' : Nat → Int32} {J : Nat → Int32} {B : Nat → Nat → Int32}
theorem kU_0 : kU ci N f r T r = .inr (ci, [.ref (r + 1)]) := rU_at 0 (by decide)
theorem kU_1 : kU ci N f r T (r + 1) = .inl (0, (N, .inl T)) := rU_at 1 (by decide)
theorem kU_A : va_up (kU ci N f r T) (r + 1) (.inl (0, (N, .inl T'))) = kU ci N f r T' := (rU_up 1 (by decide) _).trans (rU_ext fun j hj => by
  rcases j with _ | _ | j
  · exact up_ne (by decide)
  · exact up_self
  · omega)
theorem sk_0 (hd : r + 2 ≤ o ∨ o + 9 ≤ r) : sU (kU ci N f r T) o J B r = .inr (ci, [.ref (r + 1)]) := (rU_out (by omega)).trans kU_0
theorem sk_1 (hd : r + 2 ≤ o ∨ o + 9 ≤ r) : sU (kU ci N f r T) o J B (r + 1) = .inl (0, (N, .inl T)) := (rU_out (by omega)).trans kU_1
theorem sk_A (hd : r + 2 ≤ o ∨ o + 9 ≤ r) : va_up (sU (kU ci N f r T) o J B) (r + 1) (.inl (0, (N, .inl T'))) = sU (kU ci N f r T') o J B := by
  rw [rU_upo (by omega), kU_A]
end KR9
/-! relays: the class' own costs -/
def cwM (V : Nat → Nat) (s leg k : Nat) : Nat := if bitN s k = 1 then 1000000 else apart (perN (V (4 + k))) (V (42 + leg)) + lsT V (s ||| 2 ^ k)
/-- the first cheapest below u, and its cost -/
def chF (V : Nat → Nat) (s leg : Nat) : Nat → Nat × Nat
  | 0 => (0, 1000000)
  | u + 1 => if cwM V s leg u < (chF V s leg u).2 then (u, cwM V s leg u) else chF V s leg u
theorem ch_y {V : Nat → Nat} {s leg u : Nat} (h : cwM V s leg u < (chF V s leg u).2) : chF V s leg (u + 1) = (u, cwM V s leg u) := by
  show (if _ then _ else _) = _
  rw [if_pos h]
theorem ch_n {V : Nat → Nat} {s leg u : Nat} (h : ¬ cwM V s leg u < (chF V s leg u).2) : chF V s leg (u + 1) = chF V s leg u := by
  show (if _ then _ else _) = _
  rw [if_neg h]
theorem ch_le {V : Nat → Nat} {s leg : Nat} : ∀ u, (chF V s leg u).2 ≤ 1000000 := by
  intro u
  induction u with
  | zero => exact Nat.le_refl _
  | succ u ih =>
    by_cases h : cwM V s leg u < (chF V s leg u).2
    · rw [ch_y h]; show cwM V s leg u ≤ _; omega
    · rw [ch_n h]; exact ih
theorem ch_lt {V : Nat → Nat} {s leg : Nat} : ∀ u, (chF V s leg u).1 ≤ u := by
  intro u
  induction u with
  | zero => exact Nat.le_refl _
  | succ u ih =>
    by_cases h : cwM V s leg u < (chF V s leg u).2
    · rw [ch_y h]; exact Nat.le_succ u
    · rw [ch_n h]; omega
theorem ls_cw {K : Nat} {V : Nat → Nat} (hB : VB K V) (h32 : V 3 ≤ V 2) {s k : Nat} (hs : s < 256) (hm : memN s < V 3) (hk : k < V 2) : lsT V s ≤ cwM V s (memN s) k ∧ (cwN V (lsT V) s (memN s) k ≠ lsT V s → lsT V s < cwM V s (memN s) k) := by
  have hc := hB.cnt
  have hl := hB.legs
  have h1 := ls_le hB h32 _ s rfl hs (by omega)
  have h2 := min_low (V := V) (T := tabK V (255 - s)) (s := s) (leg := memN s) (V 2) hk
  have e : lsT V s = minN V (tabK V (255 - s)) s (memN s) (V 2) := by rw [ls_at hs]; unfold valN; rw [if_neg (by omega)]
  rw [cw_eq hs (by omega), ← e] at h2
  unfold cwM
  unfold cwN at h2
  by_cases hb : bitN s k = 1
  · rw [if_pos hb]; exact ⟨by omega, fun _ => by omega⟩
  · rw [if_neg hb] at h2 ⊢
    refine ⟨h2, fun h => ?_⟩
    unfold cwN at h
    rw [if_neg hb] at h
    omega
theorem ch_ok {K : Nat} {V : Nat → Nat} (hB : VB K V) (h32 : V 3 ≤ V 2) {s : Nat} (hs : s < 256) (hm : memN s < V 3) : chF V s (memN s) (V 2) = (fstR V s (memN s), lsT V s) := by
  have hc := hB.cnt
  have hl := hB.legs
  obtain ⟨f1, f2, f3, f4⟩ := fst_ok hB h32 hs hm
  have h1 := ls_le hB h32 _ s rfl hs (by omega)
  have f5 : cwM V s (memN s) (fstR V s (memN s)) = lsT V s := by
    unfold cwN at f3
    rw [if_neg f2] at f3
    unfold cwM
    rw [if_neg f2]; exact f3
  have lo : ∀ u, u ≤ fstR V s (memN s) → lsT V s < (chF V s (memN s) u).2 := by
    intro u
    induction u with
    | zero => intro _; show lsT V s < 1000000; omega
    | succ u ih =>
      intro hu
      have := (ls_cw hB h32 hs hm (show u < V 2 by omega)).2 (f4 u (by omega))
      have := ih (by omega)
      by_cases h : cwM V s (memN s) u < (chF V s (memN s) u).2
      · rw [ch_y h]; assumption
      · rw [ch_n h]; assumption
  have hi : ∀ d, fstR V s (memN s) + 1 + d ≤ V 2 → chF V s (memN s) (fstR V s (memN s) + 1 + d) = (fstR V s (memN s), lsT V s) := by
    intro d
    induction d with
    | zero =>
      intro _
      have := lo _ (Nat.le_refl _)
      show chF V s (memN s) (fstR V s (memN s) + 1) = _
      rw [ch_y (by rw [f5]; exact this), f5]
    | succ d ih =>
      intro hd
      have h := ih (by omega)
      have h2 := (ls_cw hB h32 hs hm (show fstR V s (memN s) + 1 + d < V 2 by omega)).1
      show chF V s (memN s) (fstR V s (memN s) + 1 + d + 1) = _
      rw [ch_n (by rw [h]; show ¬ _ < lsT V s; omega), h]
  have := hi (V 2 - (fstR V s (memN s) + 1)) (by omega)
  rw [show fstR V s (memN s) + 1 + (V 2 - (fstR V s (memN s) + 1)) = V 2 by omega] at this
  exact this
theorem ch_cw {K : Nat} {V : Nat → Nat} (hB : VB K V) (h32 : V 3 ≤ V 2) {s : Nat} (hs : s < 256) (hm : memN s < V 3) : (chF V s (memN s) (V 2)).1 < V 2 ∧ cwM V s (memN s) (chF V s (memN s) (V 2)).1 = lsT V s := by
  obtain ⟨f1, f2, f3, f4⟩ := fst_ok hB h32 hs hm
  rw [ch_ok hB h32 hs hm]
  refine ⟨f1, ?_⟩
  unfold cwN at f3
  rw [if_neg f2] at f3
  show cwM V s (memN s) (fstR V s (memN s)) = _
  unfold cwM
  rw [if_neg f2]; exact f3
theorem ls_lt {V : Nat → Nat} (s : Nat) : lsT V s ≤ 100000 := tab_le 256 s
theorem cwM_lt {K : Nat} {V : Nat → Nat} {s leg k : Nat} (hB : VB K V) (hk : k < 8) (hl : leg < 6) : cwM V s leg k < 2 ^ 30 := by
  have h1 := per_le (hB.len hk)
  have h2 := hB.wish hl
  have h3 := ls_lt (V := V) (s ||| 2 ^ k)
  unfold cwM apart
  split <;> omega
def FRo (f : HT) (o r : Nat) (J : Nat → Int32) (B : Nat → Nat → Int32) (V : Nat → Nat) (x : Option Value) (n : Nat) : PT := fun y f' n' => y = .inl x ∧ n' = n ∧ ∃ T' : Nat → Int32, f' = sU (kU 4 256 f r T') o J B ∧ ∀ i, i < 256 → T' i = nI (lsT V i)
abbrev MX7_behind : MT := (RX7, cX7_behind, 2, (some .int), [], "behind")
set_option maxHeartbeats 4000000 in
theorem r_beh {l : Launch} {G : GT} {n : Nat} {H : HT} {r : Nat} {T : Nat → Int32} (h0 : H r = .inr (4, [.ref (r + 1)])) (h1 : H (r + 1) = .inl (0, (256, .inl T))) {i : Nat} (hi : i < 256) : AM l G yX7_behind (.code yX7_behind cX7_behind 2 (some .int)) 0 0 0 0 [.ref r, .int (nI i)] (H) n (rI (T i) H n) := by
  refine aw_enter (M := MX7_behind) rfl rfl (by decide +kernel) rfl (Nat.le_of_ble_eq_true rfl) ?_
  show AW l G MX7_behind 0 0 0 0 _ n 0 0 0 [(0, .ref r), (1, .int (nI i))] [] _ n
  refine aw_iload_n dX7_behind_0 rfl rfl ?_
  refine aw_if_lt_n (by omega) (tgt := 22) dX7_behind_1 (by decide) ?_
  refine aw_iload_n dX7_behind_4 rfl rfl ?_
  refine aw_aload_n dX7_behind_5 rfl rfl ?_
  refine aw_get (v := .ref (r + 1)) fl_X7_9 h0 rfl dX7_behind_6 ?_
  refine aw_alen (N := 0) (x := nilc) (ty := .int) (v := nI 256) h1 rfl rfl dX7_behind_9 ?_
  refine aw_icmp_ge_n (by omega) (by omega) (tgt := 22) dX7_behind_10 (by decide) (fun c_2 => by exfalso; omega) (fun c_2 => ?_)
  refine aw_aload_n dX7_behind_13 rfl rfl ?_
  refine aw_get (v := .ref (r + 1)) fl_X7_9 h0 rfl dX7_behind_14 ?_
  refine aw_iload_n dX7_behind_17 rfl rfl ?_
  refine aw_iald_n (k := i) (v := (T i)) h1 (by omega) (by decide) rfl dX7_behind_18 ?_
  refine aw_goto (tgt := 24) dX7_behind_19 (by decide) ?_
  exact aw_iret rfl (by decide) (by decide) dX7_behind_24 (rI_of (by rfl))
abbrev MX7_costWith : MT := (RX7, cX7_costWith, 6, (some .int), [], "costWith")
set_option maxHeartbeats 4000000 in
theorem r_cost {l : Launch} {G : GT} {n : Nat} {f : HT} {o r : Nat} {J : Nat → Int32} {B : Nat → Nat → Int32} {T : Nat → Int32} {K : Nat} {V : Nat → Nat} (hd : r + 2 ≤ o ∨ o + 9 ≤ r) (hS : SV J B V) (hB : VB K V) {s leg k : Nat} (hs : s < 256) (hl : leg < V 3) (hk : k < V 2) (hT : ∀ i, s < i → i < 256 → T i = nI (lsT V i)) : AM l G yX7_costWith (.code yX7_costWith cX7_costWith 6 (some .int)) 2 120 0 0 [.ref r, .ref o, .int (nI leg), .int (nI s), .int (nI k)] (sU (kU 4 256 f r T) o J B) n (rI (nI (cwM V s leg k)) (sU (kU 4 256 f r T) o J B) n) := by
  refine aw_enter (M := MX7_costWith) rfl rfl (by decide +kernel) rfl (Nat.le_of_ble_eq_true rfl) ?_
  have hcnt := VB.cnt hB
  have hleg := VB.legs hB
  have hfr := VB.fric hB
  have hnow := VB.now hB
  have hkk := VB.kk hB
  show AW l G MX7_costWith 2 120 0 0 _ n 0 0 0 [(0, .ref r), (1, .ref o), (2, .int (nI leg)), (3, .int (nI s)), (4, .int (nI k))] [] _ n
  refine aw_iconst_n 1 dX7_costWith_0 (by decide) ?_
  refine aw_iload dX7_costWith_1 rfl ?_
  refine aw_shl (k := k) (by omega) dX7_costWith_3 (fun hpw_1 => ?_)
  refine aw_istore (L' := [(5, .int (nI (2 ^ k))), (0, .ref r), (1, .ref o), (2, .int (nI leg)), (3, .int (nI s)), (4, .int (nI k))]) dX7_costWith_4 (by decide) rfl ?_
  refine aw_iload_n dX7_costWith_6 rfl rfl ?_
  refine aw_iload dX7_costWith_7 rfl ?_
  refine aw_iand dX7_costWith_9 ?_
  refine aw_if_eq (tgt := 18) dX7_costWith_10 (by decide) (fun c_2 => ?_) (fun c_2 => ?_)
  · have d_1 := (and_0 (by omega) (by omega)).mp c_2
    refine aw_aload_n dX7_costWith_18 rfl rfl ?_
    refine aw_iload dX7_costWith_19 rfl ?_
    refine aw_iload_n dX7_costWith_21 rfl rfl ?_
    refine aw_vI (as := [Value.int (nI k), Value.int (nI leg)]) (rest := []) mV_X8_misfit (s_misfit hS hB (k := k) (j := leg) hk hl) ml_X7_46 sU_0 rfl dX7_costWith_22 rfl rfl (by decide) (Nat.le_of_ble_eq_true rfl) (by decide) ?_
    refine aw_aload_n dX7_costWith_25 rfl rfl ?_
    refine aw_iload_n dX7_costWith_26 rfl rfl ?_
    refine aw_iload dX7_costWith_27 rfl ?_
    refine aw_or (a := s) (k := k) (by omega) (by omega) dX7_costWith_29 (fun hor_3 => ?_)
    refine aw_vI (as := [Value.int (nI (s ||| 2 ^ k))]) (rest := [Value.int (nI (apart (perN (V (4 + k))) (V (42 + leg))))]) mV_X7_behind (r_beh (sk_0 hd) (sk_1 hd) (i := s ||| 2 ^ k) (by omega)) ml_X7_19 (sk_0 hd) rfl dX7_costWith_30 rfl rfl (by decide) (Nat.le_of_ble_eq_true rfl) (by decide) ?_
    rw [hT _ (or_gt hs (by omega) d_1) (by omega)]
    refine aw_iadd_n dX7_costWith_33 ?_
    exact aw_iret rfl (by decide) (by decide) dX7_costWith_34 (rI_of (by unfold cwM; rw [if_neg d_1]))
  · have d_1 := Classical.not_not.mp (mt (and_0 (s := s) (k := k) (by omega) (by omega)).mpr c_2)
    refine aw_ldc (v := nI 1000000) kc_X7_42 dX7_costWith_13 ?_
    refine aw_goto (tgt := 34) dX7_costWith_15 (by decide) ?_
    exact aw_iret rfl (by decide) (by decide) dX7_costWith_34 (rI_of (by unfold cwM; rw [if_pos d_1]))
abbrev MX7_cheapest : MT := (RX7, cX7_cheapest, 8, (some .int), [], "cheapest")
set_option maxHeartbeats 4000000 in
theorem r_ch_loop {l : Launch} {G : GT} {n : Nat} {f : HT} {o r : Nat} {J : Nat → Int32} {B : Nat → Nat → Int32} {T : Nat → Int32} {K : Nat} {V : Nat → Nat} (hd : r + 2 ≤ o ∨ o + 9 ≤ r) (hS : SV J B V) (hB : VB K V) {s leg : Nat} (hs : s < 256) (hl : leg < V 3) (hT : ∀ i, s < i → i < 256 → T i = nI (lsT V i)) : ∀ (N : Nat) (u : Nat), (V 2 - u = N) → (u ≤ V 2) → AW l G MX7_cheapest 3 180 0 0 (rI (nI (chF V s leg (V 2)).1) (sU (kU 4 256 f r T) o J B) n) n 0 0 10 [(6, .int (nI u)), (5, .int (nI ((chF V s leg u).2))), (4, .int (nI ((chF V s leg u).1))), (0, .ref r), (1, .ref o), (2, .int (nI leg)), (3, .int (nI s))] [] (sU (kU 4 256 f r T) o J B) n := by
  intro N
  induction N using Nat.strongRecOn with
  | ind N ih =>
    intro u hN hu
    have hcnt := VB.cnt hB
    have hleg := VB.legs hB
    have hfr := VB.fric hB
    have hnow := VB.now hB
    have hkk := VB.kk hB
    have hcl := ch_le (V := V) (s := s) (leg := leg) u
    refine aw_iload dX7_cheapest_10 rfl ?_
    refine aw_aload_n dX7_cheapest_12 rfl rfl ?_
    refine aw_get (v := .int (nI (V 2))) fl_X7_43 sU_0 (congrArg (fun z => some (Value.int z)) hS.cnt) dX7_cheapest_13 ?_
    refine aw_icmp_ge_n (by omega) (by omega) (tgt := 51) dX7_cheapest_16 (by decide) (fun c_1 => ?_) (fun c_1 => ?_)
    · refine aw_iload dX7_cheapest_51 rfl ?_
      exact aw_iret rfl (by decide) (by decide) dX7_cheapest_53 (rI_of (by rw [show u = V 2 by omega]))
    · refine aw_aload_n dX7_cheapest_19 rfl rfl ?_
      refine aw_aload_n dX7_cheapest_20 rfl rfl ?_
      refine aw_iload_n dX7_cheapest_21 rfl rfl ?_
      refine aw_iload_n dX7_cheapest_22 rfl rfl ?_
      refine aw_iload dX7_cheapest_23 rfl ?_
      refine aw_vI (as := [Value.ref o, Value.int (nI leg), Value.int (nI s), Value.int (nI u)]) (rest := []) mV_X7_costWith (r_cost hd hS hB (s := s) (leg := leg) (k := u) hs hl (by omega) hT) ml_X7_38 (sk_0 hd) rfl dX7_cheapest_25 rfl rfl (by decide) (Nat.le_of_ble_eq_true rfl) (by decide) ?_
      have hcm : cwM V s leg u < 2 ^ 30 := cwM_lt hB (by omega) (by omega)
      refine aw_istore (L' := [(7, .int (nI (cwM V s leg u))), (6, .int (nI u)), (5, .int (nI ((chF V s leg u).2))), (4, .int (nI ((chF V s leg u).1))), (0, .ref r), (1, .ref o), (2, .int (nI leg)), (3, .int (nI s))]) dX7_cheapest_28 (by decide) rfl ?_
      refine aw_iload dX7_cheapest_30 rfl ?_
      refine aw_iload dX7_cheapest_32 rfl ?_
      refine aw_icmp_ge_n (by omega) (by omega) (tgt := 45) dX7_cheapest_34 (by decide) (fun c_2 => ?_) (fun c_2 => ?_)
      · refine aw_iinc_n (L' := [(6, .int (nI (u + 1))), (7, .int (nI (cwM V s leg u))), (5, .int (nI ((chF V s leg u).2))), (4, .int (nI ((chF V s leg u).1))), (0, .ref r), (1, .ref o), (2, .int (nI leg)), (3, .int (nI s))]) 1 dX7_cheapest_45 rfl (by decide) (by decide) rfl ?_
        refine aw_goto (tgt := 10) dX7_cheapest_48 (by decide) ?_
        have e : chF V s leg (u + 1) = chF V s leg u := ch_n (by omega)
        refine aw_sub [(6, .int (nI (u + 1))), (5, .int (nI (chF V s leg (u + 1)).2)), (4, .int (nI (chF V s leg (u + 1)).1)), (0, .ref r), (1, .ref o), (2, .int (nI leg)), (3, .int (nI s))] (by rw [e]; simp) ?_
        exact ih _ (by omega) (u + 1) rfl (by omega)
      · refine aw_iload dX7_cheapest_37 rfl ?_
        refine aw_istore (L' := [(4, .int (nI u)), (7, .int (nI (cwM V s leg u))), (6, .int (nI u)), (5, .int (nI ((chF V s leg u).2))), (0, .ref r), (1, .ref o), (2, .int (nI leg)), (3, .int (nI s))]) dX7_cheapest_39 (by decide) rfl ?_
        refine aw_iload dX7_cheapest_41 rfl ?_
        refine aw_istore (L' := [(5, .int (nI (cwM V s leg u))), (4, .int (nI u)), (7, .int (nI (cwM V s leg u))), (6, .int (nI u)), (0, .ref r), (1, .ref o), (2, .int (nI leg)), (3, .int (nI s))]) dX7_cheapest_43 (by decide) rfl ?_
        refine aw_iinc_n (L' := [(6, .int (nI (u + 1))), (5, .int (nI (cwM V s leg u))), (4, .int (nI u)), (7, .int (nI (cwM V s leg u))), (0, .ref r), (1, .ref o), (2, .int (nI leg)), (3, .int (nI s))]) 1 dX7_cheapest_45 rfl (by decide) (by decide) rfl ?_
        refine aw_goto (tgt := 10) dX7_cheapest_48 (by decide) ?_
        have e : chF V s leg (u + 1) = (u, cwM V s leg u) := ch_y (by omega)
        refine aw_sub [(6, .int (nI (u + 1))), (5, .int (nI (chF V s leg (u + 1)).2)), (4, .int (nI (chF V s leg (u + 1)).1)), (0, .ref r), (1, .ref o), (2, .int (nI leg)), (3, .int (nI s))] (by rw [e]; simp) ?_
        exact ih _ (by omega) (u + 1) rfl (by omega)
set_option maxHeartbeats 4000000 in
theorem r_ch {l : Launch} {G : GT} {n : Nat} {f : HT} {o r : Nat} {J : Nat → Int32} {B : Nat → Nat → Int32} {T : Nat → Int32} {K : Nat} {V : Nat → Nat} (hd : r + 2 ≤ o ∨ o + 9 ≤ r) (hS : SV J B V) (hB : VB K V) {s leg : Nat} (hs : s < 256) (hl : leg < V 3) (hT : ∀ i, s < i → i < 256 → T i = nI (lsT V i)) : AM l G yX7_cheapest (.code yX7_cheapest cX7_cheapest 8 (some .int)) 3 180 0 0 [.ref r, .ref o, .int (nI leg), .int (nI s)] (sU (kU 4 256 f r T) o J B) n (rI (nI (chF V s leg (V 2)).1) (sU (kU 4 256 f r T) o J B) n) := by
  refine aw_enter (M := MX7_cheapest) rfl rfl (by decide +kernel) rfl (Nat.le_of_ble_eq_true rfl) ?_
  show AW l G MX7_cheapest 3 180 0 0 _ n 0 0 0 [(0, .ref r), (1, .ref o), (2, .int (nI leg)), (3, .int (nI s))] [] _ n
  refine aw_iconst_n 0 dX7_cheapest_0 (by decide) ?_
  refine aw_istore (L' := [(4, .int (nI 0)), (0, .ref r), (1, .ref o), (2, .int (nI leg)), (3, .int (nI s))]) dX7_cheapest_1 (by decide) rfl ?_
  refine aw_ldc (v := nI 1000000) kc_X7_42 dX7_cheapest_3 ?_
  refine aw_istore (L' := [(5, .int (nI 1000000)), (4, .int (nI 0)), (0, .ref r), (1, .ref o), (2, .int (nI leg)), (3, .int (nI s))]) dX7_cheapest_5 (by decide) rfl ?_
  refine aw_iconst_n 0 dX7_cheapest_7 (by decide) ?_
  refine aw_istore (L' := [(6, .int (nI 0)), (5, .int (nI 1000000)), (4, .int (nI 0)), (0, .ref r), (1, .ref o), (2, .int (nI leg)), (3, .int (nI s))]) dX7_cheapest_8 (by decide) rfl ?_
  exact aw_sub [(6, .int (nI 0)), (5, .int (nI 1000000)), (4, .int (nI 0)), (0, .ref r), (1, .ref o), (2, .int (nI leg)), (3, .int (nI s))] (by simp) (r_ch_loop hd hS hB hs hl hT _ 0 rfl (Nat.zero_le _))
abbrev MX7_fillSets : MT := (RX7, cX7_fillSets, 4, none, [], "fillSets")
set_option maxHeartbeats 4000000 in
theorem r_fill_loop {l : Launch} {G : GT} {n : Nat} {f : HT} {o r : Nat} {J : Nat → Int32} {B : Nat → Nat → Int32} {K : Nat} {V : Nat → Nat} (hd : r + 2 ≤ o ∨ o + 9 ≤ r) (hS : SV J B V) (hB : VB K V) (h32 : V 3 ≤ V 2) : ∀ (N : Nat) (u : Nat) (T : Nat → Int32), (u = N) → (u ≤ 256) → (∀ i, u ≤ i → i < 256 → T i = nI (lsT V i)) → AW l G MX7_fillSets 4 240 0 0 (FRo f o r J B V none n) n 0 0 4 [(2, .int (nI u - nI 1)), (0, .ref r), (1, .ref o)] [] (sU (kU 4 256 f r T) o J B) n := by
  intro N
  induction N using Nat.strongRecOn with
  | ind N ih =>
    intro u T hN hu hT
    have hcnt := VB.cnt hB
    have hleg := VB.legs hB
    have hfr := VB.fric hB
    have hnow := VB.now hB
    have hkk := VB.kk hB
    refine aw_iload_n dX7_fillSets_4 rfl rfl ?_
    refine aw_if_lt (tgt := 51) dX7_fillSets_5 (by decide) (fun c_1 => ?_) (fun c_1 => ?_)
    · have hk0 := (m1_neg (by omega)).mp c_1
      exact aw_vret rfl (by decide) (by decide) dX7_fillSets_51 ⟨rfl, rfl, T, rfl, fun i hi => hT i (by omega) hi⟩
    · have hk0 : u ≠ 0 := fun z => c_1 ((m1_neg (by omega)).mpr z)
      rw [m1_n (by omega)]
      refine aw_iload_n dX7_fillSets_8 rfl rfl ?_
      refine aw_sI (as := [Value.int (nI (u - 1))]) (rest := []) mS_J6_bitCount_0f7a4 (n_bc (by omega)) ml_X7_27 dX7_fillSets_9 rfl rfl (by decide) (Nat.le_of_ble_eq_true rfl) (by decide) ?_
      refine aw_istore_n (L' := [(3, .int (nI (memN (u - 1)))), (2, .int (nI (u - 1))), (0, .ref r), (1, .ref o)]) dX7_fillSets_12 rfl (by decide) rfl ?_
      have hmm : memN (u - 1) ≤ 8 := memC_le _ 8
      refine aw_aload_n dX7_fillSets_13 rfl rfl ?_
      refine aw_get (v := .ref (r + 1)) fl_X7_9 (sk_0 hd) rfl dX7_fillSets_14 ?_
      refine aw_iload_n dX7_fillSets_17 rfl rfl ?_
      refine aw_iload_n dX7_fillSets_18 rfl rfl ?_
      refine aw_aload_n dX7_fillSets_19 rfl rfl ?_
      refine aw_get (v := .int (nI (V 3))) fl_X7_32 sU_0 (congrArg (fun z => some (Value.int z)) hS.leg) dX7_fillSets_20 ?_
      refine aw_icmp_lt_n (by omega) (by omega) (tgt := 30) dX7_fillSets_23 (by decide) (fun c_2 => ?_) (fun c_2 => ?_)
      · refine aw_aload_n dX7_fillSets_30 rfl rfl ?_
        refine aw_aload_n dX7_fillSets_31 rfl rfl ?_
        refine aw_iload_n dX7_fillSets_32 rfl rfl ?_
        refine aw_iload_n dX7_fillSets_33 rfl rfl ?_
        refine aw_aload_n dX7_fillSets_34 rfl rfl ?_
        refine aw_aload_n dX7_fillSets_35 rfl rfl ?_
        refine aw_iload_n dX7_fillSets_36 rfl rfl ?_
        refine aw_iload_n dX7_fillSets_37 rfl rfl ?_
        refine aw_vI (as := [Value.ref o, Value.int (nI (memN (u - 1))), Value.int (nI (u - 1))]) (rest := [Value.int (nI (u - 1)), Value.int (nI (memN (u - 1))), Value.ref o, Value.ref r, Value.int (nI (u - 1)), Value.ref (r + 1)]) mV_X7_cheapest (r_ch hd hS hB (s := u - 1) (leg := memN (u - 1)) (by omega) (by omega) (fun i h1 h2 => hT i (by omega) h2)) ml_X7_23 (sk_0 hd) rfl dX7_fillSets_38 rfl rfl (by decide) (Nat.le_of_ble_eq_true rfl) (by decide) ?_
        obtain ⟨hc9, hc8⟩ := ch_cw hB h32 (s := u - 1) (by omega) (by omega)
        refine aw_vI (as := [Value.ref o, Value.int (nI (memN (u - 1))), Value.int (nI (u - 1)), Value.int (nI ((chF V (u - 1) (memN (u - 1)) (V 2)).1))]) (rest := [Value.int (nI (u - 1)), Value.ref (r + 1)]) mV_X7_costWith (r_cost hd hS hB (s := u - 1) (leg := memN (u - 1)) (k := (chF V (u - 1) (memN (u - 1)) (V 2)).1) (by omega) (by omega) hc9 (fun i h1 h2 => hT i (by omega) h2)) ml_X7_38 (sk_0 hd) rfl dX7_fillSets_41 rfl rfl (by decide) (Nat.le_of_ble_eq_true rfl) (by decide) ?_
        rw [hc8]
        refine aw_iast_n (k := u - 1) (sk_1 hd) (by omega) (by decide) dX7_fillSets_44 ?_
        rw [sk_A hd]
        refine aw_iinc (L' := [(2, .int (nI (u - 1) + -1)), (3, .int (nI (memN (u - 1)))), (0, .ref r), (1, .ref o)]) dX7_fillSets_45 rfl rfl (by decide) rfl ?_
        refine aw_goto (tgt := 4) dX7_fillSets_48 (by decide) ?_
        refine aw_sub [(2, .int (nI (u - 1) - nI 1)), (0, .ref r), (1, .ref o)] (by rw [Int32.sub_eq_add_neg]; simp [show -nI 1 = (-1 : Int32) by decide]) ?_
        exact ih _ (by omega) (u - 1) (upd T (u - 1) (nI (lsT V (u - 1)))) rfl (by omega) (fun i h1 h2 => by
          by_cases hi : i = u - 1
          · subst hi; rw [pk_us]
          · rw [pk_un hi]; exact hT i (by omega) h2)
      · have hz : lsT V (u - 1) = 0 := by rw [ls_at (by omega)]; unfold valN; rw [if_pos (by omega)]
        refine aw_iconst_n 0 dX7_fillSets_26 (by decide) ?_
        refine aw_goto (tgt := 44) dX7_fillSets_27 (by decide) ?_
        refine aw_iast_n (k := u - 1) (sk_1 hd) (by omega) (by decide) dX7_fillSets_44 ?_
        rw [sk_A hd]
        refine aw_iinc (L' := [(2, .int (nI (u - 1) + -1)), (3, .int (nI (memN (u - 1)))), (0, .ref r), (1, .ref o)]) dX7_fillSets_45 rfl rfl (by decide) rfl ?_
        refine aw_goto (tgt := 4) dX7_fillSets_48 (by decide) ?_
        refine aw_sub [(2, .int (nI (u - 1) - nI 1)), (0, .ref r), (1, .ref o)] (by rw [Int32.sub_eq_add_neg]; simp [show -nI 1 = (-1 : Int32) by decide]) ?_
        exact ih _ (by omega) (u - 1) (upd T (u - 1) (nI 0)) rfl (by omega) (fun i h1 h2 => by
          by_cases hi : i = u - 1
          · subst hi; rw [pk_us]; exact congrArg nI hz.symm
          · rw [pk_un hi]; exact hT i (by omega) h2)
set_option maxHeartbeats 4000000 in
theorem r_fill {l : Launch} {G : GT} {n : Nat} {f : HT} {o r : Nat} {J : Nat → Int32} {B : Nat → Nat → Int32} {T : Nat → Int32} {K : Nat} {V : Nat → Nat} (hd : r + 2 ≤ o ∨ o + 9 ≤ r) (hS : SV J B V) (hB : VB K V) (h32 : V 3 ≤ V 2) : AM l G yX7_fillSets (.code yX7_fillSets cX7_fillSets 4 none) 4 240 0 0 [.ref r, .ref o] (sU (kU 4 256 f r T) o J B) n (FRo f o r J B V none n) := by
  refine aw_enter (M := MX7_fillSets) rfl rfl (by decide +kernel) rfl (Nat.le_of_ble_eq_true rfl) ?_
  show AW l G MX7_fillSets 4 240 0 0 _ n 0 0 0 [(0, .ref r), (1, .ref o)] [] _ n
  refine aw_sipush_n 255 dX7_fillSets_0 (by decide) ?_
  refine aw_istore_n (L' := [(2, .int (nI 255)), (0, .ref r), (1, .ref o)]) dX7_fillSets_3 rfl (by decide) rfl ?_
  exact aw_sub [(2, .int (nI 256 - nI 1)), (0, .ref r), (1, .ref o)] (by simp [show nI 256 - nI 1 = nI 255 by decide]) (r_fill_loop hd hS hB h32 _ 256 T rfl (Nat.le_refl _) (fun i h1 h2 => by omega))
abbrev MX7_leastCost : MT := (RX7, cX7_leastCost, 2, (some .int), [], "leastCost")
set_option maxHeartbeats 4000000 in
theorem r_least {l : Launch} {G : GT} {n : Nat} {f : HT} {o r : Nat} {J : Nat → Int32} {B : Nat → Nat → Int32} {T : Nat → Int32} {K : Nat} {V : Nat → Nat} (hd : r + 2 ≤ o ∨ o + 9 ≤ r) (hS : SV J B V) (hB : VB K V) (h32 : V 3 ≤ V 2) : AM l G yX7_leastCost (.code yX7_leastCost cX7_leastCost 2 (some .int)) 5 300 0 0 [.ref r, .ref o] (sU (kU 4 256 f r T) o J B) n (FRo f o r J B V (some (.int (nI (lsT V 0)))) n) := by
  refine aw_enter (M := MX7_leastCost) rfl rfl (by decide +kernel) rfl (Nat.le_of_ble_eq_true rfl) ?_
  show AW l G MX7_leastCost 5 300 0 0 _ n 0 0 0 [(0, .ref r), (1, .ref o)] [] _ n
  refine aw_aload_n dX7_leastCost_0 rfl rfl ?_
  refine aw_aload_n dX7_leastCost_1 rfl rfl ?_
  refine aw_vP (as := [Value.ref o]) (rest := []) mV_X7_fillSets (r_fill hd hS hB h32) ml_X7_15 (sk_0 hd) rfl dX7_leastCost_2 rfl rfl (by decide) (Nat.le_of_ble_eq_true rfl) (by decide) (fun _ _ _ h => by cases h.1) (fun r9 f9 n9 _ h => ?_)
  obtain ⟨h1, h2, T1, h3, hT1⟩ := h
  cases h1; subst h2; subst h3
  refine aw_aload_n dX7_leastCost_5 rfl rfl ?_
  refine aw_iconst_n 0 dX7_leastCost_6 (by decide) ?_
  refine aw_vI (as := [Value.int (nI 0)]) (rest := []) mV_X7_behind (r_beh (sk_0 hd) (sk_1 hd) (i := 0) (by decide)) ml_X7_19 (sk_0 hd) rfl dX7_leastCost_7 rfl rfl (by decide) (Nat.le_of_ble_eq_true rfl) (by decide) ?_
  rw [hT1 0 (by decide)]
  exact aw_iret rfl (by decide) (by decide) dX7_leastCost_10 ⟨rfl, rfl, T1, rfl, hT1⟩
abbrev MX7_runner : MT := (RX7, cX7_runner, 5, (some .int), [], "runner")
set_option maxHeartbeats 4000000 in
theorem r_run_loop {l : Launch} {G : GT} {n : Nat} {f : HT} {o r : Nat} {J : Nat → Int32} {B : Nat → Nat → Int32} {T : Nat → Int32} {K : Nat} {V : Nat → Nat} (hd : r + 2 ≤ o ∨ o + 9 ≤ r) (hS : SV J B V) (hB : VB K V) (h32 : V 3 ≤ V 2) {j : Nat} (hj : j < V 3) (hT : ∀ i, i < 256 → T i = nI (lsT V i)) : ∀ (N : Nat) (e : Nat), (j - e = N) → (e ≤ j) → AW l G MX7_runner 5 300 0 0 (FRo f o r J B V (some (.int (nI (fstR V (setR V j) j)))) n) n 0 0 10 [(4, .int (nI e)), (3, .int (nI (setR V e))), (0, .ref r), (1, .ref o), (2, .int (nI j))] [] (sU (kU 4 256 f r T) o J B) n := by
  intro N
  induction N using Nat.strongRecOn with
  | ind N ih =>
    intro e hN he
    have hcnt := VB.cnt hB
    have hleg := VB.legs hB
    have hfr := VB.fric hB
    have hnow := VB.now hB
    have hkk := VB.kk hB
    have hset := set_ok hB h32 e (by omega)
    refine aw_iload dX7_runner_10 rfl ?_
    refine aw_iload_n dX7_runner_12 rfl rfl ?_
    refine aw_icmp_ge_n (by omega) (by omega) (tgt := 35) dX7_runner_13 (by decide) (fun c_1 => ?_) (fun c_1 => ?_)
    · have he : e = j := by omega
      subst he
      refine aw_aload_n dX7_runner_35 rfl rfl ?_
      refine aw_aload_n dX7_runner_36 rfl rfl ?_
      refine aw_iload_n dX7_runner_37 rfl rfl ?_
      refine aw_iload_n dX7_runner_38 rfl rfl ?_
      refine aw_vI (as := [Value.ref o, Value.int (nI e), Value.int (nI (setR V e))]) (rest := []) mV_X7_cheapest (r_ch hd hS hB (s := setR V e) (leg := e) hset.1 (by omega) (fun i h1 h2 => hT i h2)) ml_X7_23 (sk_0 hd) rfl dX7_runner_39 rfl rfl (by decide) (Nat.le_of_ble_eq_true rfl) (by decide) ?_
      have hch := ch_ok hB h32 hset.1 (by rw [hset.2]; omega)
      have hfo := fst_ok hB h32 hset.1 (by rw [hset.2]; omega)
      rw [hset.2] at hch hfo
      rw [hch]
      exact aw_iret rfl (by decide) (by decide) dX7_runner_42 ⟨rfl, rfl, T, rfl, hT⟩
    · refine aw_iload_n dX7_runner_16 rfl rfl ?_
      refine aw_iconst_n 1 dX7_runner_17 (by decide) ?_
      refine aw_aload_n dX7_runner_18 rfl rfl ?_
      refine aw_aload_n dX7_runner_19 rfl rfl ?_
      refine aw_iload dX7_runner_20 rfl ?_
      refine aw_iload_n dX7_runner_22 rfl rfl ?_
      refine aw_vI (as := [Value.ref o, Value.int (nI e), Value.int (nI (setR V e))]) (rest := [Value.int (nI 1), Value.int (nI (setR V e))]) mV_X7_cheapest (r_ch hd hS hB (s := setR V e) (leg := e) hset.1 (by omega) (fun i h1 h2 => hT i h2)) ml_X7_23 (sk_0 hd) rfl dX7_runner_23 rfl rfl (by decide) (Nat.le_of_ble_eq_true rfl) (by decide) ?_
      have hch := ch_ok hB h32 hset.1 (by rw [hset.2]; omega)
      have hfo := fst_ok hB h32 hset.1 (by rw [hset.2]; omega)
      rw [hset.2] at hch hfo
      rw [hch]
      refine aw_shl (k := fstR V (setR V e) e) (by omega) dX7_runner_26 (fun hpw_2 => ?_)
      refine aw_or (a := setR V e) (k := fstR V (setR V e) e) (by omega) (by omega) dX7_runner_27 (fun hor_3 => ?_)
      refine aw_istore_n (L' := [(3, .int (nI ((setR V e) ||| 2 ^ (fstR V (setR V e) e)))), (4, .int (nI e)), (0, .ref r), (1, .ref o), (2, .int (nI j))]) dX7_runner_28 rfl (by decide) rfl ?_
      refine aw_iinc_n (L' := [(4, .int (nI (e + 1))), (3, .int (nI ((setR V e) ||| 2 ^ (fstR V (setR V e) e)))), (0, .ref r), (1, .ref o), (2, .int (nI j))]) 1 dX7_runner_29 rfl (by decide) (by decide) rfl ?_
      refine aw_goto (tgt := 10) dX7_runner_32 (by decide) ?_
      exact ih _ (by omega) (e + 1) rfl (by omega)
set_option maxHeartbeats 4000000 in
theorem r_run {l : Launch} {G : GT} {n : Nat} {f : HT} {o r : Nat} {J : Nat → Int32} {B : Nat → Nat → Int32} {T : Nat → Int32} {K : Nat} {V : Nat → Nat} (hd : r + 2 ≤ o ∨ o + 9 ≤ r) (hS : SV J B V) (hB : VB K V) (h32 : V 3 ≤ V 2) {j : Nat} (hj : j < V 3) : AM l G yX7_runner (.code yX7_runner cX7_runner 5 (some .int)) 5 300 0 0 [.ref r, .ref o, .int (nI j)] (sU (kU 4 256 f r T) o J B) n (FRo f o r J B V (some (.int (nI (fstR V (setR V j) j)))) n) := by
  refine aw_enter (M := MX7_runner) rfl rfl (by decide +kernel) rfl (Nat.le_of_ble_eq_true rfl) ?_
  show AW l G MX7_runner 5 300 0 0 _ n 0 0 0 [(0, .ref r), (1, .ref o), (2, .int (nI j))] [] _ n
  refine aw_aload_n dX7_runner_0 rfl rfl ?_
  refine aw_aload_n dX7_runner_1 rfl rfl ?_
  refine aw_vP (as := [Value.ref o]) (rest := []) mV_X7_fillSets (r_fill hd hS hB h32) ml_X7_15 (sk_0 hd) rfl dX7_runner_2 rfl rfl (by decide) (Nat.le_of_ble_eq_true rfl) (by decide) (fun _ _ _ h => by cases h.1) (fun r9 f9 n9 _ h => ?_)
  obtain ⟨h1, h2, T1, h3, hT1⟩ := h
  cases h1; subst h2; subst h3
  refine aw_iconst_n 0 dX7_runner_5 (by decide) ?_
  refine aw_istore_n (L' := [(3, .int (nI 0)), (0, .ref r), (1, .ref o), (2, .int (nI j))]) dX7_runner_6 rfl (by decide) rfl ?_
  refine aw_iconst_n 0 dX7_runner_7 (by decide) ?_
  refine aw_istore (L' := [(4, .int (nI 0)), (3, .int (nI 0)), (0, .ref r), (1, .ref o), (2, .int (nI j))]) dX7_runner_8 (by decide) rfl ?_
  exact aw_sub [(4, .int (nI 0)), (3, .int (nI 0)), (0, .ref r), (1, .ref o), (2, .int (nI j))] (by simp) (r_run_loop hd hS hB h32 hj hT1 _ 0 rfl (Nat.zero_le _))
