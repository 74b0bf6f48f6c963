/-- the best known after the pendulums below u were tried -/
def btF (V : Nat → Nat) (s leg cost best : Nat) : Nat → Nat
  | 0 => best
  | u + 1 => if bitN s u = 1 then btF V s leg cost best u else min (btF V s leg cost best u) (cost + cwM V s leg u)
theorem bt_le {V : Nat → Nat} {s leg cost best : Nat} : ∀ u, btF V s leg cost best u ≤ best := by
  intro u
  induction u with
  | zero => exact Nat.le_refl _
  | succ u ih =>
    unfold btF
    split
    · exact ih
    · exact Nat.le_trans (Nat.min_le_left _ _) ih
theorem bt_low {V : Nat → Nat} {s leg cost best k : Nat} (hb : bitN s k ≠ 1) : ∀ u, k < u → btF V s leg cost best u ≤ cost + cwM V s leg k := by
  intro u
  induction u with
  | zero => intro h; omega
  | succ u ih =>
    intro h
    unfold btF
    by_cases e : k = u
    · subst e; rw [if_neg hb]; exact Nat.min_le_right _ _
    · have := ih (by omega)
      split
      · exact this
      · exact Nat.le_trans (Nat.min_le_left _ _) this
theorem bt_at {V : Nat → Nat} {s leg cost best : Nat} : ∀ u, btF V s leg cost best u = best ∨ ∃ k, k < u ∧ btF V s leg cost best u = cost + cwM V s leg k := by
  intro u
  induction u with
  | zero => exact Or.inl rfl
  | succ u ih =>
    have old : btF V s leg cost best u = best ∨ ∃ k, k < u + 1 ∧ btF V s leg cost best u = cost + cwM V s leg k := by
      rcases ih with h | ⟨k, h1, h2⟩
      · exact Or.inl h
      · exact Or.inr ⟨k, by omega, h2⟩
    unfold btF
    split
    · exact old
    · rcases Nat.le_total (btF V s leg cost best u) (cost + cwM V s leg u) with h | h
      · rw [Nat.min_eq_left h]; exact old
      · rw [Nat.min_eq_right h]; exact Or.inr ⟨u, Nat.lt_succ_self u, rfl⟩
theorem bt_ok {K : Nat} {V : Nat → Nat} (hB : VB K V) (h32 : V 3 ≤ V 2) {s cost best : Nat} (hs : s < 256) (hm : memN s < V 3) : btF V s (memN s) cost best (V 2) = min best (cost + lsT V s) := by
  obtain ⟨f1, f2, f3, f4⟩ := fst_ok hB h32 hs hm
  have f5 : cwM V s (memN s) (fstR V s (memN s)) = lsT V s := by
    unfold cwN at f3
    rw [if_neg f2] at f3
    unfold cwM
    rw [if_neg f2]; exact f3
  have h1 := bt_le (V := V) (s := s) (leg := memN s) (cost := cost) (best := best) (V 2)
  have h2 := bt_low (V := V) (s := s) (leg := memN s) (cost := cost) (best := best) f2 (V 2) f1
  rw [f5] at h2
  rcases bt_at (V := V) (s := s) (leg := memN s) (cost := cost) (best := best) (V 2) with h | ⟨k, hk, h⟩
  · omega
  · have := (ls_cw hB h32 hs hm hk).1
    omega
abbrev MX10_bestByTrying : MT := (RX10, cX10_bestByTrying, 8, (some .int), [], "bestByTrying")
set_option maxHeartbeats 4000000 in
theorem g_best_loop {l : Launch} {G : GT} {n : Nat} {f : HT} {o : Nat} {J : Nat → Int32} {B : Nat → Nat → Int32} {K : Nat} {V : Nat → Nat} (hS : SV J B V) (hB : VB K V) {fr lo fr2 lo2 leg s cost best : Nat} (hf : fr2 + 1 ≤ fr) (hlo : 27 + lo2 ≤ lo) (hf2 : 2 ≤ fr) (hlo2 : 100 ≤ lo) (h32 : V 3 ≤ V 2) (hs : s < 256) (hm : memN s = leg) (hcs : cost ≤ 60 * leg) (hbs : best ≤ 1000000) (hl : leg < V 3) (hrec : ∀ k cost' found, k < V 2 → bitN s k ≠ 1 → cost' ≤ 60 * (leg + 1) → found ≤ 1000000 → AM l G yX10_bestByTrying (.code yX10_bestByTrying cX10_bestByTrying 8 (some .int)) fr2 lo2 0 0 [.ref o, .int (nI (leg + 1)), .int (nI (s ||| 2 ^ k)), .int (nI cost'), .int (nI found)] (sU f o J B) n (rI (nI (min found (cost' + lsT V (s ||| 2 ^ k)))) (sU f o J B) n)) : ∀ (N : Nat) (u : Nat), (V 2 - u = N) → (u ≤ V 2) → AW l G MX10_bestByTrying fr lo 0 0 (rI (nI (min best (cost + lsT V s))) (sU f o J B) n) n 0 0 32 [(6, .int (nI u)), (5, .int (nI (btF V s leg cost best u))), (0, .ref o), (1, .int (nI leg)), (2, .int (nI s)), (3, .int (nI cost)), (4, .int (nI best))] [] (sU f o J B) n := by
  intro N
  induction N using Nat.strongRecOn with
  | ind N ih =>
    intro u hN hu
    have hcnt := VB.cnt hB
    have hleg := VB.legs hB
    have hfr := VB.fric hB
    have hnow := VB.now hB
    have hkk := VB.kk hB
    have hbl := bt_le (V := V) (s := s) (leg := leg) (cost := cost) (best := best) u
    refine aw_iload dX10_bestByTrying_32 rfl ?_
    refine aw_aload_n dX10_bestByTrying_34 rfl rfl ?_
    refine aw_get (v := .int (nI (V 2))) fl_X10_108 sU_0 (congrArg (fun z => some (Value.int z)) hS.cnt) dX10_bestByTrying_35 ?_
    refine aw_icmp_ge_n (by omega) (by omega) (tgt := 84) dX10_bestByTrying_38 (by decide) (fun c_1 => ?_) (fun c_1 => ?_)
    · refine aw_iload dX10_bestByTrying_84 rfl ?_
      exact aw_iret rfl (by decide) (by decide) dX10_bestByTrying_86 (rI_of (by rw [show u = V 2 by omega, ← bt_ok hB h32 hs (by omega), hm]))
    · have haxu := VB.amp hB (k := u) (by omega)
      have hsxu := VB.start hB (k := u) (by omega)
      have hlxu := VB.len hB (k := u) (by omega)
      have hl1u := VB.len1 hB (k := u) (by omega)
      have hwxu := VB.sw hB (k := u) (by omega)
      have hppu := per_pos hl1u
      have hplu := per_le hlxu
      have hwj := VB.wish hB (k := leg) (by omega)
      have hap : apart (perN (V (4 + u))) (V (42 + leg)) ≤ 60 := by unfold apart; omega
      refine aw_iconst_n 1 dX10_bestByTrying_41 (by decide) ?_
      refine aw_iload dX10_bestByTrying_42 rfl ?_
      refine aw_shl (k := u) (by omega) dX10_bestByTrying_44 (fun hpw_2 => ?_)
      refine aw_istore (L' := [(7, .int (nI (2 ^ u))), (6, .int (nI u)), (5, .int (nI (btF V s leg cost best u))), (0, .ref o), (1, .int (nI leg)), (2, .int (nI s)), (3, .int (nI cost)), (4, .int (nI best))]) dX10_bestByTrying_45 (by decide) rfl ?_
      refine aw_iload_n dX10_bestByTrying_47 rfl rfl ?_
      refine aw_iload dX10_bestByTrying_48 rfl ?_
      refine aw_iand dX10_bestByTrying_50 ?_
      refine aw_if_ne (tgt := 78) dX10_bestByTrying_51 (by decide) (fun c_3 => ?_) (fun c_3 => ?_)
      · have d_1 := Classical.not_not.mp (mt (and_0 (s := s) (k := u) (by omega) (by omega)).mpr c_3)
        refine aw_iinc_n (L' := [(6, .int (nI (u + 1))), (7, .int (nI (2 ^ u))), (5, .int (nI (btF V s leg cost best u))), (0, .ref o), (1, .int (nI leg)), (2, .int (nI s)), (3, .int (nI cost)), (4, .int (nI best))]) 1 dX10_bestByTrying_78 rfl (by decide) (by decide) rfl ?_
        refine aw_goto (tgt := 32) dX10_bestByTrying_81 (by decide) ?_
        have e : btF V s leg cost best (u + 1) = btF V s leg cost best u := by show (if bitN s u = 1 then _ else _) = _; rw [if_pos d_1]
        refine aw_sub [(6, .int (nI (u + 1))), (5, .int (nI (btF V s leg cost best (u + 1)))), (0, .ref o), (1, .int (nI leg)), (2, .int (nI s)), (3, .int (nI cost)), (4, .int (nI best))] (by rw [e]; simp) ?_
        exact ih _ (by omega) (u + 1) rfl (by omega)
      · have d_1 := (and_0 (by omega) (by omega)).mp c_3
        refine aw_aload_n dX10_bestByTrying_54 rfl rfl ?_
        refine aw_iload_n dX10_bestByTrying_55 rfl rfl ?_
        refine aw_iconst_n 1 dX10_bestByTrying_56 (by decide) ?_
        refine aw_iadd_n dX10_bestByTrying_57 ?_
        refine aw_iload_n dX10_bestByTrying_58 rfl rfl ?_
        refine aw_iload dX10_bestByTrying_59 rfl ?_
        refine aw_or (a := s) (k := u) (by omega) (by omega) dX10_bestByTrying_61 (fun hor_4 => ?_)
        refine aw_iload_n dX10_bestByTrying_62 rfl rfl ?_
        refine aw_aload_n dX10_bestByTrying_63 rfl rfl ?_
        refine aw_iload dX10_bestByTrying_64 rfl ?_
        refine aw_iload_n dX10_bestByTrying_66 rfl rfl ?_
        refine aw_vI (as := [Value.int (nI u), Value.int (nI leg)]) (rest := [Value.int (nI cost), Value.int (nI (s ||| 2 ^ u)), Value.int (nI (leg + 1)), Value.ref o]) mV_X8_misfit (s_misfit hS hB (k := u) (j := leg) (by omega) (by omega)) ml_X10_422 sU_0 rfl dX10_bestByTrying_67 rfl rfl (by omega) (Nat.le_of_ble_eq_true rfl) (by decide) ?_
        refine aw_iadd_n dX10_bestByTrying_70 ?_
        refine aw_iload dX10_bestByTrying_71 rfl ?_
        refine aw_sI (as := [Value.ref o, Value.int (nI (leg + 1)), Value.int (nI (s ||| 2 ^ u)), Value.int (nI (cost + (apart (perN (V (4 + u))) (V (42 + leg))))), Value.int (nI (btF V s leg cost best u))]) (rest := []) mS_X10_bestByTrying (hrec u _ _ (by omega) d_1 (by omega) (by omega)) ml_X10_237 dX10_bestByTrying_73 rfl rfl (by omega) (Nat.le_of_ble_eq_true rfl) (by decide) ?_
        refine aw_istore (L' := [(5, .int (nI (min (btF V s leg cost best u) (cost + apart (perN (V (4 + u))) (V (42 + leg)) + lsT V (s ||| 2 ^ u))))), (7, .int (nI (2 ^ u))), (6, .int (nI u)), (0, .ref o), (1, .int (nI leg)), (2, .int (nI s)), (3, .int (nI cost)), (4, .int (nI best))]) dX10_bestByTrying_76 (by decide) rfl ?_
        refine aw_iinc_n (L' := [(6, .int (nI (u + 1))), (5, .int (nI (min (btF V s leg cost best u) (cost + apart (perN (V (4 + u))) (V (42 + leg)) + lsT V (s ||| 2 ^ u))))), (7, .int (nI (2 ^ u))), (0, .ref o), (1, .int (nI leg)), (2, .int (nI s)), (3, .int (nI cost)), (4, .int (nI best))]) 1 dX10_bestByTrying_78 rfl (by decide) (by decide) rfl ?_
        refine aw_goto (tgt := 32) dX10_bestByTrying_81 (by decide) ?_
        have e : btF V s leg cost best (u + 1) = min (btF V s leg cost best u) (cost + apart (perN (V (4 + u))) (V (42 + leg)) + lsT V (s ||| 2 ^ u)) := by show (if bitN s u = 1 then _ else _) = _; rw [if_neg d_1]; unfold cwM; rw [if_neg d_1, Nat.add_assoc]
        refine aw_sub [(6, .int (nI (u + 1))), (5, .int (nI (btF V s leg cost best (u + 1)))), (0, .ref o), (1, .int (nI leg)), (2, .int (nI s)), (3, .int (nI cost)), (4, .int (nI best))] (by rw [e]; simp) ?_
        exact ih _ (by omega) (u + 1) rfl (by omega)
set_option maxHeartbeats 4000000 in
theorem g_best_st {l : Launch} {G : GT} {n : Nat} {f : HT} {o : Nat} {J : Nat → Int32} {B : Nat → Nat → Int32} {K : Nat} {V : Nat → Nat} (hS : SV J B V) (hB : VB K V) {fr lo fr2 lo2 leg s cost best : Nat} (hf : fr2 + 1 ≤ fr) (hlo : 27 + lo2 ≤ lo) (hf2 : 2 ≤ fr) (hlo2 : 100 ≤ lo) (h32 : V 3 ≤ V 2) (hs : s < 256) (hm : memN s = leg) (hcs : cost ≤ 60 * leg) (hbs : best ≤ 1000000) (hlg : leg ≤ V 3) (hrec : leg < V 3 → ∀ k cost' found, k < V 2 → bitN s k ≠ 1 → cost' ≤ 60 * (leg + 1) → found ≤ 1000000 → AM l G yX10_bestByTrying (.code yX10_bestByTrying cX10_bestByTrying 8 (some .int)) fr2 lo2 0 0 [.ref o, .int (nI (leg + 1)), .int (nI (s ||| 2 ^ k)), .int (nI cost'), .int (nI found)] (sU f o J B) n (rI (nI (min found (cost' + lsT V (s ||| 2 ^ k)))) (sU f o J B) n)) : AM l G yX10_bestByTrying (.code yX10_bestByTrying cX10_bestByTrying 8 (some .int)) fr lo 0 0 [.ref o, .int (nI leg), .int (nI s), .int (nI cost), .int (nI best)] (sU f o J B) n (rI (nI (min best (cost + lsT V s))) (sU f o J B) n) := by
  refine aw_enter (M := MX10_bestByTrying) rfl rfl (by decide +kernel) rfl (Nat.le_of_ble_eq_true rfl) ?_
  have hcnt := VB.cnt hB
  have hleg := VB.legs hB
  have hfr := VB.fric hB
  have hnow := VB.now hB
  have hkk := VB.kk hB
  have hl0 : leg = V 3 → lsT V s = 0 := fun z => by rw [ls_at hs]; unfold valN; rw [if_pos (by omega)]
  show AW l G MX10_bestByTrying fr lo 0 0 _ n 0 0 0 [(0, .ref o), (1, .int (nI leg)), (2, .int (nI s)), (3, .int (nI cost)), (4, .int (nI best))] [] _ n
  refine aw_iload_n dX10_bestByTrying_0 rfl rfl ?_
  refine aw_iload dX10_bestByTrying_1 rfl ?_
  refine aw_icmp_lt_n (by omega) (by omega) (tgt := 9) dX10_bestByTrying_3 (by decide) (fun c_1 => ?_) (fun c_1 => ?_)
  · refine aw_iload_n dX10_bestByTrying_9 rfl rfl ?_
    refine aw_aload_n dX10_bestByTrying_10 rfl rfl ?_
    refine aw_get (v := .int (nI (V 3))) fl_X10_221 sU_0 (congrArg (fun z => some (Value.int z)) hS.leg) dX10_bestByTrying_11 ?_
    refine aw_icmp_ge_n (by omega) (by omega) (tgt := 23) dX10_bestByTrying_14 (by decide) (fun c_2 => ?_) (fun c_2 => ?_)
    · have hl1 := hl0 (by omega)
      refine aw_iload_n dX10_bestByTrying_23 rfl rfl ?_
      exact aw_iret rfl (by decide) (by decide) dX10_bestByTrying_24 (rI_of (by rw [hl1, Nat.add_zero, Nat.min_eq_right (by omega)]))
    · refine aw_iload_n dX10_bestByTrying_17 rfl rfl ?_
      refine aw_bipush_n 6 dX10_bestByTrying_18 (by decide) ?_
      refine aw_icmp_lt_n (by omega) (by omega) (tgt := 25) dX10_bestByTrying_20 (by decide) (fun c_3 => ?_) (fun c_3 => by exfalso; omega)
      refine aw_iload dX10_bestByTrying_25 rfl ?_
      refine aw_istore (L' := [(5, .int (nI best)), (0, .ref o), (1, .int (nI leg)), (2, .int (nI s)), (3, .int (nI cost)), (4, .int (nI best))]) dX10_bestByTrying_27 (by decide) rfl ?_
      refine aw_iconst_n 0 dX10_bestByTrying_29 (by decide) ?_
      refine aw_istore (L' := [(6, .int (nI 0)), (5, .int (nI best)), (0, .ref o), (1, .int (nI leg)), (2, .int (nI s)), (3, .int (nI cost)), (4, .int (nI best))]) dX10_bestByTrying_30 (by decide) rfl ?_
      exact aw_sub [(6, .int (nI 0)), (5, .int (nI best)), (0, .ref o), (1, .int (nI leg)), (2, .int (nI s)), (3, .int (nI cost)), (4, .int (nI best))] (by simp) (g_best_loop hS hB hf hlo hf2 hlo2 h32 hs hm hcs hbs (by omega) (hrec (by omega)) _ 0 rfl (Nat.zero_le _))
  · refine aw_iload dX10_bestByTrying_6 rfl ?_
    exact aw_iret rfl (by decide) (by decide) dX10_bestByTrying_8 (rI_of (by rw [Nat.min_eq_left (by omega)]))
theorem g_best {l : Launch} {G : GT} {n : Nat} {f : HT} {o : Nat} {J : Nat → Int32} {B : Nat → Nat → Int32} {K : Nat} {V : Nat → Nat} (hS : SV J B V) (hB : VB K V) (h32 : V 3 ≤ V 2) : ∀ d leg s cost best, leg + d = V 3 → s < 256 → memN s = leg → cost ≤ 60 * leg → best ≤ 1000000 →
    AM l G yX10_bestByTrying (.code yX10_bestByTrying cX10_bestByTrying 8 (some .int)) (d + 2) (60 * (d + 2)) 0 0 [.ref o, .int (nI leg), .int (nI s), .int (nI cost), .int (nI best)] (sU f o J B) n (rI (nI (min best (cost + lsT V s))) (sU f o J B) n) := by
  intro d
  induction d with
  | zero =>
    intro leg s cost best h1 h2 h3 h4 h5
    exact g_best_st (fr2 := 0) (lo2 := 0) hS hB (by omega) (by omega) (by omega) (by omega) h32 h2 h3 h4 h5 (by omega) (fun h => by omega)
  | succ d ih =>
    intro leg s cost best h1 h2 h3 h4 h5
    have hc := hB.cnt
    exact g_best_st (fr2 := d + 2) (lo2 := 60 * (d + 2)) hS hB (by omega) (by omega) (by omega) (by omega) h32 h2 h3 h4 h5 (by omega) (fun h k c' fd hk hb h6 h7 => ih (leg + 1) (s ||| 2 ^ k) c' fd (by omega) (or_lt h2 (by omega)) (by rw [mem_or h2 (by omega) hb, h3]) h6 h7)
