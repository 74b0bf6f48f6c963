theorem nx_eq {V : Nat → Nat} {k : Nat} (hp : 0 < perN (V (4 + k))) (hs : V (20 + k) ≤ V 0) : nxN V k = V (20 + k) + (untilN V k (V 0) + 1) * perN (V (4 + k)) := by
  have h1 := Nat.div_add_mod (V 0 - V (20 + k)) (perN (V (4 + k)))
  have h2 := Nat.mod_lt (V 0 - V (20 + k)) hp
  unfold nxN untilN
  generalize (V 0 - V (20 + k)) % perN (V (4 + k)) = r at *
  generalize (V 0 - V (20 + k)) / perN (V (4 + k)) = q at *
  rw [Nat.add_mul, Nat.one_mul, Nat.mul_comm q]
  omega
theorem last_eq {V : Nat → Nat} {k L : Nat} (hp : 0 < perN (V (4 + k))) (hs : V (20 + k) ≤ V 0) (hL : 1 ≤ L) : nxN V k + (L - 1) * perN (V (4 + k)) = V (20 + k) + (untilN V k (V 0) + L) * perN (V (4 + k)) := by
  rw [nx_eq hp hs, Nat.add_assoc, ← Nat.add_mul, show untilN V k (V 0) + 1 + (L - 1) = untilN V k (V 0) + L by omega]
theorem nx_gt {V : Nat → Nat} {k : Nat} (hp : 0 < perN (V (4 + k))) : V 0 + 1 ≤ nxN V k ∧ nxN V k ≤ V 0 + perN (V (4 + k)) := by
  have h2 := Nat.mod_lt (V 0 - V (20 + k)) hp
  unfold nxN
  omega
theorem tick_iff {V : Nat → Nat} {k i t : Nat} (hp : 0 < perN (V (4 + k))) (hs : V (20 + k) ≤ V 0) : nxN V k - V 0 + i * perN (V (4 + k)) ≤ t ↔ i < untilN V k (V 0 + t) - untilN V k (V 0) := by
  have h1 := nx_eq hp hs
  have h2 := nx_gt (V := V) hp
  have h3 : i + untilN V k (V 0) + 1 ≤ untilN V k (V 0 + t) ↔ (i + untilN V k (V 0) + 1) * perN (V (4 + k)) ≤ V 0 + t - V (20 + k) := by
    unfold untilN
    exact Nat.le_div_iff_mul_le hp
  have h4 : (i + untilN V k (V 0) + 1) * perN (V (4 + k)) = (untilN V k (V 0) + 1) * perN (V (4 + k)) + i * perN (V (4 + k)) := by rw [← Nat.add_mul]; congr 1; omega
  rw [h4] at h3
  omega
def FFo (f : HT) (o r : Nat) (J : Nat → Int32) (B : Nat → Nat → Int32) (V : Nat → Nat) (x : Option Value) (n : Nat) : PT := fun y f' n' => y = .inl x ∧ n' = n ∧ ∃ T' : Nat → Int32, f' = sU (kU 1 61 f r T') o J B ∧ ∀ i, i < 61 → T' i = nI (leftN (V 1) i)
abbrev MX1_swingsOneByOne : MT := (RX1, cX1_swingsOneByOne, 5, (some .int), [], "swingsOneByOne")
set_option maxHeartbeats 4000000 in
theorem f_one_loop {l : Launch} {G : GT} {n : Nat} {f : HT} {o : Nat} {J : Nat → Int32} {B : Nat → Nat → Int32} {K : Nat} {V : Nat → Nat} (hS : SV J B V) (hB : VB K V) {r : Nat} {k : Nat} : ∀ (N : Nat) (a c : Nat), (a = N) → (c + a ≤ 60) → AW l G MX1_swingsOneByOne 2 120 0 0 (rI (nI (c + leftN (V 1) a)) (sU f o J B) n) n 0 0 9 [(4, .int (nI c)), (3, .int (nI a)), (0, .ref r), (1, .ref o), (2, .int (nI k))] [] (sU f o J B) n := by
  intro N
  induction N using Nat.strongRecOn with
  | ind N ih =>
    intro a c hN ha
    have hcnt := VB.cnt hB
    have hleg := VB.legs hB
    have hfr := VB.fric hB
    have hnow := VB.now hB
    have hkk := VB.kk hB
    refine aw_iload_n dX1_swingsOneByOne_9 rfl rfl ?_
    refine aw_if_le_n (by omega) (tgt := 32) dX1_swingsOneByOne_10 (by decide) (fun c_1 => ?_) (fun c_1 => ?_)
    · refine aw_iload dX1_swingsOneByOne_32 rfl ?_
      exact aw_iret rfl (by decide) (by decide) dX1_swingsOneByOne_34 (rI_of (by rw [show a = 0 by omega, left_0]; rfl))
    · refine aw_iload dX1_swingsOneByOne_13 rfl ?_
      refine aw_bipush_n 60 dX1_swingsOneByOne_15 (by decide) ?_
      refine aw_icmp_ge_n (by omega) (by omega) (tgt := 32) dX1_swingsOneByOne_17 (by decide) (fun c_2 => ?_) (fun c_2 => ?_)
      · refine aw_iload dX1_swingsOneByOne_32 rfl ?_
        exact aw_iret rfl (by decide) (by decide) dX1_swingsOneByOne_34 (rI_of (by rw [show a = 0 by omega, left_0]; rfl))
      · refine aw_aload_n dX1_swingsOneByOne_20 rfl rfl ?_
        refine aw_iload_n dX1_swingsOneByOne_21 rfl rfl ?_
        refine aw_vI (as := [Value.int (nI a)]) (rest := []) mV_X8_afterSwing (s_after hS hB (a := a) (by omega) (by omega)) ml_X1_21 sU_0 rfl dX1_swingsOneByOne_22 rfl rfl (by decide) (Nat.le_of_ble_eq_true rfl) (by decide) ?_
        have hsw := swN_lt (fr := V 1) (a := a) (by omega)
        refine aw_istore_n (L' := [(3, .int (nI (swN (V 1) a))), (4, .int (nI c)), (0, .ref r), (1, .ref o), (2, .int (nI k))]) dX1_swingsOneByOne_25 rfl (by decide) rfl ?_
        refine aw_iinc_n (L' := [(4, .int (nI (c + 1))), (3, .int (nI (swN (V 1) a))), (0, .ref r), (1, .ref o), (2, .int (nI k))]) 1 dX1_swingsOneByOne_26 rfl (by decide) (by decide) rfl ?_
        refine aw_goto (tgt := 9) dX1_swingsOneByOne_29 (by decide) ?_
        rw [left_s (by omega), show c + (1 + leftN (V 1) (swN (V 1) a)) = (c + 1) + leftN (V 1) (swN (V 1) a) by omega]
        refine aw_sub [(4, .int (nI (c + 1))), (3, .int (nI (swN (V 1) a))), (0, .ref r), (1, .ref o), (2, .int (nI k))] (by simp) ?_
        exact ih _ (by omega) _ (c + 1) rfl (by omega)
set_option maxHeartbeats 4000000 in
theorem f_one {l : Launch} {G : GT} {n : Nat} {f : HT} {o : Nat} {J : Nat → Int32} {B : Nat → Nat → Int32} {K : Nat} {V : Nat → Nat} (hS : SV J B V) (hB : VB K V) {r : Nat} {k : Nat} (hk : k < V 2) : AM l G yX1_swingsOneByOne (.code yX1_swingsOneByOne cX1_swingsOneByOne 5 (some .int)) 2 120 0 0 [.ref r, .ref o, .int (nI k)] (sU f o J B) n (rI (nI (leftN (V 1) (V (12 + k)))) (sU f o J B) n) := by
  refine aw_enter (M := MX1_swingsOneByOne) rfl rfl (by decide +kernel) rfl (Nat.le_of_ble_eq_true rfl) ?_
  have hcnt := VB.cnt hB
  have hleg := VB.legs hB
  have hfr := VB.fric hB
  have hnow := VB.now hB
  have hkk := VB.kk hB
  have haxk := VB.amp hB (k := k) (by omega)
  have hsxk := VB.start hB (k := k) (by omega)
  have hlxk := VB.len hB (k := k) (by omega)
  have hl1k := VB.len1 hB (k := k) (by omega)
  have hwxk := VB.sw hB (k := k) (by omega)
  have hppk := per_pos hl1k
  have hplk := per_le hlxk
  show AW l G MX1_swingsOneByOne 2 120 0 0 _ n 0 0 0 [(0, .ref r), (1, .ref o), (2, .int (nI k))] [] _ n
  refine aw_aload_n dX1_swingsOneByOne_0 rfl rfl ?_
  refine aw_iload_n dX1_swingsOneByOne_1 rfl rfl ?_
  refine aw_vI (as := [Value.int (nI k)]) (rest := []) mV_X8_amplitudeAt (s_amp hS hB (k := k) (by omega)) ml_X1_15 sU_0 rfl dX1_swingsOneByOne_2 rfl rfl (by decide) (Nat.le_of_ble_eq_true rfl) (by decide) ?_
  refine aw_istore_n (L' := [(3, .int (nI (V (12 + k)))), (0, .ref r), (1, .ref o), (2, .int (nI k))]) dX1_swingsOneByOne_5 rfl (by decide) rfl ?_
  refine aw_iconst_n 0 dX1_swingsOneByOne_6 (by decide) ?_
  refine aw_istore (L' := [(4, .int (nI 0)), (3, .int (nI (V (12 + k)))), (0, .ref r), (1, .ref o), (2, .int (nI k))]) dX1_swingsOneByOne_7 (by decide) rfl ?_
  have h := f_one_loop (l := l) (G := G) (n := n) (f := f) (o := o) (r := r) (k := k) hS hB _ (V (12 + k)) 0 rfl (by omega)
  rw [Nat.zero_add] at h
  exact aw_sub [(4, .int (nI 0)), (3, .int (nI (V (12 + k)))), (0, .ref r), (1, .ref o), (2, .int (nI k))] (by simp) h
abbrev MX1_tableAt : MT := (RX1, cX1_tableAt, 2, (some .int), [], "tableAt")
set_option maxHeartbeats 4000000 in
theorem f_at {l : Launch} {G : GT} {n : Nat} {H : HT} {r : Nat} {T : Nat → Int32} (h0 : H r = .inr (1, [.ref (r + 1)])) (h1 : H (r + 1) = .inl (0, (61, .inl T))) {i : Nat} (hi : i < 61) : AM l G yX1_tableAt (.code yX1_tableAt cX1_tableAt 2 (some .int)) 0 0 0 0 [.ref r, .int (nI i)] (H) n (rI (T i) H n) := by
  refine aw_enter (M := MX1_tableAt) rfl rfl (by decide +kernel) rfl (Nat.le_of_ble_eq_true rfl) ?_
  show AW l G MX1_tableAt 0 0 0 0 _ n 0 0 0 [(0, .ref r), (1, .int (nI i))] [] _ n
  refine aw_iload_n dX1_tableAt_0 rfl rfl ?_
  refine aw_if_lt_n (by omega) (tgt := 22) dX1_tableAt_1 (by decide) ?_
  refine aw_iload_n dX1_tableAt_4 rfl rfl ?_
  refine aw_aload_n dX1_tableAt_5 rfl rfl ?_
  refine aw_get (v := .ref (r + 1)) fl_X1_9 h0 rfl dX1_tableAt_6 ?_
  refine aw_alen (N := 0) (x := nilc) (ty := .int) (v := nI 61) h1 rfl rfl dX1_tableAt_9 ?_
  refine aw_icmp_ge_n (by omega) (by omega) (tgt := 22) dX1_tableAt_10 (by decide) (fun c_2 => by exfalso; omega) (fun c_2 => ?_)
  refine aw_aload_n dX1_tableAt_13 rfl rfl ?_
  refine aw_get (v := .ref (r + 1)) fl_X1_9 h0 rfl dX1_tableAt_14 ?_
  refine aw_iload_n dX1_tableAt_17 rfl rfl ?_
  refine aw_iald_n (k := i) (v := (T i)) h1 (by omega) (by decide) rfl dX1_tableAt_18 ?_
  refine aw_goto (tgt := 23) dX1_tableAt_19 (by decide) ?_
  exact aw_iret rfl (by decide) (by decide) dX1_tableAt_23 (rI_of (by rfl))
abbrev MX1_fillTable : MT := (RX1, cX1_fillTable, 3, none, [], "fillTable")
set_option maxHeartbeats 4000000 in
theorem f_fill_loop {l : Launch} {G : GT} {n : Nat} {f : HT} {o r : Nat} {J : Nat → Int32} {B : Nat → Nat → Int32} {K : Nat} {V : Nat → Nat} (hd : r + 2 ≤ o ∨ o + 9 ≤ r) (hS : SV J B V) (hB : VB K V) : ∀ (N : Nat) (a : Nat) (T : Nat → Int32), (61 - a = N) → (1 ≤ a) → (a ≤ 61) → (∀ i, i < a → T i = nI (leftN (V 1) i)) → AW l G MX1_fillTable 2 120 0 0 (FFo f o r J B V none n) n 0 0 9 [(2, .int (nI a)), (0, .ref r), (1, .ref o)] [] (sU (kU 1 61 f r T) o J B) n := by
  intro N
  induction N using Nat.strongRecOn with
  | ind N ih =>
    intro a T hN ha1 ha hT
    have hcnt := VB.cnt hB
    have hleg := VB.legs hB
    have hfr := VB.fric hB
    have hnow := VB.now hB
    have hkk := VB.kk hB
    refine aw_iload_n dX1_fillTable_9 rfl rfl ?_
    refine aw_aload_n dX1_fillTable_10 rfl rfl ?_
    refine aw_get (v := .ref (r + 1)) fl_X1_9 (sk_0 hd) rfl dX1_fillTable_11 ?_
    refine aw_alen (N := 0) (x := nilc) (ty := .int) (v := nI 61) (sk_1 hd) rfl rfl dX1_fillTable_14 ?_
    refine aw_icmp_ge_n (by omega) (by omega) (tgt := 41) dX1_fillTable_15 (by decide) (fun c_1 => ?_) (fun c_1 => ?_)
    · exact aw_vret rfl (by decide) (by decide) dX1_fillTable_41 ⟨rfl, rfl, T, rfl, fun i hi => hT i (by omega)⟩
    · refine aw_aload_n dX1_fillTable_18 rfl rfl ?_
      refine aw_get (v := .ref (r + 1)) fl_X1_9 (sk_0 hd) rfl dX1_fillTable_19 ?_
      refine aw_iload_n dX1_fillTable_22 rfl rfl ?_
      refine aw_iconst_n 1 dX1_fillTable_23 (by decide) ?_
      refine aw_aload_n dX1_fillTable_24 rfl rfl ?_
      refine aw_aload_n dX1_fillTable_25 rfl rfl ?_
      refine aw_iload_n dX1_fillTable_26 rfl rfl ?_
      refine aw_vI (as := [Value.int (nI a)]) (rest := [Value.ref r, Value.int (nI 1), Value.int (nI a), Value.ref (r + 1)]) mV_X8_afterSwing (s_after hS hB (a := a) (by omega) (by omega)) ml_X1_21 sU_0 rfl dX1_fillTable_27 rfl rfl (by decide) (Nat.le_of_ble_eq_true rfl) (by decide) ?_
      have hsw := swN_lt (fr := V 1) (a := a) (by omega)
      refine aw_vI (as := [Value.int (nI (swN (V 1) a))]) (rest := [Value.int (nI 1), Value.int (nI a), Value.ref (r + 1)]) mV_X1_tableAt (f_at (sk_0 hd) (sk_1 hd) (i := swN (V 1) a) (by omega)) ml_X1_28 (sk_0 hd) rfl dX1_fillTable_30 rfl rfl (by decide) (Nat.le_of_ble_eq_true rfl) (by decide) ?_
      rw [hT (swN (V 1) a) (by omega)]
      refine aw_iadd_n dX1_fillTable_33 ?_
      refine aw_iast_n (k := a) (sk_1 hd) (by omega) (by decide) dX1_fillTable_34 ?_
      rw [sk_A hd]
      refine aw_iinc_n (L' := [(2, .int (nI (a + 1))), (0, .ref r), (1, .ref o)]) 1 dX1_fillTable_35 rfl (by decide) (by decide) rfl ?_
      refine aw_goto (tgt := 9) dX1_fillTable_38 (by decide) ?_
      exact ih _ (by omega) (a + 1) _ rfl (by omega) (by omega) (fun i h1 => by
        by_cases hi : i = a
        · subst hi; rw [pk_us, left_s (a := i) (by omega)]
        · rw [pk_un hi]; exact hT i (by omega))
set_option maxHeartbeats 4000000 in
theorem f_fill {l : Launch} {G : GT} {n : Nat} {f : HT} {o r : Nat} {J : Nat → Int32} {B : Nat → Nat → Int32} {T : Nat → Int32} {K : Nat} {V : Nat → Nat} (hd : r + 2 ≤ o ∨ o + 9 ≤ r) (hS : SV J B V) (hB : VB K V) : AM l G yX1_fillTable (.code yX1_fillTable cX1_fillTable 3 none) 2 120 0 0 [.ref r, .ref o] (sU (kU 1 61 f r T) o J B) n (FFo f o r J B V none n) := by
  refine aw_enter (M := MX1_fillTable) rfl rfl (by decide +kernel) rfl (Nat.le_of_ble_eq_true rfl) ?_
  show AW l G MX1_fillTable 2 120 0 0 _ n 0 0 0 [(0, .ref r), (1, .ref o)] [] _ n
  refine aw_aload_n dX1_fillTable_0 rfl rfl ?_
  refine aw_get (v := .ref (r + 1)) fl_X1_9 (sk_0 hd) rfl dX1_fillTable_1 ?_
  refine aw_iconst_n 0 dX1_fillTable_4 (by decide) ?_
  refine aw_iconst_n 0 dX1_fillTable_5 (by decide) ?_
  refine aw_iast_n (k := 0) (sk_1 hd) (by omega) (by decide) dX1_fillTable_6 ?_
  rw [sk_A hd]
  refine aw_iconst_n 1 dX1_fillTable_7 (by decide) ?_
  refine aw_istore_n (L' := [(2, .int (nI 1)), (0, .ref r), (1, .ref o)]) dX1_fillTable_8 rfl (by decide) rfl ?_
  exact f_fill_loop hd hS hB _ 1 _ rfl (by decide) (by decide) (fun i h1 => by rw [show i = 0 by omega]; exact (pk_us).trans (congrArg nI left_0.symm))
abbrev MX1_swingsFromTable : MT := (RX1, cX1_swingsFromTable, 3, (some .int), [], "swingsFromTable")
set_option maxHeartbeats 4000000 in
theorem f_tab {l : Launch} {G : GT} {n : Nat} {f : HT} {o r : Nat} {J : Nat → Int32} {B : Nat → Nat → Int32} {T : Nat → Int32} {K : Nat} {V : Nat → Nat} (hd : r + 2 ≤ o ∨ o + 9 ≤ r) (hS : SV J B V) (hB : VB K V) {k : Nat} (hk : k < V 2) : AM l G yX1_swingsFromTable (.code yX1_swingsFromTable cX1_swingsFromTable 3 (some .int)) 3 180 0 0 [.ref r, .ref o, .int (nI k)] (sU (kU 1 61 f r T) o J B) n (FFo f o r J B V (some (.int (nI (leftN (V 1) (V (12 + k)))))) n) := by
  refine aw_enter (M := MX1_swingsFromTable) rfl rfl (by decide +kernel) rfl (Nat.le_of_ble_eq_true rfl) ?_
  have hcnt := VB.cnt hB
  have hleg := VB.legs hB
  have hfr := VB.fric hB
  have hnow := VB.now hB
  have hkk := VB.kk hB
  have haxk := VB.amp hB (k := k) (by omega)
  have hsxk := VB.start hB (k := k) (by omega)
  have hlxk := VB.len hB (k := k) (by omega)
  have hl1k := VB.len1 hB (k := k) (by omega)
  have hwxk := VB.sw hB (k := k) (by omega)
  have hppk := per_pos hl1k
  have hplk := per_le hlxk
  show AW l G MX1_swingsFromTable 3 180 0 0 _ n 0 0 0 [(0, .ref r), (1, .ref o), (2, .int (nI k))] [] _ n
  refine aw_aload_n dX1_swingsFromTable_0 rfl rfl ?_
  refine aw_aload_n dX1_swingsFromTable_1 rfl rfl ?_
  refine aw_vP (as := [Value.ref o]) (rest := []) mV_X1_fillTable (f_fill hd hS hB) ml_X1_24 (sk_0 hd) rfl dX1_swingsFromTable_2 rfl rfl (by decide) (Nat.le_of_ble_eq_true rfl) (by decide) (fun _ _ _ h => by cases h.1) (fun r9 f9 n9 _ h => ?_)
  obtain ⟨h1, h2, T1, h3, hT1⟩ := h
  cases h1; subst h2; subst h3
  refine aw_aload_n dX1_swingsFromTable_5 rfl rfl ?_
  refine aw_aload_n dX1_swingsFromTable_6 rfl rfl ?_
  refine aw_iload_n dX1_swingsFromTable_7 rfl rfl ?_
  refine aw_vI (as := [Value.int (nI k)]) (rest := [Value.ref r]) mV_X8_amplitudeAt (s_amp hS hB (k := k) (by omega)) ml_X1_15 sU_0 rfl dX1_swingsFromTable_8 rfl rfl (by decide) (Nat.le_of_ble_eq_true rfl) (by decide) ?_
  refine aw_vI (as := [Value.int (nI (V (12 + k)))]) (rest := []) mV_X1_tableAt (f_at (sk_0 hd) (sk_1 hd) (i := V (12 + k)) (by omega)) ml_X1_28 (sk_0 hd) rfl dX1_swingsFromTable_11 rfl rfl (by decide) (Nat.le_of_ble_eq_true rfl) (by decide) ?_
  rw [hT1 _ (by omega)]
  exact aw_iret rfl (by decide) (by decide) dX1_swingsFromTable_14 ⟨rfl, rfl, T1, rfl, hT1⟩
abbrev MX1_lastTick : MT := (RX1, cX1_lastTick, 4, (some .int), [], "lastTick")
set_option maxHeartbeats 4000000 in
theorem f_last {l : Launch} {G : GT} {n : Nat} {f : HT} {o : Nat} {J : Nat → Int32} {B : Nat → Nat → Int32} {K : Nat} {V : Nat → Nat} (hS : SV J B V) (hB : VB K V) {r : Nat} {rs : List Value} (hr : sU f o J B r = .inr (1, rs)) {k : Nat} (hk : k < V 2) (hz : V (12 + k) ≠ 0) : AM l G yX1_lastTick (.code yX1_lastTick cX1_lastTick 4 (some .int)) 3 180 0 0 [.ref r, .ref o, .int (nI k)] (sU f o J B) n (rI (nI (V (20 + k) + (untilN V k (V 0) + leftN (V 1) (V (12 + k))) * perN (V (4 + k)))) (sU f o J B) n) := by
  refine aw_enter (M := MX1_lastTick) rfl rfl (by decide +kernel) rfl (Nat.le_of_ble_eq_true rfl) ?_
  have hcnt := VB.cnt hB
  have hleg := VB.legs hB
  have hfr := VB.fric hB
  have hnow := VB.now hB
  have hkk := VB.kk hB
  have haxk := VB.amp hB (k := k) (by omega)
  have hsxk := VB.start hB (k := k) (by omega)
  have hlxk := VB.len hB (k := k) (by omega)
  have hl1k := VB.len1 hB (k := k) (by omega)
  have hwxk := VB.sw hB (k := k) (by omega)
  have hppk := per_pos hl1k
  have hplk := per_le hlxk
  have hnx8 := nx_gt (V := V) (k := k) (by omega)
  have hll := left_le (fr := V 1) (V (12 + k))
  have hl1x : 1 ≤ leftN (V 1) (V (12 + k)) := by rw [left_s (by omega)]; omega
  show AW l G MX1_lastTick 3 180 0 0 _ n 0 0 0 [(0, .ref r), (1, .ref o), (2, .int (nI k))] [] _ n
  refine aw_aload_n dX1_lastTick_0 rfl rfl ?_
  refine aw_aload_n dX1_lastTick_1 rfl rfl ?_
  refine aw_iload_n dX1_lastTick_2 rfl rfl ?_
  refine aw_vI (as := [Value.ref o, Value.int (nI k)]) (rest := []) mV_X1_swingsOneByOne (f_one hS hB hk) ml_X1_31 hr rfl dX1_lastTick_3 rfl rfl (by decide) (Nat.le_of_ble_eq_true rfl) (by decide) ?_
  refine aw_iconst_n 1 dX1_lastTick_6 (by decide) ?_
  refine aw_isub_n (by omega) dX1_lastTick_7 ?_
  refine aw_istore_n (L' := [(3, .int (nI ((leftN (V 1) (V (12 + k))) - 1))), (0, .ref r), (1, .ref o), (2, .int (nI k))]) dX1_lastTick_8 rfl (by decide) rfl ?_
  refine aw_aload_n dX1_lastTick_9 rfl rfl ?_
  refine aw_iload_n dX1_lastTick_10 rfl rfl ?_
  refine aw_vI (as := [Value.int (nI k)]) (rest := []) mV_X8_nextSwing (s_next hS hB (k := k) (by omega)) ml_X1_35 sU_0 rfl dX1_lastTick_11 rfl rfl (by decide) (Nat.le_of_ble_eq_true rfl) (by decide) ?_
  refine aw_iload_n dX1_lastTick_14 rfl rfl ?_
  refine aw_aload_n dX1_lastTick_15 rfl rfl ?_
  refine aw_iload_n dX1_lastTick_16 rfl rfl ?_
  refine aw_vI (as := [Value.int (nI k)]) (rest := [Value.int (nI ((leftN (V 1) (V (12 + k))) - 1)), Value.int (nI (nxN V k))]) mV_X8_periodAt (s_per hS hB (k := k) (by omega)) ml_X1_38 sU_0 rfl dX1_lastTick_17 rfl rfl (by decide) (Nat.le_of_ble_eq_true rfl) (by decide) ?_
  refine aw_imul_n dX1_lastTick_20 ?_
  refine aw_iadd_n dX1_lastTick_21 ?_
  exact aw_iret rfl (by decide) (by decide) dX1_lastTick_22 (rI_of (by rw [last_eq (by omega) (by omega) hl1x]))
abbrev MX1_laterAmplitude : MT := (RX1, cX1_laterAmplitude, 8, (some .int), [], "laterAmplitude")
set_option maxHeartbeats 4000000 in
theorem f_later_loop {l : Launch} {G : GT} {n : Nat} {f : HT} {o : Nat} {J : Nat → Int32} {B : Nat → Nat → Int32} {K : Nat} {V : Nat → Nat} (hS : SV J B V) (hB : VB K V) {r k t : Nat} (hk : k < V 2) (ht : t ≤ 500) : ∀ (N : Nat) (i a : Nat), (501 - (nxN V k - V 0 + i * perN (V (4 + k))) = N) → (a ≤ 60) → (i * perN (V (4 + k)) ≤ 600) → (swIt (V 1) (untilN V k (V 0 + t) - untilN V k (V 0) - i) a = swIt (V 1) (untilN V k (V 0 + t) - untilN V k (V 0)) (V (12 + k))) → AW l G MX1_laterAmplitude 3 180 0 0 (rI (nI (swIt (V 1) (untilN V k (V 0 + t) - untilN V k (V 0)) (V (12 + k)))) (sU f o J B) n) n 0 0 38 [(7, .int (nI (nxN V k - V 0 + i * perN (V (4 + k))))), (6, .int (nI (nxN V k - V 0))), (5, .int (nI (perN (V (4 + k))))), (4, .int (nI a)), (0, .ref r), (1, .ref o), (2, .int (nI k)), (3, .int (nI t))] [] (sU f o J B) n := by
  intro N
  induction N using Nat.strongRecOn with
  | ind N ih =>
    intro i a hN ha hib he
    have hcnt := VB.cnt hB
    have hleg := VB.legs hB
    have hfr := VB.fric hB
    have hnow := VB.now hB
    have hkk := VB.kk hB
    have haxk := VB.amp hB (k := k) (by omega)
    have hsxk := VB.start hB (k := k) (by omega)
    have hlxk := VB.len hB (k := k) (by omega)
    have hl1k := VB.len1 hB (k := k) (by omega)
    have hwxk := VB.sw hB (k := k) (by omega)
    have hppk := per_pos hl1k
    have hplk := per_le hlxk
    have hnx8 := nx_gt (V := V) (k := k) (by omega)
    have hll := left_le (fr := V 1) (V (12 + k))
    refine aw_iload dX1_laterAmplitude_38 rfl ?_
    refine aw_iload_n dX1_laterAmplitude_40 rfl rfl ?_
    refine aw_icmp_gt_n (by omega) (by omega) (tgt := 67) dX1_laterAmplitude_41 (by decide) (fun c_1 => ?_) (fun c_1 => ?_)
    · refine aw_iload dX1_laterAmplitude_67 rfl ?_
      rw [← he, show untilN V k (V 0 + t) - untilN V k (V 0) - i = 0 from by have := mt (tick_iff (V := V) (k := k) (i := i) (t := t) (by omega) (by omega)).mpr (by omega); omega]
      exact aw_iret rfl (by decide) (by decide) dX1_laterAmplitude_69 (rI_of rfl)
    · refine aw_iload dX1_laterAmplitude_44 rfl ?_
      refine aw_if_le_n (by omega) (tgt := 67) dX1_laterAmplitude_46 (by decide) (fun c_2 => ?_) (fun c_2 => ?_)
      · refine aw_iload dX1_laterAmplitude_67 rfl ?_
        exact aw_iret rfl (by decide) (by decide) dX1_laterAmplitude_69 (rI_of (by rw [← he, show a = 0 by omega, swIt_0]))
      · refine aw_aload_n dX1_laterAmplitude_49 rfl rfl ?_
        refine aw_iload dX1_laterAmplitude_50 rfl ?_
        refine aw_vI (as := [Value.int (nI a)]) (rest := []) mV_X8_afterSwing (s_after hS hB (a := a) (by omega) (by omega)) ml_X1_21 sU_0 rfl dX1_laterAmplitude_52 rfl rfl (by decide) (Nat.le_of_ble_eq_true rfl) (by decide) ?_
        have hsw := swN_lt (fr := V 1) (a := a) (by omega)
        refine aw_istore (L' := [(4, .int (nI (swN (V 1) a))), (7, .int (nI (nxN V k - V 0 + i * perN (V (4 + k))))), (6, .int (nI (nxN V k - V 0))), (5, .int (nI (perN (V (4 + k))))), (0, .ref r), (1, .ref o), (2, .int (nI k)), (3, .int (nI t))]) dX1_laterAmplitude_55 (by decide) rfl ?_
        refine aw_iload dX1_laterAmplitude_57 rfl ?_
        refine aw_iload dX1_laterAmplitude_59 rfl ?_
        refine aw_iadd_n dX1_laterAmplitude_61 ?_
        refine aw_istore (L' := [(7, .int (nI ((nxN V k - V 0 + i * perN (V (4 + k))) + (perN (V (4 + k)))))), (4, .int (nI (swN (V 1) a))), (6, .int (nI (nxN V k - V 0))), (5, .int (nI (perN (V (4 + k))))), (0, .ref r), (1, .ref o), (2, .int (nI k)), (3, .int (nI t))]) dX1_laterAmplitude_62 (by decide) rfl ?_
        refine aw_goto (tgt := 38) dX1_laterAmplitude_64 (by decide) ?_
        have e9 : (i + 1) * perN (V (4 + k)) = i * perN (V (4 + k)) + perN (V (4 + k)) := by rw [Nat.add_mul, Nat.one_mul]
        have h9 := (tick_iff (V := V) (k := k) (i := i) (t := t) (by omega) (by omega)).mp (by omega)
        refine aw_sub [(7, .int (nI (nxN V k - V 0 + (i + 1) * perN (V (4 + k))))), (6, .int (nI (nxN V k - V 0))), (5, .int (nI (perN (V (4 + k))))), (4, .int (nI (swN (V 1) a))), (0, .ref r), (1, .ref o), (2, .int (nI k)), (3, .int (nI t))] (by rw [e9]; simp [Nat.add_assoc]) ?_
        exact ih _ (by omega) (i + 1) _ rfl (by omega) (by omega) (by rw [← he, show untilN V k (V 0 + t) - untilN V k (V 0) - i = (untilN V k (V 0 + t) - untilN V k (V 0) - (i + 1)) + 1 by omega]; rfl)
set_option maxHeartbeats 4000000 in
theorem f_later {l : Launch} {G : GT} {n : Nat} {f : HT} {o : Nat} {J : Nat → Int32} {B : Nat → Nat → Int32} {K : Nat} {V : Nat → Nat} (hS : SV J B V) (hB : VB K V) {r k t : Nat} (hk : k < V 2) (ht : t ≤ 500) : AM l G yX1_laterAmplitude (.code yX1_laterAmplitude cX1_laterAmplitude 8 (some .int)) 3 180 0 0 [.ref r, .ref o, .int (nI k), .int (nI t)] (sU f o J B) n (rI (nI (afterN V k t)) (sU f o J B) n) := by
  refine aw_enter (M := MX1_laterAmplitude) rfl rfl (by decide +kernel) rfl (Nat.le_of_ble_eq_true rfl) ?_
  have hcnt := VB.cnt hB
  have hleg := VB.legs hB
  have hfr := VB.fric hB
  have hnow := VB.now hB
  have hkk := VB.kk hB
  have haxk := VB.amp hB (k := k) (by omega)
  have hsxk := VB.start hB (k := k) (by omega)
  have hlxk := VB.len hB (k := k) (by omega)
  have hl1k := VB.len1 hB (k := k) (by omega)
  have hwxk := VB.sw hB (k := k) (by omega)
  have hppk := per_pos hl1k
  have hplk := per_le hlxk
  have hnx8 := nx_gt (V := V) (k := k) (by omega)
  have hll := left_le (fr := V 1) (V (12 + k))
  have ea : afterN V k t = swIt (V 1) (untilN V k (V 0 + t) - untilN V k (V 0)) (V (12 + k)) := by
    unfold afterN
    split
    · next z => rw [z, swIt_0]
    · rfl
  rw [ea]
  show AW l G MX1_laterAmplitude 3 180 0 0 _ n 0 0 0 [(0, .ref r), (1, .ref o), (2, .int (nI k)), (3, .int (nI t))] [] _ n
  refine aw_aload_n dX1_laterAmplitude_0 rfl rfl ?_
  refine aw_iload_n dX1_laterAmplitude_1 rfl rfl ?_
  refine aw_vI (as := [Value.int (nI k)]) (rest := []) mV_X8_amplitudeAt (s_amp hS hB (k := k) (by omega)) ml_X1_15 sU_0 rfl dX1_laterAmplitude_2 rfl rfl (by decide) (Nat.le_of_ble_eq_true rfl) (by decide) ?_
  refine aw_istore (L' := [(4, .int (nI (V (12 + k)))), (0, .ref r), (1, .ref o), (2, .int (nI k)), (3, .int (nI t))]) dX1_laterAmplitude_5 (by decide) rfl ?_
  refine aw_aload_n dX1_laterAmplitude_7 rfl rfl ?_
  refine aw_iload_n dX1_laterAmplitude_8 rfl rfl ?_
  refine aw_vI (as := [Value.int (nI k)]) (rest := []) mV_X8_periodAt (s_per hS hB (k := k) (by omega)) ml_X1_38 sU_0 rfl dX1_laterAmplitude_9 rfl rfl (by decide) (Nat.le_of_ble_eq_true rfl) (by decide) ?_
  refine aw_istore (L' := [(5, .int (nI (perN (V (4 + k))))), (4, .int (nI (V (12 + k)))), (0, .ref r), (1, .ref o), (2, .int (nI k)), (3, .int (nI t))]) dX1_laterAmplitude_12 (by decide) rfl ?_
  refine aw_aload_n dX1_laterAmplitude_14 rfl rfl ?_
  refine aw_iload_n dX1_laterAmplitude_15 rfl rfl ?_
  refine aw_vI (as := [Value.int (nI k)]) (rest := []) mV_X8_nextSwing (s_next hS hB (k := k) (by omega)) ml_X1_35 sU_0 rfl dX1_laterAmplitude_16 rfl rfl (by decide) (Nat.le_of_ble_eq_true rfl) (by decide) ?_
  refine aw_aload_n dX1_laterAmplitude_19 rfl rfl ?_
  refine aw_get (v := .int (nI (V 0))) fl_X1_41 sU_0 (congrArg (fun z => some (Value.int z)) hS.now) dX1_laterAmplitude_20 ?_
  refine aw_isub_n (by omega) dX1_laterAmplitude_23 ?_
  refine aw_istore (L' := [(6, .int (nI ((nxN V k) - (V 0)))), (5, .int (nI (perN (V (4 + k))))), (4, .int (nI (V (12 + k)))), (0, .ref r), (1, .ref o), (2, .int (nI k)), (3, .int (nI t))]) dX1_laterAmplitude_24 (by decide) rfl ?_
  refine aw_iload dX1_laterAmplitude_26 rfl ?_
  refine aw_if_gt_n (by omega) (tgt := 34) dX1_laterAmplitude_28 (by decide) (fun c_1 => ?_) (fun c_1 => by exfalso; omega)
  refine aw_iload dX1_laterAmplitude_34 rfl ?_
  refine aw_istore (L' := [(7, .int (nI ((nxN V k) - (V 0)))), (6, .int (nI ((nxN V k) - (V 0)))), (5, .int (nI (perN (V (4 + k))))), (4, .int (nI (V (12 + k)))), (0, .ref r), (1, .ref o), (2, .int (nI k)), (3, .int (nI t))]) dX1_laterAmplitude_36 (by decide) rfl ?_
  exact aw_sub [(7, .int (nI (nxN V k - V 0 + 0 * perN (V (4 + k))))), (6, .int (nI (nxN V k - V 0))), (5, .int (nI (perN (V (4 + k))))), (4, .int (nI (V (12 + k)))), (0, .ref r), (1, .ref o), (2, .int (nI k)), (3, .int (nI t))] (by simp) (f_later_loop hS hB hk ht _ 0 _ rfl (by omega) (by omega) rfl)
