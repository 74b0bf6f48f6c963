/-! the least costs of relays, for all sets of pendulums that already run -/
def cwN (V T : Nat → Nat) (s leg k : Nat) : Nat := if bitN s k = 1 then 100000 else apart (perN (V (4 + k))) (V (42 + leg)) + T (s ||| 2 ^ k)
def minN (V T : Nat → Nat) (s leg : Nat) : Nat → Nat
  | 0 => 100000
  | u + 1 => if cwN V T s leg u < minN V T s leg u then cwN V T s leg u else minN V T s leg u
theorem min_s {V T : Nat → Nat} {s leg u : Nat} : minN V T s leg (u + 1) = if cwN V T s leg u < minN V T s leg u then cwN V T s leg u else minN V T s leg u := rfl
def valN (V T : Nat → Nat) (s : Nat) : Nat := if V 3 ≤ memN s then 0 else minN V T s (memN s) (V 2)
def tabK (V : Nat → Nat) : Nat → Nat → Nat
  | 0 => fun _ => 0
  | k + 1 => va_up (tabK V k) (255 - k) (valN V (tabK V k) (255 - k))
def lsT (V : Nat → Nat) : Nat → Nat := tabK V 256
theorem min_le {V T : Nat → Nat} {s leg : Nat} : ∀ u, minN V T s leg u ≤ 100000 := by
  intro u
  induction u with
  | zero => exact Nat.le_refl _
  | succ u ih => rw [min_s]; split <;> omega
theorem cw_le {V T : Nat → Nat} {s leg k : Nat} (hT : ∀ i, T i ≤ 100000) (h : apart (perN (V (4 + k))) (V (42 + leg)) ≤ 60) : cwN V T s leg k ≤ 100060 := by
  unfold cwN
  have := hT (s ||| 2 ^ k)
  split <;> omega
theorem val_le {V T : Nat → Nat} {s : Nat} : valN V T s ≤ 100000 := by
  unfold valN
  split
  · omega
  · exact min_le _
theorem tab_le {V : Nat → Nat} : ∀ k i, tabK V k i ≤ 100000 := by
  intro k
  induction k with
  | zero => intro i; exact Nat.zero_le _
  | succ k ih =>
    intro i
    show va_up (tabK V k) (255 - k) _ i ≤ _
    by_cases h : i = 255 - k
    · rw [h, up_self]; exact val_le
    · rw [up_ne h]; exact ih i
theorem tab_hi {V : Nat → Nat} {i : Nat} (hi : i < 256) : ∀ k, 256 - i ≤ k → k ≤ 256 → tabK V k i = tabK V (256 - i) i := by
  intro k
  induction k with
  | zero => intro h _; omega
  | succ k ih =>
    intro h1 h2
    rcases Nat.lt_or_ge k (256 - i) with h | h
    · rw [show k + 1 = 256 - i by omega]
    · rw [← ih h (by omega)]
      exact up_ne (by omega)
theorem ls_at {V : Nat → Nat} {s : Nat} (hs : s < 256) : lsT V s = valN V (tabK V (255 - s)) s := by
  unfold lsT
  rw [tab_hi hs 256 (by omega) (Nat.le_refl _), show 256 - s = (255 - s) + 1 by omega]
  show va_up (tabK V (255 - s)) (255 - (255 - s)) (valN V (tabK V (255 - s)) (255 - (255 - s))) s = _
  rw [show 255 - (255 - s) = s by omega, up_self]
theorem cw_eq {V : Nat → Nat} {s leg k : Nat} (hs : s < 256) (hk : k < 8) : cwN V (tabK V (255 - s)) s leg k = cwN V (lsT V) s leg k := by
  unfold cwN
  by_cases h : bitN s k = 1
  · rw [if_pos h, if_pos h]
  · rw [if_neg h, if_neg h]
    have h1 := or_lt hs hk
    have h2 := or_gt hs hk h
    unfold lsT
    rw [tab_hi h1 (255 - s) (by omega) (by omega), tab_hi h1 256 (by omega) (Nat.le_refl _)]
theorem min_at {V T : Nat → Nat} {s leg : Nat} : ∀ u, minN V T s leg u = 100000 ∨ ∃ r, r < u ∧ cwN V T s leg r = minN V T s leg u := by
  intro u
  induction u with
  | zero => exact Or.inl rfl
  | succ u ih =>
    rw [min_s]
    split
    · exact Or.inr ⟨u, Nat.lt_succ_self u, rfl⟩
    · rcases ih with h | ⟨r, h1, h2⟩
      · exact Or.inl h
      · exact Or.inr ⟨r, by omega, h2⟩
theorem min_low {V T : Nat → Nat} {s leg r : Nat} : ∀ u, r < u → minN V T s leg u ≤ cwN V T s leg r := by
  intro u
  induction u with
  | zero => intro h; omega
  | succ u ih =>
    intro h
    rw [min_s]
    by_cases hr : r = u
    · subst hr; split <;> omega
    · have := ih (by omega); split <;> omega
theorem memC_full {s : Nat} : ∀ u, (∀ r, r < u → bitN s r = 1) → memC s u = u := by
  intro u
  induction u with
  | zero => intro _; rfl
  | succ u ih => intro h; unfold memC; rw [ih fun r hr => h r (by omega), h u (Nat.lt_succ_self u)]
theorem memC_mono {s : Nat} : ∀ u w, u ≤ w → memC s u ≤ memC s w := by
  intro u w
  induction w with
  | zero => intro h; have : u = 0 := by omega
            subst this; exact Nat.le_refl _
  | succ w ih =>
    intro h
    by_cases hu : u = w + 1
    · subst hu; exact Nat.le_refl _
    · have := ih (by omega)
      show memC s u ≤ memC s w + bitN s w
      omega
theorem mem_free {s c : Nat} (h : memN s < c) (hc : c ≤ 8) : ∃ r, r < c ∧ bitN s r ≠ 1 := by
  apply Classical.byContradiction
  intro hn
  have h1 := memC_full (s := s) c fun r hr => Classical.byContradiction fun z => hn ⟨r, hr, z⟩
  have h2 := memC_mono (s := s) c 8 hc
  unfold memN at h
  omega
theorem mem_or {s r : Nat} (hs : s < 256) (hr : r < 8) (h : bitN s r ≠ 1) : memN (s ||| 2 ^ r) = memN s + 1 := by
  have key : ∀ r, r < 8 → ∀ s, s < 256 → bitN s r ≠ 1 → memN (s ||| 2 ^ r) = memN s + 1 := by decide +kernel
  exact key r hr s hs h
theorem ls_le {K : Nat} {V : Nat → Nat} (hB : VB K V) (h32 : V 3 ≤ V 2) : ∀ N s, 256 - s = N → s < 256 → memN s ≤ V 3 → lsT V s ≤ 60 * (V 3 - memN s) := by
  intro N
  induction N using Nat.strongRecOn with
  | ind N ih =>
    intro s hN hs hm
    rw [ls_at hs]
    unfold valN
    split
    · exact Nat.zero_le _
    · next h3 =>
      have hc := hB.cnt
      obtain ⟨r, hr, hb⟩ := mem_free (s := s) (c := V 2) (by omega) hc
      have h1 := min_low (V := V) (T := tabK V (255 - s)) (s := s) (leg := memN s) (V 2) hr
      rw [cw_eq hs (by omega)] at h1
      unfold cwN at h1
      rw [if_neg hb] at h1
      have h2 := or_lt hs (show r < 8 by omega)
      have h4 := or_gt hs (show r < 8 by omega) hb
      have h5 := mem_or hs (show r < 8 by omega) hb
      have h6 := ih _ (by omega) (s ||| 2 ^ r) rfl h2 (by omega)
      have hl := hB.len (k := r) (by omega)
      have hp := per_le hl
      have hleg := hB.legs
      have hw := hB.wish (k := memN s) (by omega)
      have ha : apart (perN (V (4 + r))) (V (42 + memN s)) ≤ 60 := by unfold apart; omega
      rw [h5] at h6
      omega
/-- the first pendulum that makes the least cost -/
def frN (V : Nat → Nat) (s leg : Nat) : Nat → Nat → Nat
  | 0, r => r
  | n + 1, r => if cwN V (lsT V) s leg r = lsT V s then r else frN V s leg n (r + 1)
def fstR (V : Nat → Nat) (s leg : Nat) : Nat := frN V s leg (V 2) 0
theorem fr_yes {V : Nat → Nat} {s leg r : Nat} (h : cwN V (lsT V) s leg r = lsT V s) : ∀ n, frN V s leg n r = r := by
  intro n
  cases n with
  | zero => rfl
  | succ n => show (if _ then _ else _) = _; rw [if_pos h]
theorem fr_no {V : Nat → Nat} {s leg r n : Nat} (h : cwN V (lsT V) s leg r ≠ lsT V s) : frN V s leg (n + 1) r = frN V s leg n (r + 1) := by
  show (if _ then _ else _) = _; rw [if_neg h]
theorem ls_ex {K : Nat} {V : Nat → Nat} (hB : VB K V) (h32 : V 3 ≤ V 2) {s : Nat} (hs : s < 256) (hm : memN s < V 3) : ∃ r, r < V 2 ∧ cwN V (lsT V) s (memN s) r = lsT V s := by
  have h1 := ls_le hB h32 _ s rfl hs (by omega)
  have hl := hB.legs
  have hc := hB.cnt
  have e : lsT V s = minN V (tabK V (255 - s)) s (memN s) (V 2) := by rw [ls_at hs]; unfold valN; rw [if_neg (by omega)]
  rcases min_at (V := V) (T := tabK V (255 - s)) (s := s) (leg := memN s) (V 2) with h | ⟨r, hr, h⟩
  · rw [← e] at h; omega
  · exact ⟨r, hr, by rw [← cw_eq hs (by omega), h, e]⟩
/-- the runner found is a pendulum that doesn't run yet -/
theorem fst_ok {K : Nat} {V : Nat → Nat} (hB : VB K V) (h32 : V 3 ≤ V 2) {s : Nat} (hs : s < 256) (hm : memN s < V 3) : fstR V s (memN s) < V 2 ∧ bitN s (fstR V s (memN s)) ≠ 1 ∧ cwN V (lsT V) s (memN s) (fstR V s (memN s)) = lsT V s ∧ ∀ r, r < fstR V s (memN s) → cwN V (lsT V) s (memN s) r ≠ lsT V s := by
  obtain ⟨r0, hr0, h0⟩ := ls_ex hB h32 hs hm
  have key : ∀ n r, r + n = V 2 → r ≤ r0 → (∀ j, j < r → cwN V (lsT V) s (memN s) j ≠ lsT V s) → frN V s (memN s) n r < V 2 ∧ cwN V (lsT V) s (memN s) (frN V s (memN s) n r) = lsT V s ∧ ∀ j, j < frN V s (memN s) n r → cwN V (lsT V) s (memN s) j ≠ lsT V s := by
    intro n
    induction n with
    | zero => intro r h1 h2 _; omega
    | succ n ih =>
      intro r h1 h2 h3
      by_cases h : cwN V (lsT V) s (memN s) r = lsT V s
      · rw [fr_yes h]; exact ⟨by omega, h, h3⟩
      · rw [fr_no h]
        have hne : r ≠ r0 := fun z => h (z ▸ h0)
        exact ih (r + 1) (by omega) (by omega) fun j hj => by
          by_cases hjr : j = r
          · rw [hjr]; exact h
          · exact h3 j (by omega)
  obtain ⟨k1, k2, k3⟩ := key (V 2) 0 (by omega) (Nat.zero_le _) (fun j hj => by omega)
  refine ⟨k1, fun hb => ?_, k2, k3⟩
  have h1 := ls_le hB h32 _ s rfl hs (by omega)
  have hl := hB.legs
  unfold fstR at hb
  have h2 := k2
  unfold cwN at h2
  rw [if_pos hb] at h2
  omega
/-- the sets of runners, leg by leg -/
def setR (V : Nat → Nat) : Nat → Nat
  | 0 => 0
  | k + 1 => setR V k ||| 2 ^ fstR V (setR V k) k
theorem set_ok {K : Nat} {V : Nat → Nat} (hB : VB K V) (h32 : V 3 ≤ V 2) : ∀ k, k ≤ V 3 → setR V k < 256 ∧ memN (setR V k) = k := by
  intro k
  induction k with
  | zero => intro _; exact ⟨(by decide : 0 < 256), (by decide : memN 0 = 0)⟩
  | succ k ih =>
    intro h
    obtain ⟨h1, h2⟩ := ih (by omega)
    have h3 := fst_ok hB h32 h1 (by rw [h2]; omega)
    rw [h2] at h3
    have hc := hB.cnt
    exact ⟨or_lt h1 (by omega), by show memN (setR V k ||| 2 ^ fstR V (setR V k) k) = _; rw [mem_or h1 (by omega) h3.2.1, h2]⟩
def qRelay (V : Nat → Nat) : Nat × Nat := if V 2 < V 3 then (1, 0) else (0, lsT V 0)
def qRunner (V : Nat → Nat) (v : Int32) : Nat × Nat := if isK v (V 3) = true then (if V 2 < V 3 then (2, 0) else (0, fstR V (setR V v.toNatClampNeg) v.toNatClampNeg)) else (1, 0)
def RLs (f : HT) (o : Nat) (I : Nat → Int32) (A : Nat → Nat → Int32) (q : Nat × Nat) (n : Nat) : PT := fun r f' n' => r = .inl (some (.int (nI q.2))) ∧ n' = n ∧ ∃ A' : Nat → Nat → Int32, f' = mU f o (va_up I 12 (nI q.1)) A' ∧ ∀ j, j ≠ 6 → A' j = A j
def FLs (f : HT) (o : Nat) (I : Nat → Int32) (A : Nat → Nat → Int32) (V : Nat → Nat) (n : Nat) : PT := fun r f' n' => r = .inl none ∧ n' = n ∧ ∃ A' : Nat → Nat → Int32, f' = mU f o I A' ∧ (∀ i, i < 256 → A' 6 i = nI (lsT V i)) ∧ ∀ j, j ≠ 6 → A' j = A j
theorem m1_n {k : Nat} (h : 1 ≤ k) : nI k - nI 1 = nI (k - 1) := pk_sub h
theorem m1_neg {k : Nat} (hk : k < 1000) : nI k - nI 1 < 0 ↔ k = 0 := by
  have h := pk_sub_toInt (a := k) (b := 1) (by omega) (by decide)
  rw [Int32.lt_iff_toInt_lt, h, Int32.toInt_zero]; omega
theorem RLs_of {f : HT} {o n c x : Nat} {I : Nat → Int32} {A A' : Nat → Nat → Int32} {q : Nat × Nat} (hq : q = (c, x)) (h8 : ∀ j, j ≠ 6 → A' j = A j) : RLs f o I A q n (.inl (some (.int (nI x)))) (mU f o (va_up I 12 (nI c)) A') n := by
  subst hq
  exact ⟨rfl, rfl, A', rfl, h8⟩
abbrev MX11_costWith : MT := (RX11, cX11_costWith, 5, (some .int), [], "costWith")
set_option maxHeartbeats 4000000 in
theorem m_cost {l : Launch} {G : GT} {n : Nat} {f : HT} {o : Nat} {I : Nat → Int32} {A : Nat → Nat → Int32} {K : Nat} {V : Nat → Nat} (hA : Mok A V) (hB : VB K V) {T : Nat → Nat} {s leg k : Nat} (hs : s < 256) (hl6 : leg < 6) (hk : k < V 2) (hT : bitN s k ≠ 1 → A 6 (s ||| 2 ^ k) = nI (T (s ||| 2 ^ k))) (hTl : ∀ i, T i ≤ 100000) : AM l G yX11_costWith (.code yX11_costWith cX11_costWith 5 (some .int)) 1 60 0 0 [.ref o, .int (nI s), .int (nI leg), .int (nI k)] (mU f o I A) n (rI (nI (cwN V T s leg k)) (mU f o I A) n) := by
  refine aw_enter (M := MX11_costWith) rfl rfl (by decide +kernel) rfl (Nat.le_of_ble_eq_true rfl) ?_
  have hcnt := VB.cnt hB
  have hleg := VB.legs hB
  have hfr := VB.fric hB
  have hnow := VB.now hB
  have hkk := VB.kk hB
  have hax := VB.amp hB (k := k) (by omega)
  have hlx := VB.len hB (k := k) (by omega)
  have hl1 := VB.len1 hB (k := k) (by omega)
  have hsx := VB.start hB (k := k) (by omega)
  have hwx := VB.sw hB (k := k) (by omega)
  have hnx := nIc (show k < 2 ^ 31 by omega)
  have hpp := per_pos hl1
  have hpl := per_le hlx
  have hwl := VB.wish hB (k := leg) hl6
  have hap : apart (perN (V (4 + k))) (V (42 + leg)) ≤ 60 := by unfold apart; omega
  have hto := hTl (s ||| 2 ^ k)
  show AW l G MX11_costWith 1 60 0 0 _ n 0 0 0 [(0, .ref o), (1, .int (nI s)), (2, .int (nI leg)), (3, .int (nI k))] [] _ n
  refine aw_aload_n dX11_costWith_0 rfl rfl ?_
  refine aw_iload_n dX11_costWith_1 rfl rfl ?_
  refine aw_vI (as := [Value.int (nI k)]) (rest := []) mV_X11_period (m_period hA (k := k) (len := V (4 + k)) (by omega) rfl (by omega)) ml_X11_92 mU_0 rfl dX11_costWith_2 rfl rfl (by decide) (Nat.le_of_ble_eq_true rfl) (by decide) ?_
  refine aw_aload_n dX11_costWith_5 rfl rfl ?_
  refine aw_get (v := .ref (o + 1)) fl_X11_7 mU_0 rfl dX11_costWith_6 ?_
  refine aw_bipush_n 42 dX11_costWith_9 (by decide) ?_
  refine aw_iload_n dX11_costWith_11 rfl rfl ?_
  refine aw_iadd_n dX11_costWith_12 ?_
  refine aw_mld hA (k := 42 + leg) (by omega) dX11_costWith_13 ?_
  have hb_1 : V (42 + leg) < 16000000 := VB.lt hB (by omega)
  refine aw_isub dX11_costWith_14 ?_
  refine aw_sI (as := [Value.int ((nI (perN (V (4 + k)))) - (nI (V (42 + leg))))]) (rest := []) mS_X11_size (m_size _) ml_X11_139 dX11_costWith_15 rfl rfl (by decide) (Nat.le_of_ble_eq_true rfl) (by decide) ?_
  rw [abs_nI (by omega) (by omega)]
  refine aw_istore (L' := [(4, .int (nI (apart (perN (V (4 + k))) (V (42 + leg))))), (0, .ref o), (1, .int (nI s)), (2, .int (nI leg)), (3, .int (nI k))]) dX11_costWith_18 (by decide) rfl ?_
  refine aw_iload_n dX11_costWith_20 rfl rfl ?_
  refine aw_iload_n dX11_costWith_21 rfl rfl ?_
  refine aw_shr (a := s) (k := k) (by omega) (by omega) dX11_costWith_22 ?_
  refine aw_iconst_n 1 dX11_costWith_23 (by decide) ?_
  refine aw_bit (a := s) (k := k) (by omega) (by omega) dX11_costWith_24 (fun hbit_2 => ?_)
  refine aw_iconst_n 1 dX11_costWith_25 (by decide) ?_
  refine aw_icmp_ne_n (by omega) (by omega) (tgt := 34) dX11_costWith_26 (by decide) (fun c_3 => ?_) (fun c_3 => ?_)
  · refine aw_iload dX11_costWith_34 rfl ?_
    refine aw_aload_n dX11_costWith_36 rfl rfl ?_
    refine aw_get (v := .ref (o + 7)) fl_X11_36 mU_0 rfl dX11_costWith_37 ?_
    refine aw_iload_n dX11_costWith_40 rfl rfl ?_
    refine aw_iconst_n 1 dX11_costWith_41 (by decide) ?_
    refine aw_iload_n dX11_costWith_42 rfl rfl ?_
    refine aw_shl (k := k) (by omega) dX11_costWith_43 (fun hpw_4 => ?_)
    refine aw_or (a := s) (k := k) (by omega) (by omega) dX11_costWith_44 (fun hor_5 => ?_)
    refine aw_iald_n (k := s ||| 2 ^ k) (v := (nI (T (s ||| 2 ^ k)))) mU_7 (by omega) (by decide) (hT (by omega)) dX11_costWith_45 ?_
    refine aw_iadd_n dX11_costWith_46 ?_
    exact aw_iret rfl (by decide) (by decide) dX11_costWith_47 (rI_of (by unfold cwN; rw [if_neg (by omega)]))
  · refine aw_ldc (v := nI 100000) kc_X11_151 dX11_costWith_29 ?_
    refine aw_goto (tgt := 47) dX11_costWith_31 (by decide) ?_
    exact aw_iret rfl (by decide) (by decide) dX11_costWith_47 (rI_of (by unfold cwN; rw [if_pos (by omega)]))
abbrev MX11_finds : MT := (RX11, cX11_finds, 5, none, [], "finds")
set_option maxHeartbeats 4000000 in
theorem m_finds_in {l : Launch} {G : GT} {n : Nat} {f : HT} {o : Nat} {I : Nat → Int32} {A A0 : Nat → Nat → Int32} {K : Nat} {V : Nat → Nat} (hA : Mok A V) (hB : VB K V) {T : Nat → Nat} {s : Nat} (hs : s < 256) (hTl : ∀ i, T i ≤ 100000) (hlg : memN s < V 3) (hTA : ∀ i, s < i → i < 256 → A 6 i = nI (T i)) (hN : ∀ A9 : Nat → Nat → Int32, A9 6 s = nI (valN V T s) → (∀ i, i ≠ s → A9 6 i = A 6 i) → (∀ j, j ≠ 6 → A9 j = A j) → AW l G MX11_finds 2 120 0 0 (FLs f o I A0 V n) n 0 0 100 [(1, .int (nI s)), (0, .ref o)] [] (mU f o I A9) n) : ∀ (N : Nat) (u : Nat) (B : Nat → Nat → Int32), (V 2 - u = N) → (u ≤ V 2) → (Mok B V) → (B 6 s = nI (minN V T s (memN s) u)) → (∀ i, i ≠ s → B 6 i = A 6 i) → (∀ j, j ≠ 6 → B j = A j) → AW l G MX11_finds 2 120 0 0 (FLs f o I A0 V n) n 0 0 37 [(3, .int (nI u)), (1, .int (nI s)), (2, .int (nI (memN s))), (0, .ref o)] [] (mU f o I B) n := by
  intro N
  induction N using Nat.strongRecOn with
  | ind N ih =>
    intro u B hM9 hu hM h6 h7 h8
    have hcnt := VB.cnt hB
    have hleg := VB.legs hB
    have hfr := VB.fric hB
    have hnow := VB.now hB
    have hkk := VB.kk hB
    have hml : memN s ≤ 8 := memC_le s 8
    have hmn := min_le (V := V) (T := T) (s := s) (leg := memN s) u
    refine aw_iload_n dX11_finds_37 rfl rfl ?_
    refine aw_aload_n dX11_finds_38 rfl rfl ?_
    refine aw_get (v := .ref (o + 1)) fl_X11_7 mU_0 rfl dX11_finds_39 ?_
    refine aw_iconst_n 2 dX11_finds_42 (by decide) ?_
    refine aw_mld hM (k := 2) (by omega) dX11_finds_43 ?_
    have hb_1 : V 2 < 16000000 := VB.lt hB (by omega)
    refine aw_icmp_ge_n (by omega) (by omega) (tgt := 100) dX11_finds_44 (by decide) (fun c_2 => ?_) (fun c_2 => ?_)
    · exact aw_sub [(1, .int (nI s)), (0, .ref o)] (by simp) (hN B (by rw [h6]; unfold valN; rw [if_neg (by omega), show u = V 2 by omega]) h7 h8)
    · refine aw_iload_n dX11_finds_47 rfl rfl ?_
      refine aw_aload_n dX11_finds_48 rfl rfl ?_
      refine aw_get (v := .ref (o + 1)) fl_X11_7 mU_0 rfl dX11_finds_49 ?_
      refine aw_iconst_n 3 dX11_finds_52 (by decide) ?_
      refine aw_mld hM (k := 3) (by omega) dX11_finds_53 ?_
      have hb_3 : V 3 < 16000000 := VB.lt hB (by omega)
      refine aw_icmp_ge_n (by omega) (by omega) (tgt := 100) dX11_finds_54 (by decide) (fun c_4 => by exfalso; omega) (fun c_4 => ?_)
      refine aw_aload_n dX11_finds_57 rfl rfl ?_
      refine aw_iload_n dX11_finds_58 rfl rfl ?_
      refine aw_iload_n dX11_finds_59 rfl rfl ?_
      refine aw_iload_n dX11_finds_60 rfl rfl ?_
      refine aw_vI (as := [Value.int (nI s), Value.int (nI (memN s)), Value.int (nI u)]) (rest := []) mV_X11_costWith (m_cost (T := T) hM hB hs (by omega) (by omega) (fun hb => by rw [h7 _ (Nat.ne_of_gt (or_gt hs (by omega) hb))]; exact hTA _ (or_gt hs (by omega) hb) (or_lt hs (by omega))) hTl) ml_X11_155 mU_0 rfl dX11_finds_61 rfl rfl (by decide) (Nat.le_of_ble_eq_true rfl) (by decide) ?_
      have hcl4 := cw_le (V := V) (T := T) (s := s) hTl (show apart (perN (V (4 + u))) (V (42 + memN s)) ≤ 60 by have := VB.len hB (k := u) (by omega); have := per_le this; have := VB.wish hB (k := memN s) (by omega); unfold apart; omega)
      refine aw_istore (L' := [(4, .int (nI (cwN V T s (memN s) u))), (3, .int (nI u)), (1, .int (nI s)), (2, .int (nI (memN s))), (0, .ref o)]) dX11_finds_64 (by decide) rfl ?_
      refine aw_aload_n dX11_finds_66 rfl rfl ?_
      refine aw_get (v := .ref (o + 7)) fl_X11_36 mU_0 rfl dX11_finds_67 ?_
      refine aw_iload_n dX11_finds_70 rfl rfl ?_
      refine aw_iload dX11_finds_71 rfl ?_
      refine aw_aload_n dX11_finds_73 rfl rfl ?_
      refine aw_get (v := .ref (o + 7)) fl_X11_36 mU_0 rfl dX11_finds_74 ?_
      refine aw_iload_n dX11_finds_77 rfl rfl ?_
      refine aw_iald_n (k := s) (v := (nI (minN V T s (memN s) u))) mU_7 (by omega) (by decide) (h6) dX11_finds_78 ?_
      refine aw_icmp_ge_n (by omega) (by omega) (tgt := 87) dX11_finds_79 (by decide) (fun c_6 => ?_) (fun c_6 => ?_)
      · refine aw_aload_n dX11_finds_87 rfl rfl ?_
        refine aw_get (v := .ref (o + 7)) fl_X11_36 mU_0 rfl dX11_finds_88 ?_
        refine aw_iload_n dX11_finds_91 rfl rfl ?_
        refine aw_iald_n (k := s) (v := (nI (minN V T s (memN s) u))) mU_7 (by omega) (by decide) (h6) dX11_finds_92 ?_
        refine aw_iast_n (k := s) mU_7 (by omega) (by decide) dX11_finds_93 ?_
        rw [mU_A6]
        refine aw_iinc_n (L' := [(3, .int (nI (u + 1))), (4, .int (nI (cwN V T s (memN s) u))), (1, .int (nI s)), (2, .int (nI (memN s))), (0, .ref o)]) 1 dX11_finds_94 rfl (by decide) (by decide) rfl ?_
        refine aw_goto (tgt := 37) dX11_finds_97 (by decide) ?_
        have e : nI (minN V T s (memN s) (u + 1)) = (nI (minN V T s (memN s) u)) := by rw [min_s]; first | rw [if_pos (by omega)] | rw [if_neg (by omega)]
        refine aw_sub [(3, .int (nI (u + 1))), (1, .int (nI s)), (2, .int (nI (memN s))), (0, .ref o)] (by simp) ?_
        exact ih _ (by omega) (u + 1) _ rfl (by omega) (fun i hi => by rw [up_ne (by decide)]; exact hM i hi) (by rw [up_self, pk_us, e]) (fun i hi => by rw [up_self, pk_un hi]; exact h7 i hi) (fun j hj => (up_ne hj).trans (h8 j hj))
      · refine aw_iload dX11_finds_82 rfl ?_
        refine aw_goto (tgt := 93) dX11_finds_84 (by decide) ?_
        refine aw_iast_n (k := s) mU_7 (by omega) (by decide) dX11_finds_93 ?_
        rw [mU_A6]
        refine aw_iinc_n (L' := [(3, .int (nI (u + 1))), (4, .int (nI (cwN V T s (memN s) u))), (1, .int (nI s)), (2, .int (nI (memN s))), (0, .ref o)]) 1 dX11_finds_94 rfl (by decide) (by decide) rfl ?_
        refine aw_goto (tgt := 37) dX11_finds_97 (by decide) ?_
        have e : nI (minN V T s (memN s) (u + 1)) = (nI (cwN V T s (memN s) u)) := by rw [min_s]; first | rw [if_pos (by omega)] | rw [if_neg (by omega)]
        refine aw_sub [(3, .int (nI (u + 1))), (1, .int (nI s)), (2, .int (nI (memN s))), (0, .ref o)] (by simp) ?_
        exact ih _ (by omega) (u + 1) _ rfl (by omega) (fun i hi => by rw [up_ne (by decide)]; exact hM i hi) (by rw [up_self, pk_us, e]) (fun i hi => by rw [up_self, pk_un hi]; exact h7 i hi) (fun j hj => (up_ne hj).trans (h8 j hj))
set_option maxHeartbeats 4000000 in
theorem m_finds_out {l : Launch} {G : GT} {n : Nat} {f : HT} {o : Nat} {I : Nat → Int32} {A0 : Nat → Nat → Int32} {K : Nat} {V : Nat → Nat} (hB : VB K V) : ∀ (N : Nat) (k : Nat) (B : Nat → Nat → Int32), (256 - k = N) → (k ≤ 256) → (Mok B V) → (∀ i, 256 - k ≤ i → i < 256 → B 6 i = nI (tabK V k i)) → (∀ j, j ≠ 6 → B j = A0 j) → AW l G MX11_finds 2 120 0 0 (FLs f o I A0 V n) n 0 0 4 [(1, .int (nI (256 - k) - nI 1)), (0, .ref o)] [] (mU f o I B) n := by
  intro N
  induction N using Nat.strongRecOn with
  | ind N ih =>
    intro k B hN hk hM h6 h8
    have hcnt := VB.cnt hB
    have hleg := VB.legs hB
    have hfr := VB.fric hB
    have hnow := VB.now hB
    have hkk := VB.kk hB
    refine aw_iload_n dX11_finds_4 rfl rfl ?_
    refine aw_if_lt (tgt := 106) dX11_finds_5 (by decide) (fun c_1 => ?_) (fun c_1 => ?_)
    · have hk0 := (m1_neg (by omega)).mp c_1
      exact aw_vret rfl (by decide) (by decide) dX11_finds_106 ⟨rfl, rfl, B, rfl, fun i hi => by rw [h6 i (by omega) hi, show k = 256 by omega]; rfl, h8⟩
    · have hk0 : 256 - k ≠ 0 := fun z => c_1 ((m1_neg (by omega)).mpr z)
      rw [m1_n (by omega), show 256 - k - 1 = 255 - k by omega]
      refine aw_iload_n dX11_finds_8 rfl rfl ?_
      refine aw_sI (as := [Value.int (nI (255 - k))]) (rest := []) mS_X11_members (m_mem (by omega)) ml_X11_152 dX11_finds_9 rfl rfl (by decide) (Nat.le_of_ble_eq_true rfl) (by decide) ?_
      have hmm1 : memN (255 - k) ≤ 8 := memC_le _ 8
      refine aw_istore_n (L' := [(2, .int (nI (memN (255 - k)))), (1, .int (nI (255 - k))), (0, .ref o)]) dX11_finds_12 rfl (by decide) rfl ?_
      refine aw_aload_n dX11_finds_13 rfl rfl ?_
      refine aw_get (v := .ref (o + 7)) fl_X11_36 mU_0 rfl dX11_finds_14 ?_
      refine aw_iload_n dX11_finds_17 rfl rfl ?_
      refine aw_iload_n dX11_finds_18 rfl rfl ?_
      refine aw_aload_n dX11_finds_19 rfl rfl ?_
      refine aw_get (v := .ref (o + 1)) fl_X11_7 mU_0 rfl dX11_finds_20 ?_
      refine aw_iconst_n 3 dX11_finds_23 (by decide) ?_
      refine aw_mld hM (k := 3) (by omega) dX11_finds_24 ?_
      have hb_2 : V 3 < 16000000 := VB.lt hB (by omega)
      refine aw_icmp_lt_n (by omega) (by omega) (tgt := 32) dX11_finds_25 (by decide) (fun c_3 => ?_) (fun c_3 => ?_)
      · refine aw_ldc (v := nI 100000) kc_X11_151 dX11_finds_32 ?_
        refine aw_iast_n (k := 255 - k) mU_7 (by omega) (by decide) dX11_finds_34 ?_
        rw [mU_A6]
        refine aw_iconst_n 0 dX11_finds_35 (by decide) ?_
        refine aw_istore_n (L' := [(3, .int (nI 0)), (2, .int (nI (memN (255 - k)))), (1, .int (nI (255 - k))), (0, .ref o)]) dX11_finds_36 rfl (by decide) rfl ?_
        have hmk : Mok (va_up B 6 (upd (B 6) (255 - k) ((nI 100000)))) V := fun i hi => by rw [up_ne (by decide)]; exact hM i hi
        refine aw_sub [(3, .int (nI 0)), (1, .int (nI (255 - k))), (2, .int (nI (memN (255 - k)))), (0, .ref o)] (by simp) ?_
        refine m_finds_in (A := (va_up B 6 (upd (B 6) (255 - k) ((nI 100000))))) (T := tabK V k) hmk hB (s := 255 - k) (by omega) (tab_le k) (by omega) (fun i h1 h2 => by rw [up_self, pk_un (by omega)]; exact h6 i (by omega) h2) (fun A9 k1 k2 k3 => ?_) _ 0 (va_up B 6 (upd (B 6) (255 - k) ((nI 100000)))) rfl (Nat.zero_le _) hmk (by rw [up_self, pk_us]; rfl) (fun _ _ => rfl) (fun _ _ => rfl)
        have hA9 : Mok A9 V := fun i hi => by rw [k3 0 (by decide)]; exact hmk i hi
        have hz : A9 6 (255 - k) = nI (valN V (tabK V k) (255 - k)) := k1
        have hy : ∀ i, i ≠ 255 - k → A9 6 i = B 6 i := fun i hi => by rw [k2 i hi, up_self, pk_un hi]
        have hx : ∀ j, j ≠ 6 → A9 j = B j := fun j hj => (k3 j hj).trans (up_ne hj)
        refine aw_iinc (L' := [(1, .int (nI (255 - k) + -1)), (0, .ref o)]) dX11_finds_100 rfl rfl (by decide) rfl ?_
        refine aw_goto (tgt := 4) dX11_finds_103 (by decide) ?_
        refine aw_sub [(1, .int (nI (256 - (k + 1)) - nI 1)), (0, .ref o)] (by rw [show 256 - (k + 1) = 255 - k by omega, Int32.sub_eq_add_neg]; simp [show -nI 1 = (-1 : Int32) by decide]) ?_
        exact ih _ (by omega) (k + 1) A9 rfl (by omega) hA9 (fun i h1 h2 => by
          show _ = nI (va_up (tabK V k) (255 - k) (valN V (tabK V k) (255 - k)) i)
          by_cases hi : i = 255 - k
          · rw [hi]; exact hz.trans (congrArg nI up_self.symm)
          · rw [up_ne hi, hy i hi]; exact h6 i (by omega) h2) (fun j hj => (hx j hj).trans (h8 j hj))
      · refine aw_iconst_n 0 dX11_finds_28 (by decide) ?_
        refine aw_goto (tgt := 34) dX11_finds_29 (by decide) ?_
        refine aw_iast_n (k := 255 - k) mU_7 (by omega) (by decide) dX11_finds_34 ?_
        rw [mU_A6]
        refine aw_iconst_n 0 dX11_finds_35 (by decide) ?_
        refine aw_istore_n (L' := [(3, .int (nI 0)), (2, .int (nI (memN (255 - k)))), (1, .int (nI (255 - k))), (0, .ref o)]) dX11_finds_36 rfl (by decide) rfl ?_
        have hmk : Mok (va_up B 6 (upd (B 6) (255 - k) ((nI 0)))) V := fun i hi => by rw [up_ne (by decide)]; exact hM i hi
        have hz : (va_up B 6 (upd (B 6) (255 - k) ((nI 0)))) 6 (255 - k) = nI (valN V (tabK V k) (255 - k)) := by rw [up_self, pk_us]; unfold valN; rw [if_pos (by omega)]
        have hy : ∀ i, i ≠ 255 - k → (va_up B 6 (upd (B 6) (255 - k) ((nI 0)))) 6 i = B 6 i := fun i hi => by rw [up_self, pk_un hi]
        have hx : ∀ j, j ≠ 6 → (va_up B 6 (upd (B 6) (255 - k) ((nI 0)))) j = B j := fun j hj => up_ne hj
        refine aw_iload_n dX11_finds_37 rfl rfl ?_
        refine aw_aload_n dX11_finds_38 rfl rfl ?_
        refine aw_get (v := .ref (o + 1)) fl_X11_7 mU_0 rfl dX11_finds_39 ?_
        refine aw_iconst_n 2 dX11_finds_42 (by decide) ?_
        refine aw_mld hmk (k := 2) (by omega) dX11_finds_43 ?_
        have hb_4 : V 2 < 16000000 := VB.lt hB (by omega)
        refine aw_icmp_ge_n (by omega) (by omega) (tgt := 100) dX11_finds_44 (by decide) (fun c_5 => ?_) (fun c_5 => ?_)
        · refine aw_iinc (L' := [(1, .int (nI (255 - k) + -1)), (3, .int (nI 0)), (2, .int (nI (memN (255 - k)))), (0, .ref o)]) dX11_finds_100 rfl rfl (by decide) rfl ?_
          refine aw_goto (tgt := 4) dX11_finds_103 (by decide) ?_
          refine aw_sub [(1, .int (nI (256 - (k + 1)) - nI 1)), (0, .ref o)] (by rw [show 256 - (k + 1) = 255 - k by omega, Int32.sub_eq_add_neg]; simp [show -nI 1 = (-1 : Int32) by decide]) ?_
          exact ih _ (by omega) (k + 1) (va_up B 6 (upd (B 6) (255 - k) ((nI 0)))) rfl (by omega) hmk (fun i h1 h2 => by
            show _ = nI (va_up (tabK V k) (255 - k) (valN V (tabK V k) (255 - k)) i)
            by_cases hi : i = 255 - k
            · rw [hi]; exact hz.trans (congrArg nI up_self.symm)
            · rw [up_ne hi, hy i hi]; exact h6 i (by omega) h2) (fun j hj => (hx j hj).trans (h8 j hj))
        · refine aw_iload_n dX11_finds_47 rfl rfl ?_
          refine aw_aload_n dX11_finds_48 rfl rfl ?_
          refine aw_get (v := .ref (o + 1)) fl_X11_7 mU_0 rfl dX11_finds_49 ?_
          refine aw_iconst_n 3 dX11_finds_52 (by decide) ?_
          refine aw_mld hmk (k := 3) (by omega) dX11_finds_53 ?_
          have hb_6 : V 3 < 16000000 := VB.lt hB (by omega)
          refine aw_icmp_ge_n (by omega) (by omega) (tgt := 100) dX11_finds_54 (by decide) (fun c_7 => ?_) (fun c_7 => by exfalso; omega)
          refine aw_iinc (L' := [(1, .int (nI (255 - k) + -1)), (3, .int (nI 0)), (2, .int (nI (memN (255 - k)))), (0, .ref o)]) dX11_finds_100 rfl rfl (by decide) rfl ?_
          refine aw_goto (tgt := 4) dX11_finds_103 (by decide) ?_
          refine aw_sub [(1, .int (nI (256 - (k + 1)) - nI 1)), (0, .ref o)] (by rw [show 256 - (k + 1) = 255 - k by omega, Int32.sub_eq_add_neg]; simp [show -nI 1 = (-1 : Int32) by decide]) ?_
          exact ih _ (by omega) (k + 1) (va_up B 6 (upd (B 6) (255 - k) ((nI 0)))) rfl (by omega) hmk (fun i h1 h2 => by
            show _ = nI (va_up (tabK V k) (255 - k) (valN V (tabK V k) (255 - k)) i)
            by_cases hi : i = 255 - k
            · rw [hi]; exact hz.trans (congrArg nI up_self.symm)
            · rw [up_ne hi, hy i hi]; exact h6 i (by omega) h2) (fun j hj => (hx j hj).trans (h8 j hj))
set_option maxHeartbeats 4000000 in
theorem m_finds {l : Launch} {G : GT} {n : Nat} {f : HT} {o : Nat} {I : Nat → Int32} {A : Nat → Nat → Int32} {K : Nat} {V : Nat → Nat} (hA : Mok A V) (hB : VB K V) : AM l G yX11_finds (.code yX11_finds cX11_finds 5 none) 2 120 0 0 [.ref o] (mU f o I A) n (FLs f o I A V n) := by
  refine aw_enter (M := MX11_finds) rfl rfl (by decide +kernel) rfl (Nat.le_of_ble_eq_true rfl) ?_
  show AW l G MX11_finds 2 120 0 0 _ n 0 0 0 [(0, .ref o)] [] _ n
  refine aw_sipush_n 255 dX11_finds_0 (by decide) ?_
  refine aw_istore_n (L' := [(1, .int (nI 255)), (0, .ref o)]) dX11_finds_3 rfl (by decide) rfl ?_
  exact aw_sub [(1, .int (nI (256 - 0) - nI 1)), (0, .ref o)] (by simp [show nI 256 - nI 1 = nI 255 by decide]) (m_finds_out hB _ 0 A rfl (Nat.zero_le _) hA (fun i h1 h2 => by omega) (fun _ _ => rfl))
abbrev MX11_leastRelay : MT := (RX11, cX11_leastRelay, 1, (some .int), [], "leastRelay")
set_option maxHeartbeats 4000000 in
theorem m_leastRelay {l : Launch} {G : GT} {n : Nat} {f : HT} {o : Nat} {I : Nat → Int32} {A : Nat → Nat → Int32} {K : Nat} {V : Nat → Nat} (hA : Mok A V) (hB : VB K V) : AM l G yX11_leastRelay (.code yX11_leastRelay cX11_leastRelay 1 (some .int)) 3 180 0 0 [.ref o] (mU f o I A) n (RLs f o I A (qRelay V) n) := by
  refine aw_enter (M := MX11_leastRelay) rfl rfl (by decide +kernel) rfl (Nat.le_of_ble_eq_true rfl) ?_
  have hcnt := VB.cnt hB
  have hleg := VB.legs hB
  have hfr := VB.fric hB
  have hnow := VB.now hB
  have hkk := VB.kk hB
  show AW l G MX11_leastRelay 3 180 0 0 _ n 0 0 0 [(0, .ref o)] [] _ n
  refine aw_aload_n dX11_leastRelay_0 rfl rfl ?_
  refine aw_get (v := .ref (o + 1)) fl_X11_7 mU_0 rfl dX11_leastRelay_1 ?_
  refine aw_iconst_n 2 dX11_leastRelay_4 (by decide) ?_
  refine aw_mld hA (k := 2) (by omega) dX11_leastRelay_5 ?_
  have hb_1 : V 2 < 16000000 := VB.lt hB (by omega)
  refine aw_aload_n dX11_leastRelay_6 rfl rfl ?_
  refine aw_get (v := .ref (o + 1)) fl_X11_7 mU_0 rfl dX11_leastRelay_7 ?_
  refine aw_iconst_n 3 dX11_leastRelay_10 (by decide) ?_
  refine aw_mld hA (k := 3) (by omega) dX11_leastRelay_11 ?_
  have hb_2 : V 3 < 16000000 := VB.lt hB (by omega)
  refine aw_icmp_ge_n (by omega) (by omega) (tgt := 21) dX11_leastRelay_12 (by decide) (fun c_3 => ?_) (fun c_3 => ?_)
  · refine aw_aload_n dX11_leastRelay_21 rfl rfl ?_
    refine aw_vP (as := []) (rest := []) mV_X11_finds (m_finds hA hB) ml_X11_159 mU_0 rfl dX11_leastRelay_22 rfl rfl (by decide) (Nat.le_of_ble_eq_true rfl) (by decide) (fun _ _ _ h => by cases h.1) (fun r f9 n9 _ h => ?_)
    obtain ⟨h1, h2, A2, h3, h6, h8⟩ := h
    cases h1; subst h2; subst h3
    have hA2 : Mok A2 V := fun i hi => by rw [h8 0 (by decide)]; exact hA i hi
    show AW l G MX11_leastRelay 3 180 0 0 _ _ _ _ 25 [(0, .ref o)] [] (mU f o I A2) _
    refine aw_aload_n dX11_leastRelay_25 rfl rfl ?_
    refine aw_aload_n dX11_leastRelay_26 rfl rfl ?_
    refine aw_get (v := .ref (o + 7)) fl_X11_36 mU_0 rfl dX11_leastRelay_27 ?_
    refine aw_iconst_n 0 dX11_leastRelay_30 (by decide) ?_
    refine aw_iald_n (k := 0) (v := (nI (lsT V 0))) mU_7 (by omega) (by decide) (h6 _ (by omega)) dX11_leastRelay_31 ?_
    refine aw_vI (as := [Value.int (nI (lsT V 0))]) (rest := []) mV_X11_done (m_done (nI (lsT V 0))) ml_X11_60 mU_0 rfl dX11_leastRelay_32 rfl rfl (by decide) (Nat.le_of_ble_eq_true rfl) (by decide) ?_
    exact aw_iret rfl (by decide) (by decide) dX11_leastRelay_35 (RLs_of (by unfold qRelay; rw [if_neg (by omega)]) h8)
  · refine aw_aload_n dX11_leastRelay_15 rfl rfl ?_
    refine aw_iconst_n 1 dX11_leastRelay_16 (by decide) ?_
    refine aw_vI (as := [Value.int (nI 1)]) (rest := []) mV_X11_fails (m_fails 1) ml_X11_56 mU_0 rfl dX11_leastRelay_17 rfl rfl (by decide) (Nat.le_of_ble_eq_true rfl) (by decide) ?_
    exact aw_iret rfl (by decide) (by decide) dX11_leastRelay_20 (RLs_of (by unfold qRelay; rw [if_pos (by omega)]) (fun _ _ => rfl))
abbrev MX11_leastRelayByTrying : MT := (RX11, cX11_leastRelayByTrying, 1, (some .int), [], "leastRelayByTrying")
set_option maxHeartbeats 4000000 in
theorem m_leastRelayByTrying {l : Launch} {G : GT} {n : Nat} {f : HT} {o : Nat} {I : Nat → Int32} {A : Nat → Nat → Int32} {K : Nat} {V : Nat → Nat} (hA : Mok A V) (hB : VB K V) : AM l G yX11_leastRelayByTrying (.code yX11_leastRelayByTrying cX11_leastRelayByTrying 1 (some .int)) 4 240 0 0 [.ref o] (mU f o I A) n (RLs f o I A (qRelay V) n) := by
  refine aw_enter (M := MX11_leastRelayByTrying) rfl rfl (by decide +kernel) rfl (Nat.le_of_ble_eq_true rfl) ?_
  show AW l G MX11_leastRelayByTrying 4 240 0 0 _ n 0 0 0 [(0, .ref o)] [] _ n
  refine aw_aload_n dX11_leastRelayByTrying_0 rfl rfl ?_
  refine aw_vP (as := []) (rest := []) mV_X11_leastRelay (m_leastRelay hA hB) ml_X11_162 mU_0 rfl dX11_leastRelayByTrying_1 rfl rfl (by decide) (Nat.le_of_ble_eq_true rfl) (by decide) (fun _ _ _ h => by cases h.1) (fun r f9 n9 _ h => ?_)
  obtain ⟨h1, h2, A2, h3, h8⟩ := h
  cases h1; subst h2; subst h3
  exact aw_iret rfl (by decide) (by decide) dX11_leastRelayByTrying_4 ⟨rfl, rfl, A2, rfl, h8⟩
abbrev MX11_runnerOf : MT := (RX11, cX11_runnerOf, 5, (some .int), [], "runnerOf")
set_option maxHeartbeats 4000000 in
theorem m_run_in {l : Launch} {G : GT} {n : Nat} {f : HT} {o : Nat} {I : Nat → Int32} {A0 B : Nat → Nat → Int32} {K : Nat} {V : Nat → Nat} (hB : VB K V) (h32 : V 3 ≤ V 2) {x : Nat} (hx : x < V 3) (hM : Mok B V) (h6 : ∀ i, i < 256 → B 6 i = nI (lsT V i)) (h8 : ∀ j, j ≠ 6 → B j = A0 j) {k : Nat} (hk : k ≤ x) (hN : AW l G MX11_runnerOf 3 180 0 0 (RLs f o I A0 (0, fstR V (setR V x) x) n) n 0 0 77 [(3, .int (nI (fstR V (setR V k) k))), (0, .ref o), (1, .int (nI x)), (2, .int (nI (setR V k))), (4, .int (nI k))] [] (mU f o I B) n) : ∀ (N : Nat) (r : Nat), (fstR V (setR V k) k - r = N) → (r ≤ fstR V (setR V k) k) → (∀ j, j < r → cwN V (lsT V) (setR V k) k j ≠ lsT V (setR V k)) → AW l G MX11_runnerOf 3 180 0 0 (RLs f o I A0 (0, fstR V (setR V x) x) n) n 0 0 54 [(3, .int (nI r)), (0, .ref o), (1, .int (nI x)), (2, .int (nI (setR V k))), (4, .int (nI k))] [] (mU f o I B) n := by
  intro N
  induction N using Nat.strongRecOn with
  | ind N ih =>
    intro r hM9 hr h9
    have hcnt := VB.cnt hB
    have hleg := VB.legs hB
    have hfr := VB.fric hB
    have hnow := VB.now hB
    have hkk := VB.kk hB
    have hst := set_ok hB h32 k (by omega)
    have hfo := fst_ok hB h32 hst.1 (by rw [hst.2]; omega)
    rw [hst.2] at hfo
    have hlt : lsT V (setR V k) ≤ 100000 := tab_le 256 _
    refine aw_aload_n dX11_runnerOf_54 rfl rfl ?_
    refine aw_iload_n dX11_runnerOf_55 rfl rfl ?_
    refine aw_iload dX11_runnerOf_56 rfl ?_
    refine aw_iload_n dX11_runnerOf_58 rfl rfl ?_
    refine aw_vI (as := [Value.int (nI (setR V k)), Value.int (nI k), Value.int (nI r)]) (rest := []) mV_X11_costWith (m_cost (T := lsT V) hM hB hst.1 (by omega) (by omega) (fun hb => h6 _ (or_lt hst.1 (by omega))) (tab_le 256)) ml_X11_155 mU_0 rfl dX11_runnerOf_59 rfl rfl (by decide) (Nat.le_of_ble_eq_true rfl) (by decide) ?_
    have hcl := cw_le (V := V) (T := lsT V) (s := setR V k) (tab_le 256) (show apart (perN (V (4 + r))) (V (42 + k)) ≤ 60 by have := VB.len hB (k := r) (by omega); have := per_le this; have := VB.wish hB (k := k) (by omega); unfold apart; omega)
    refine aw_aload_n dX11_runnerOf_62 rfl rfl ?_
    refine aw_get (v := .ref (o + 7)) fl_X11_36 mU_0 rfl dX11_runnerOf_63 ?_
    refine aw_iload_n dX11_runnerOf_66 rfl rfl ?_
    refine aw_iald_n (k := setR V k) (v := (nI (lsT V (setR V k)))) mU_7 (by omega) (by decide) (h6 _ hst.1) dX11_runnerOf_67 ?_
    refine aw_icmp_eq_n (by omega) (by omega) (tgt := 77) dX11_runnerOf_68 (by decide) (fun c_1 => ?_) (fun c_1 => ?_)
    · have e : r = fstR V (setR V k) k := Classical.byContradiction fun z => hfo.2.2.2 r (by omega) (by omega)
      subst e
      exact aw_sub _ (by simp) hN
    · have hne : r ≠ fstR V (setR V k) k := fun z => c_1 (by rw [z]; exact hfo.2.2.1)
      refine aw_iinc_n (L' := [(3, .int (nI (r + 1))), (0, .ref o), (1, .int (nI x)), (2, .int (nI (setR V k))), (4, .int (nI k))]) 1 dX11_runnerOf_71 rfl (by decide) (by decide) rfl ?_
      refine aw_goto (tgt := 54) dX11_runnerOf_74 (by decide) ?_
      refine aw_sub [(3, .int (nI (r + 1))), (0, .ref o), (1, .int (nI x)), (2, .int (nI (setR V k))), (4, .int (nI k))] (by simp) ?_
      exact ih _ (by omega) (r + 1) rfl (by omega) (fun j hj => by
        by_cases hjr : j = r
        · rw [hjr]; exact c_1
        · exact h9 j (by omega))
set_option maxHeartbeats 4000000 in
theorem m_run_out {l : Launch} {G : GT} {n : Nat} {f : HT} {o : Nat} {I : Nat → Int32} {A0 B : Nat → Nat → Int32} {K : Nat} {V : Nat → Nat} (hB : VB K V) (h32 : V 3 ≤ V 2) {x : Nat} (hx : x < V 3) (hM : Mok B V) (h6 : ∀ i, i < 256 → B 6 i = nI (lsT V i)) (h8 : ∀ j, j ≠ 6 → B j = A0 j) : ∀ (N : Nat) (k : Nat) (v : Int32), (x + 1 - k = N) → (k ≤ x + 1) → (k ≠ 0 → v = nI (fstR V (setR V (k - 1)) (k - 1))) → AW l G MX11_runnerOf 3 180 0 0 (RLs f o I A0 (0, fstR V (setR V x) x) n) n 0 0 46 [(4, .int (nI k)), (3, .int v), (2, .int (nI (setR V k))), (0, .ref o), (1, .int (nI x))] [] (mU f o I B) n := by
  intro N
  induction N using Nat.strongRecOn with
  | ind N ih =>
    intro k v hM9 hk hv
    have hcnt := VB.cnt hB
    have hleg := VB.legs hB
    have hfr := VB.fric hB
    have hnow := VB.now hB
    have hkk := VB.kk hB
    refine aw_iload dX11_runnerOf_46 rfl ?_
    refine aw_iload_n dX11_runnerOf_48 rfl rfl ?_
    refine aw_icmp_gt_n (by omega) (by omega) (tgt := 89) dX11_runnerOf_49 (by decide) (fun c_1 => ?_) (fun c_1 => ?_)
    · refine aw_aload_n dX11_runnerOf_89 rfl rfl ?_
      refine aw_iload_n dX11_runnerOf_90 rfl rfl ?_
      refine aw_vI (as := [Value.int v]) (rest := []) mV_X11_done (m_done v) ml_X11_60 mU_0 rfl dX11_runnerOf_91 rfl rfl (by decide) (Nat.le_of_ble_eq_true rfl) (by decide) ?_
      have e := hv (by omega)
      rw [show k - 1 = x by omega] at e
      subst e
      exact aw_iret rfl (by decide) (by decide) dX11_runnerOf_94 (RLs_of rfl h8)
    · have hst := set_ok hB h32 k (by omega)
      have hfo := fst_ok hB h32 hst.1 (by rw [hst.2]; omega)
      rw [hst.2] at hfo
      have hlt : lsT V (setR V k) ≤ 100000 := tab_le 256 _
      refine aw_iconst_n 0 dX11_runnerOf_52 (by decide) ?_
      refine aw_istore_n (L' := [(3, .int (nI 0)), (4, .int (nI k)), (2, .int (nI (setR V k))), (0, .ref o), (1, .int (nI x))]) dX11_runnerOf_53 rfl (by decide) rfl ?_
      refine aw_sub [(3, .int (nI 0)), (0, .ref o), (1, .int (nI x)), (2, .int (nI (setR V k))), (4, .int (nI k))] (by simp) ?_
      refine m_run_in hB h32 hx hM h6 h8 (k := k) (by omega) ?_ _ 0 rfl (Nat.zero_le _) (fun j hj => absurd hj (Nat.not_lt_zero _))
      refine aw_iload_n dX11_runnerOf_77 rfl rfl ?_
      refine aw_iconst_n 1 dX11_runnerOf_78 (by decide) ?_
      refine aw_iload_n dX11_runnerOf_79 rfl rfl ?_
      refine aw_shl (k := fstR V (setR V k) k) (by omega) dX11_runnerOf_80 (fun hpw_2 => ?_)
      refine aw_or (a := setR V k) (k := fstR V (setR V k) k) (by omega) (by omega) dX11_runnerOf_81 (fun hor_3 => ?_)
      refine aw_istore_n (L' := [(2, .int (nI ((setR V k) ||| 2 ^ (fstR V (setR V k) k)))), (3, .int (nI (fstR V (setR V k) k))), (0, .ref o), (1, .int (nI x)), (4, .int (nI k))]) dX11_runnerOf_82 rfl (by decide) rfl ?_
      refine aw_iinc_n (L' := [(4, .int (nI (k + 1))), (2, .int (nI ((setR V k) ||| 2 ^ (fstR V (setR V k) k)))), (3, .int (nI (fstR V (setR V k) k))), (0, .ref o), (1, .int (nI x))]) 1 dX11_runnerOf_83 rfl (by decide) (by decide) rfl ?_
      refine aw_goto (tgt := 46) dX11_runnerOf_86 (by decide) ?_
      refine aw_sub [(4, .int (nI (k + 1))), (3, .int (nI (fstR V (setR V k) k))), (2, .int (nI (setR V (k + 1)))), (0, .ref o), (1, .int (nI x))] (by simp [setR]) ?_
      exact ih _ (by omega) (k + 1) _ rfl (by omega) (fun _ => rfl)
set_option maxHeartbeats 4000000 in
theorem m_runnerOf {l : Launch} {G : GT} {n : Nat} {f : HT} {o : Nat} {I : Nat → Int32} {A : Nat → Nat → Int32} {K : Nat} {V : Nat → Nat} (hA : Mok A V) (hB : VB K V) (v : Int32) : AM l G yX11_runnerOf (.code yX11_runnerOf cX11_runnerOf 5 (some .int)) 3 180 0 0 [.ref o, .int v] (mU f o I A) n (RLs f o I A (qRunner V v) n) := by
  refine aw_enter (M := MX11_runnerOf) rfl rfl (by decide +kernel) rfl (Nat.le_of_ble_eq_true rfl) ?_
  have hcnt := VB.cnt hB
  have hleg := VB.legs hB
  have hfr := VB.fric hB
  have hnow := VB.now hB
  have hkk := VB.kk hB
  show AW l G MX11_runnerOf 3 180 0 0 _ n 0 0 0 [(0, .ref o), (1, .int v)] [] _ n
  refine aw_aload_n dX11_runnerOf_0 rfl rfl ?_
  refine aw_iload_n dX11_runnerOf_1 rfl rfl ?_
  refine aw_vI (as := [Value.int v]) (rest := []) mV_X11_isLeg (m_isL hA (c := V 3) v rfl (by omega)) ml_X11_145 mU_0 rfl dX11_runnerOf_2 rfl rfl (by decide) (Nat.le_of_ble_eq_true rfl) (by decide) ?_
  refine aw_if_ne_b (tgt := 14) dX11_runnerOf_5 (by decide) (fun c_1 => ?_) (fun c_1 => ?_)
  · obtain ⟨x, hx1, rfl⟩ := isK_of (by omega) c_1
    refine aw_aload_n dX11_runnerOf_14 rfl rfl ?_
    refine aw_get (v := .ref (o + 1)) fl_X11_7 mU_0 rfl dX11_runnerOf_15 ?_
    refine aw_iconst_n 2 dX11_runnerOf_18 (by decide) ?_
    refine aw_mld hA (k := 2) (by omega) dX11_runnerOf_19 ?_
    have hb_2 : V 2 < 16000000 := VB.lt hB (by omega)
    refine aw_aload_n dX11_runnerOf_20 rfl rfl ?_
    refine aw_get (v := .ref (o + 1)) fl_X11_7 mU_0 rfl dX11_runnerOf_21 ?_
    refine aw_iconst_n 3 dX11_runnerOf_24 (by decide) ?_
    refine aw_mld hA (k := 3) (by omega) dX11_runnerOf_25 ?_
    have hb_3 : V 3 < 16000000 := VB.lt hB (by omega)
    refine aw_icmp_ge_n (by omega) (by omega) (tgt := 35) dX11_runnerOf_26 (by decide) (fun c_4 => ?_) (fun c_4 => ?_)
    · refine aw_aload_n dX11_runnerOf_35 rfl rfl ?_
      refine aw_vP (as := []) (rest := []) mV_X11_finds (m_finds hA hB) ml_X11_159 mU_0 rfl dX11_runnerOf_36 rfl rfl (by decide) (Nat.le_of_ble_eq_true rfl) (by decide) (fun _ _ _ h => by cases h.1) (fun r f9 n9 _ h => ?_)
      obtain ⟨h1, h2, A2, h3, h6, h8⟩ := h
      cases h1; subst h2; subst h3
      have hA2 : Mok A2 V := fun i hi => by rw [h8 0 (by decide)]; exact hA i hi
      show AW l G MX11_runnerOf 3 180 0 0 _ _ _ _ 39 [(0, .ref o), (1, .int (nI x))] [] (mU f o I A2) _
      refine aw_iconst_n 0 dX11_runnerOf_39 (by decide) ?_
      refine aw_istore_n (L' := [(2, .int (nI 0)), (0, .ref o), (1, .int (nI x))]) dX11_runnerOf_40 rfl (by decide) rfl ?_
      refine aw_iconst (v := -1) dX11_runnerOf_41 (by decide) ?_
      refine aw_istore_n (L' := [(3, .int (-1)), (2, .int (nI 0)), (0, .ref o), (1, .int (nI x))]) dX11_runnerOf_42 rfl (by decide) rfl ?_
      refine aw_iconst_n 0 dX11_runnerOf_43 (by decide) ?_
      refine aw_istore (L' := [(4, .int (nI 0)), (3, .int (-1)), (2, .int (nI 0)), (0, .ref o), (1, .int (nI x))]) dX11_runnerOf_44 (by decide) rfl ?_
      have hst0 := set_ok hB (show V 3 ≤ V 2 by omega) 0 (Nat.zero_le _)
      have e : qRunner V (nI x) = (0, fstR V (setR V x) x) := by unfold qRunner; rw [if_pos c_1, if_neg (by omega), nIc (show x < 2 ^ 31 by omega)]
      rw [e]
      exact aw_sub [(4, .int (nI 0)), (3, .int (-1)), (2, .int (nI 0)), (0, .ref o), (1, .int (nI x))] (by simp) (m_run_out hB (by omega) hx1 hA2 h6 h8 _ 0 (-1) rfl (Nat.zero_le _) (fun h => absurd rfl h))
    · refine aw_aload_n dX11_runnerOf_29 rfl rfl ?_
      refine aw_iconst_n 2 dX11_runnerOf_30 (by decide) ?_
      refine aw_vI (as := [Value.int (nI 2)]) (rest := []) mV_X11_fails (m_fails 2) ml_X11_56 mU_0 rfl dX11_runnerOf_31 rfl rfl (by decide) (Nat.le_of_ble_eq_true rfl) (by decide) ?_
      exact aw_iret rfl (by decide) (by decide) dX11_runnerOf_34 (RLs_of (by unfold qRunner; rw [if_pos c_1, if_pos (by omega)]) (fun _ _ => rfl))
  · refine aw_aload_n dX11_runnerOf_8 rfl rfl ?_
    refine aw_iconst_n 1 dX11_runnerOf_9 (by decide) ?_
    refine aw_vI (as := [Value.int (nI 1)]) (rest := []) mV_X11_fails (m_fails 1) ml_X11_56 mU_0 rfl dX11_runnerOf_10 rfl rfl (by decide) (Nat.le_of_ble_eq_true rfl) (by decide) ?_
    exact aw_iret rfl (by decide) (by decide) dX11_runnerOf_13 (RLs_of (by unfold qRunner; simp [c_1]) (fun _ _ => rfl))
