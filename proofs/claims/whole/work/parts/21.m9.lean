/-! sets of pendulums as numbers below 256 -/
def bitN (s k : Nat) : Nat := s / 2 ^ k % 2
theorem shr_n {a k : Nat} (ha : a < 2 ^ 31) (hk : k < 9) : nI a >>> (nI k &&& 31) = nI (a / 2 ^ k) := by
  refine pk_shrN ha _ k ?_
  have key : ∀ k, k < 9 → ((nI k &&& 31).toBitVec.smod 32).toNat = k := by decide +kernel
  exact key k hk
theorem and1_n {a : Nat} (ha : a < 2 ^ 31) : nI a &&& nI 1 = nI (a % 2) := pk_andN (Nat.lt_trans ha (by decide)) 1 (by decide)
theorem bit_n {a k : Nat} (ha : a < 2 ^ 31) (hk : k < 9) : nI (a / 2 ^ k) &&& nI 1 = nI (bitN a k) := and1_n (Nat.lt_of_le_of_lt (Nat.div_le_self _ _) ha)
theorem shl_n {k : Nat} (hk : k < 9) : nI 1 <<< (nI k &&& 31) = nI (2 ^ k) := by
  have key : ∀ k, k < 9 → nI 1 <<< (nI k &&& 31) = nI (2 ^ k) := by decide +kernel
  exact key k hk
theorem or_n {a k : Nat} (ha : a < 256) (hk : k < 8) : nI a ||| nI (2 ^ k) = nI (a ||| 2 ^ k) := by
  have key : ∀ k, k < 8 → ∀ a, a < 256 → nI a ||| nI (2 ^ k) = nI (a ||| 2 ^ k) := by decide +kernel
  exact key k hk a ha
theorem or_lt {a k : Nat} (ha : a < 256) (hk : k < 8) : a ||| 2 ^ k < 256 := by
  have key : ∀ k, k < 8 → ∀ a, a < 256 → a ||| 2 ^ k < 256 := by decide +kernel
  exact key k hk a ha
theorem or_gt {a k : Nat} (ha : a < 256) (hk : k < 8) (h : bitN a k ≠ 1) : a < a ||| 2 ^ k := by
  have key : ∀ k, k < 8 → ∀ a, a < 256 → bitN a k ≠ 1 → a < a ||| 2 ^ k := by decide +kernel
  exact key k hk a ha h
theorem bit_lt (s k : Nat) : bitN s k < 2 := Nat.mod_lt _ (by decide)
theorem pow_le {k : Nat} (hk : k ≤ 8) : 2 ^ k ≤ 256 := Nat.pow_le_pow_right (by decide) hk
def memC (s : Nat) : Nat → Nat
  | 0 => 0
  | u + 1 => memC s u + bitN s u
/-- how many are in a set -/
def memN (s : Nat) : Nat := memC s 8
theorem memC_le (s : Nat) : ∀ u, memC s u ≤ u := by
  intro u
  induction u with
  | zero => exact Nat.le_refl _
  | succ u ih => unfold memC; have := bit_lt s u; omega
def togC (V : Nat → Nat) (s : Nat) : Nat → Nat
  | 0 => 0
  | u + 1 => togC V s u + (if bitN s u = 1 then 168 / perN (V (4 + u)) else 0)
def togN (V : Nat → Nat) (s : Nat) : Nat := togC V s (V 2)
theorem tog_le (V : Nat → Nat) (s : Nat) : ∀ u, togC V s u ≤ 168 * u := by
  intro u
  induction u with
  | zero => exact Nat.le_refl _
  | succ u ih =>
    unfold togC
    have : 168 / perN (V (4 + u)) ≤ 168 := Nat.div_le_self _ _
    split <;> omega
def fewG (V : Nat → Nat) (t : Nat) : Nat → Nat
  | 0 => 9
  | s + 1 => if t ≤ togN V s ∧ memN s < fewG V t s then memN s else fewG V t s
theorem few_s {V : Nat → Nat} {t s : Nat} : fewG V t (s + 1) = if t ≤ togN V s ∧ memN s < fewG V t s then memN s else fewG V t s := rfl
def qFew (V : Nat → Nat) (v : Int32) : Nat × Nat := if inB v (nI 1) (nI 999) = true then
  (if fewG V v.toNatClampNeg (2 ^ V 2) ≤ 8 then (0, fewG V v.toNatClampNeg (2 ^ V 2)) else (2, 0)) else (1, 0)
theorem few_le (V : Nat → Nat) (t : Nat) : ∀ s, fewG V t s ≤ 9 := by
  intro s
  induction s with
  | zero => exact Nat.le_refl _
  | succ s ih =>
    unfold fewG
    have : memN s ≤ 8 := memC_le s 8
    split <;> omega
def exaG (V : Nat → Nat) (t : Nat) : Nat → Nat
  | 0 => 0
  | s + 1 => exaG V t s + (if togN V s = t then 1 else 0)
theorem exa_s {V : Nat → Nat} {t s : Nat} : exaG V t (s + 1) = exaG V t s + (if togN V s = t then 1 else 0) := rfl
def qExa (V : Nat → Nat) (v : Int32) : Nat × Nat := if inB v (nI 0) (nI 999) = true then (0, exaG V v.toNatClampNeg (2 ^ V 2)) else (1, 0)
theorem exa_le (V : Nat → Nat) (t : Nat) : ∀ s, exaG V t s ≤ s := by
  intro s
  induction s with
  | zero => exact Nat.le_refl _
  | succ s ih => unfold exaG; split <;> omega
def sumA (V : Nat → Nat) : Nat → Nat
  | 0 => 0
  | u + 1 => sumA V u + V (12 + u)
def cntA (V : Nat → Nat) : Nat → Nat
  | 0 => 0
  | u + 1 => cntA V u + (if V (12 + u) = 0 then 0 else 1)
theorem cntA_le (V : Nat → Nat) : ∀ u, cntA V u ≤ u := by
  intro u
  induction u with
  | zero => exact Nat.le_refl _
  | succ u ih => unfold cntA; split <;> omega
theorem prI_le (V : Nat → Nat) (c : Nat) : ∀ u, prI V c u ≤ u := by
  intro u
  induction u with
  | zero => exact Nat.le_refl _
  | succ u ih => unfold prI; split <;> omega
theorem prO_le (V : Nat → Nat) (c : Nat) (h8 : V 2 ≤ 8) (hc : c ≤ V 2) : prO V c ≤ 64 := by
  have key : ∀ u, u ≤ 8 → prO V u ≤ 8 * u := by
    intro u
    induction u with
    | zero => intro _; exact Nat.le_refl _
    | succ u ih => intro h; unfold prO; have := ih (by omega); have := prI_le V u u; omega
  have := key c (by omega)
  omega
section BR
variable {l : Launch} {G : GT} {M : MT} {fr lo mc ms : Nat} {Post : PT} {n0 nc ns pc : Nat} {L : List (Nat × Value)} {S : List Value} {f : HT} {n : Nat}
theorem aw_shr {a k : Nat} (ha : a < 2 ^ 31) (hk : k < 9) (hdg : decode M.2.1 pc = .ok (.ishr, 1)) (kk : AW l G M fr lo mc ms Post n0 nc ns (pc + 1) L (.int (nI (a / 2 ^ k)) :: S) f n) : AW l G M fr lo mc ms Post n0 nc ns pc L (.int (nI k) :: .int (nI a) :: S) f n := aw_ishr hdg (by rw [shr_n ha hk]; exact kk)
theorem aw_bit {a k : Nat} (ha : a < 2 ^ 31) (hk : k < 9) (hdg : decode M.2.1 pc = .ok (.iand, 1)) (kk : bitN a k < 2 → AW l G M fr lo mc ms Post n0 nc ns (pc + 1) L (.int (nI (bitN a k)) :: S) f n) : AW l G M fr lo mc ms Post n0 nc ns pc L (.int (nI 1) :: .int (nI (a / 2 ^ k)) :: S) f n := aw_iand hdg (by rw [bit_n ha hk]; exact kk (bit_lt a k))
theorem aw_shl {k : Nat} (hk : k < 9) (hdg : decode M.2.1 pc = .ok (.ishl, 1)) (kk : 2 ^ k ≤ 256 → AW l G M fr lo mc ms Post n0 nc ns (pc + 1) L (.int (nI (2 ^ k)) :: S) f n) : AW l G M fr lo mc ms Post n0 nc ns pc L (.int (nI k) :: .int (nI 1) :: S) f n := aw_ishl hdg (by rw [shl_n hk]; exact kk (pow_le (by omega)))
theorem aw_or {a k : Nat} (ha : a < 256) (hk : k < 8) (hdg : decode M.2.1 pc = .ok (.ior, 1)) (kk : a ||| 2 ^ k < 256 → AW l G M fr lo mc ms Post n0 nc ns (pc + 1) L (.int (nI (a ||| 2 ^ k)) :: S) f n) : AW l G M fr lo mc ms Post n0 nc ns pc L (.int (nI (2 ^ k)) :: .int (nI a) :: S) f n := aw_ior hdg (by rw [or_n ha hk]; exact kk (or_lt ha hk))
end BR
abbrev MX11_members : MT := (RX11, cX11_members, 3, (some .int), [], "members")
set_option maxHeartbeats 4000000 in
theorem m_mem_loop {l : Launch} {G : GT} {n : Nat} {f : HT} {s : Nat} (hs : s < 256) : ∀ (N : Nat) (u : Nat), (8 - u = N) → (u ≤ 8) → AW l G MX11_members 0 0 0 0 (rI (nI (memN s)) f n) n 0 0 4 [(2, .int (nI u)), (1, .int (nI (memC s u))), (0, .int (nI s))] [] (f) n := by
  intro N
  induction N using Nat.strongRecOn with
  | ind N ih =>
    intro u hN hu
    have hmc := memC_le s u
    refine aw_iload_n dX11_members_4 rfl rfl ?_
    refine aw_bipush_n 8 dX11_members_5 (by decide) ?_
    refine aw_icmp_ge_n (by omega) (by omega) (tgt := 24) dX11_members_7 (by decide) (fun c_1 => ?_) (fun c_1 => ?_)
    · refine aw_iload_n dX11_members_24 rfl rfl ?_
      exact aw_iret rfl (by decide) (by decide) dX11_members_25 (rI_of (by rw [show u = 8 by omega]; rfl))
    · refine aw_iload_n dX11_members_10 rfl rfl ?_
      refine aw_iload_n dX11_members_11 rfl rfl ?_
      refine aw_iload_n dX11_members_12 rfl rfl ?_
      refine aw_shr (a := s) (k := u) (by omega) (by omega) dX11_members_13 ?_
      refine aw_iconst_n 1 dX11_members_14 (by decide) ?_
      refine aw_bit (a := s) (k := u) (by omega) (by omega) dX11_members_15 (fun hbit_2 => ?_)
      refine aw_iadd_n dX11_members_16 ?_
      refine aw_istore_n (L' := [(1, .int (nI ((memC s u) + (bitN s u)))), (2, .int (nI u)), (0, .int (nI s))]) dX11_members_17 rfl (by decide) rfl ?_
      refine aw_iinc_n (L' := [(2, .int (nI (u + 1))), (1, .int (nI ((memC s u) + (bitN s u)))), (0, .int (nI s))]) 1 dX11_members_18 rfl (by decide) (by decide) rfl ?_
      refine aw_goto (tgt := 4) dX11_members_21 (by decide) ?_
      have hml := memC_le s u
      exact ih _ (by omega) (u + 1) rfl (by omega)
set_option maxHeartbeats 4000000 in
theorem m_mem {l : Launch} {G : GT} {n : Nat} {f : HT} {s : Nat} (hs : s < 256) : AM l G yX11_members (.code yX11_members cX11_members 3 (some .int)) 0 0 0 0 [.int (nI s)] (f) n (rI (nI (memN s)) f n) := by
  refine aw_enter (M := MX11_members) rfl rfl (by decide +kernel) rfl (Nat.le_of_ble_eq_true rfl) ?_
  show AW l G MX11_members 0 0 0 0 _ n 0 0 0 [(0, .int (nI s))] [] _ n
  refine aw_iconst_n 0 dX11_members_0 (by decide) ?_
  refine aw_istore_n (L' := [(1, .int (nI 0)), (0, .int (nI s))]) dX11_members_1 rfl (by decide) rfl ?_
  refine aw_iconst_n 0 dX11_members_2 (by decide) ?_
  refine aw_istore_n (L' := [(2, .int (nI 0)), (1, .int (nI 0)), (0, .int (nI s))]) dX11_members_3 rfl (by decide) rfl ?_
  exact m_mem_loop hs _ 0 rfl (by decide)
abbrev MX11_together : MT := (RX11, cX11_together, 4, (some .int), [], "together")
set_option maxHeartbeats 4000000 in
theorem m_tog_loop {l : Launch} {G : GT} {n : Nat} {f : HT} {o : Nat} {I : Nat → Int32} {A : Nat → Nat → Int32} {K : Nat} {V : Nat → Nat} (hA : Mok A V) (hB : VB K V) {s : Nat} (hs : s < 256) : ∀ (N : Nat) (u : Nat), (V 2 - u = N) → (u ≤ V 2) → AW l G MX11_together 1 60 0 0 (rI (nI (togN V s)) (mU f o I A) n) n 0 0 4 [(3, .int (nI u)), (2, .int (nI (togC V s u))), (0, .ref o), (1, .int (nI s))] [] (mU f o I A) n := by
  intro N
  induction N using Nat.strongRecOn with
  | ind N ih =>
    intro u hN hu
    have hcnt := VB.cnt hB
    have hleg := VB.legs hB
    have hfr := VB.fric hB
    have hnow := VB.now hB
    have hkk := VB.kk hB
    have htl := tog_le V s u
    refine aw_iload_n dX11_together_4 rfl rfl ?_
    refine aw_aload_n dX11_together_5 rfl rfl ?_
    refine aw_get (v := .ref (o + 1)) fl_X11_7 mU_0 rfl dX11_together_6 ?_
    refine aw_iconst_n 2 dX11_together_9 (by decide) ?_
    refine aw_mld hA (k := 2) (by omega) dX11_together_10 ?_
    have hb_1 : V 2 < 16000000 := VB.lt hB (by omega)
    refine aw_icmp_ge_n (by omega) (by omega) (tgt := 45) dX11_together_11 (by decide) (fun c_2 => ?_) (fun c_2 => ?_)
    · refine aw_iload_n dX11_together_45 rfl rfl ?_
      exact aw_iret rfl (by decide) (by decide) dX11_together_46 (rI_of (by rw [show u = V 2 by omega]; rfl))
    · have hax := VB.amp hB (k := u) (by omega)
      have hlx := VB.len hB (k := u) (by omega)
      have hl1 := VB.len1 hB (k := u) (by omega)
      have hsx := VB.start hB (k := u) (by omega)
      have hwx := VB.sw hB (k := u) (by omega)
      have hnx := nIc (show u < 2 ^ 31 by omega)
      have hpp := per_pos hl1
      have hpl := per_le hlx
      refine aw_iload_n dX11_together_14 rfl rfl ?_
      refine aw_iload_n dX11_together_15 rfl rfl ?_
      refine aw_iload_n dX11_together_16 rfl rfl ?_
      refine aw_shr (a := s) (k := u) (by omega) (by omega) dX11_together_17 ?_
      refine aw_iconst_n 1 dX11_together_18 (by decide) ?_
      refine aw_bit (a := s) (k := u) (by omega) (by omega) dX11_together_19 (fun hbit_3 => ?_)
      refine aw_iconst_n 1 dX11_together_20 (by decide) ?_
      refine aw_icmp_ne_n (by omega) (by omega) (tgt := 36) dX11_together_21 (by decide) (fun c_4 => ?_) (fun c_4 => ?_)
      · refine aw_iconst_n 0 dX11_together_36 (by decide) ?_
        refine aw_iadd_n dX11_together_37 ?_
        refine aw_istore_n (L' := [(2, .int (nI ((togC V s u) + 0))), (3, .int (nI u)), (0, .ref o), (1, .int (nI s))]) dX11_together_38 rfl (by decide) rfl ?_
        refine aw_iinc_n (L' := [(3, .int (nI (u + 1))), (2, .int (nI ((togC V s u) + 0))), (0, .ref o), (1, .int (nI s))]) 1 dX11_together_39 rfl (by decide) (by decide) rfl ?_
        refine aw_goto (tgt := 4) dX11_together_42 (by decide) ?_
        have e : togC V s (u + 1) = (togC V s u) + 0 := by show _ + _ = _; simp only [c_4, if_true, if_false]
        refine aw_sub [(3, .int (nI (u + 1))), (2, .int (nI (togC V s (u + 1)))), (0, .ref o), (1, .int (nI s))] (by rw [e]; simp) ?_
        exact ih _ (by omega) (u + 1) rfl (by omega)
      · refine aw_sipush_n 168 dX11_together_24 (by decide) ?_
        refine aw_aload_n dX11_together_27 rfl rfl ?_
        refine aw_iload_n dX11_together_28 rfl rfl ?_
        refine aw_vI (as := [Value.int (nI u)]) (rest := [Value.int (nI 168), Value.int (nI (togC V s u))]) mV_X11_period (m_period hA (k := u) (len := V (4 + u)) (by omega) rfl (by omega)) ml_X11_92 mU_0 rfl dX11_together_29 rfl rfl (by decide) (Nat.le_of_ble_eq_true rfl) (by decide) ?_
        refine aw_idiv_n (by omega) (by omega) (by omega) dX11_together_32 ?_
        refine aw_goto (tgt := 37) dX11_together_33 (by decide) ?_
        refine aw_iadd_n dX11_together_37 ?_
        refine aw_istore_n (L' := [(2, .int (nI ((togC V s u) + (168 / (perN (V (4 + u))))))), (3, .int (nI u)), (0, .ref o), (1, .int (nI s))]) dX11_together_38 rfl (by decide) rfl ?_
        refine aw_iinc_n (L' := [(3, .int (nI (u + 1))), (2, .int (nI ((togC V s u) + (168 / (perN (V (4 + u))))))), (0, .ref o), (1, .int (nI s))]) 1 dX11_together_39 rfl (by decide) (by decide) rfl ?_
        refine aw_goto (tgt := 4) dX11_together_42 (by decide) ?_
        have e : togC V s (u + 1) = (togC V s u) + (168 / (perN (V (4 + u)))) := by show _ + _ = _; simp only [c_4, if_true, if_false]
        refine aw_sub [(3, .int (nI (u + 1))), (2, .int (nI (togC V s (u + 1)))), (0, .ref o), (1, .int (nI s))] (by rw [e]; simp) ?_
        exact ih _ (by omega) (u + 1) rfl (by omega)
set_option maxHeartbeats 4000000 in
theorem m_tog {l : Launch} {G : GT} {n : Nat} {f : HT} {o : Nat} {I : Nat → Int32} {A : Nat → Nat → Int32} {K : Nat} {V : Nat → Nat} (hA : Mok A V) (hB : VB K V) {s : Nat} (hs : s < 256) : AM l G yX11_together (.code yX11_together cX11_together 4 (some .int)) 1 60 0 0 [.ref o, .int (nI s)] (mU f o I A) n (rI (nI (togN V s)) (mU f o I A) n) := by
  refine aw_enter (M := MX11_together) rfl rfl (by decide +kernel) rfl (Nat.le_of_ble_eq_true rfl) ?_
  show AW l G MX11_together 1 60 0 0 _ n 0 0 0 [(0, .ref o), (1, .int (nI s))] [] _ n
  refine aw_iconst_n 0 dX11_together_0 (by decide) ?_
  refine aw_istore_n (L' := [(2, .int (nI 0)), (0, .ref o), (1, .int (nI s))]) dX11_together_1 rfl (by decide) rfl ?_
  refine aw_iconst_n 0 dX11_together_2 (by decide) ?_
  refine aw_istore_n (L' := [(3, .int (nI 0)), (2, .int (nI 0)), (0, .ref o), (1, .int (nI s))]) dX11_together_3 rfl (by decide) rfl ?_
  exact m_tog_loop hA hB hs _ 0 rfl (Nat.zero_le _)
abbrev MX11_fewestFor : MT := (RX11, cX11_fewestFor, 4, (some .int), [], "fewestFor")
set_option maxHeartbeats 4000000 in
theorem m_few_loop {l : Launch} {G : GT} {n : Nat} {f : HT} {o : Nat} {I : Nat → Int32} {A : Nat → Nat → Int32} {K : Nat} {V : Nat → Nat} (hA : Mok A V) (hB : VB K V) {t : Nat} (ht1 : 1 ≤ t) (ht : t ≤ 999) (hq : inB (nI t) (nI 1) (nI 999) = true) : ∀ (N : Nat) (s : Nat), (2 ^ V 2 - s = N) → (s ≤ 2 ^ V 2) → AW l G MX11_fewestFor 2 120 0 0 (RQ f o I A (qFew V (nI t)) n) n 0 0 22 [(3, .int (nI s)), (2, .int (nI (fewG V t s))), (0, .ref o), (1, .int (nI t))] [] (mU f o I A) n := by
  intro N
  induction N using Nat.strongRecOn with
  | ind N ih =>
    intro s hN hs
    have hcnt := VB.cnt hB
    have hleg := VB.legs hB
    have hfr := VB.fric hB
    have hnow := VB.now hB
    have hkk := VB.kk hB
    have hpw := pow_le hcnt
    have hfl := few_le V t s
    refine aw_iload_n dX11_fewestFor_22 rfl rfl ?_
    refine aw_iconst_n 1 dX11_fewestFor_23 (by decide) ?_
    refine aw_aload_n dX11_fewestFor_24 rfl rfl ?_
    refine aw_get (v := .ref (o + 1)) fl_X11_7 mU_0 rfl dX11_fewestFor_25 ?_
    refine aw_iconst_n 2 dX11_fewestFor_28 (by decide) ?_
    refine aw_mld hA (k := 2) (by omega) dX11_fewestFor_29 ?_
    have hb_1 : V 2 < 16000000 := VB.lt hB (by omega)
    refine aw_shl (k := V 2) (by omega) dX11_fewestFor_30 (fun hpw_2 => ?_)
    refine aw_icmp_ge_n (by omega) (by omega) (tgt := 66) dX11_fewestFor_31 (by decide) (fun c_3 => ?_) (fun c_3 => ?_)
    · have e : s = 2 ^ V 2 := by omega
      refine aw_iload_n dX11_fewestFor_66 rfl rfl ?_
      refine aw_bipush_n 8 dX11_fewestFor_67 (by decide) ?_
      refine aw_icmp_le_n (by omega) (by omega) (tgt := 80) dX11_fewestFor_69 (by decide) (fun c_4 => ?_) (fun c_4 => ?_)
      · refine aw_aload_n dX11_fewestFor_80 rfl rfl ?_
        refine aw_iload_n dX11_fewestFor_81 rfl rfl ?_
        refine aw_vI (as := [Value.int (nI (fewG V t s))]) (rest := []) mV_X11_done (m_done (nI (fewG V t s))) ml_X11_60 mU_0 rfl dX11_fewestFor_82 rfl rfl (by decide) (Nat.le_of_ble_eq_true rfl) (by decide) ?_
        exact aw_iret rfl (by decide) (by decide) dX11_fewestFor_85 (RQ_of (by simp [qFew, hq, ← e, nIc (show t < 2 ^ 31 by omega), c_4]))
      · refine aw_aload_n dX11_fewestFor_72 rfl rfl ?_
        refine aw_iconst_n 2 dX11_fewestFor_73 (by decide) ?_
        refine aw_vI (as := [Value.int (nI 2)]) (rest := []) mV_X11_fails (m_fails 2) ml_X11_56 mU_0 rfl dX11_fewestFor_74 rfl rfl (by decide) (Nat.le_of_ble_eq_true rfl) (by decide) ?_
        refine aw_goto (tgt := 85) dX11_fewestFor_77 (by decide) ?_
        exact aw_iret rfl (by decide) (by decide) dX11_fewestFor_85 (RQ_of (by simp only [qFew, hq, if_true, ← e, nIc (show t < 2 ^ 31 by omega)]; rw [if_neg (by omega)]))
    · refine aw_aload_n dX11_fewestFor_34 rfl rfl ?_
      refine aw_iload_n dX11_fewestFor_35 rfl rfl ?_
      refine aw_vI (as := [Value.int (nI s)]) (rest := []) mV_X11_together (m_tog hA hB (by omega)) ml_X11_165 mU_0 rfl dX11_fewestFor_36 rfl rfl (by decide) (Nat.le_of_ble_eq_true rfl) (by decide) ?_
      have htg := tog_le V s (V 2)
      have htg : togN V s ≤ 168 * V 2 := htg
      refine aw_iload_n dX11_fewestFor_39 rfl rfl ?_
      refine aw_icmp_lt_n (by omega) (by omega) (tgt := 58) dX11_fewestFor_40 (by decide) (fun c_5 => ?_) (fun c_5 => ?_)
      · refine aw_iload_n dX11_fewestFor_58 rfl rfl ?_
        refine aw_istore_n (L' := [(2, .int (nI (fewG V t s))), (3, .int (nI s)), (0, .ref o), (1, .int (nI t))]) dX11_fewestFor_59 rfl (by decide) rfl ?_
        refine aw_iinc_n (L' := [(3, .int (nI (s + 1))), (2, .int (nI (fewG V t s))), (0, .ref o), (1, .int (nI t))]) 1 dX11_fewestFor_60 rfl (by decide) (by decide) rfl ?_
        refine aw_goto (tgt := 22) dX11_fewestFor_63 (by decide) ?_
        have e : fewG V t (s + 1) = fewG V t s := by rw [few_s]; first | rw [if_pos (by omega)] | rw [if_neg (by omega)]
        refine aw_sub [(3, .int (nI (s + 1))), (2, .int (nI (fewG V t (s + 1)))), (0, .ref o), (1, .int (nI t))] (by rw [e]; simp) ?_
        exact ih _ (by omega) (s + 1) rfl (by omega)
      · refine aw_iload_n dX11_fewestFor_43 rfl rfl ?_
        refine aw_sI (as := [Value.int (nI s)]) (rest := []) mS_X11_members (m_mem (by omega)) ml_X11_152 dX11_fewestFor_44 rfl rfl (by decide) (Nat.le_of_ble_eq_true rfl) (by decide) ?_
        have hmm5 : memN s ≤ 8 := memC_le _ 8
        refine aw_iload_n dX11_fewestFor_47 rfl rfl ?_
        refine aw_icmp_ge_n (by omega) (by omega) (tgt := 58) dX11_fewestFor_48 (by decide) (fun c_6 => ?_) (fun c_6 => ?_)
        · refine aw_iload_n dX11_fewestFor_58 rfl rfl ?_
          refine aw_istore_n (L' := [(2, .int (nI (fewG V t s))), (3, .int (nI s)), (0, .ref o), (1, .int (nI t))]) dX11_fewestFor_59 rfl (by decide) rfl ?_
          refine aw_iinc_n (L' := [(3, .int (nI (s + 1))), (2, .int (nI (fewG V t s))), (0, .ref o), (1, .int (nI t))]) 1 dX11_fewestFor_60 rfl (by decide) (by decide) rfl ?_
          refine aw_goto (tgt := 22) dX11_fewestFor_63 (by decide) ?_
          have e : fewG V t (s + 1) = fewG V t s := by rw [few_s]; first | rw [if_pos (by omega)] | rw [if_neg (by omega)]
          refine aw_sub [(3, .int (nI (s + 1))), (2, .int (nI (fewG V t (s + 1)))), (0, .ref o), (1, .int (nI t))] (by rw [e]; simp) ?_
          exact ih _ (by omega) (s + 1) rfl (by omega)
        · refine aw_iload_n dX11_fewestFor_51 rfl rfl ?_
          refine aw_sI (as := [Value.int (nI s)]) (rest := []) mS_X11_members (m_mem (by omega)) ml_X11_152 dX11_fewestFor_52 rfl rfl (by decide) (Nat.le_of_ble_eq_true rfl) (by decide) ?_
          have hmm6 : memN s ≤ 8 := memC_le _ 8
          refine aw_goto (tgt := 59) dX11_fewestFor_55 (by decide) ?_
          refine aw_istore_n (L' := [(2, .int (nI (memN s))), (3, .int (nI s)), (0, .ref o), (1, .int (nI t))]) dX11_fewestFor_59 rfl (by decide) rfl ?_
          refine aw_iinc_n (L' := [(3, .int (nI (s + 1))), (2, .int (nI (memN s))), (0, .ref o), (1, .int (nI t))]) 1 dX11_fewestFor_60 rfl (by decide) (by decide) rfl ?_
          refine aw_goto (tgt := 22) dX11_fewestFor_63 (by decide) ?_
          have e : fewG V t (s + 1) = memN s := by rw [few_s]; first | rw [if_pos (by omega)] | rw [if_neg (by omega)]
          refine aw_sub [(3, .int (nI (s + 1))), (2, .int (nI (fewG V t (s + 1)))), (0, .ref o), (1, .int (nI t))] (by rw [e]; simp) ?_
          exact ih _ (by omega) (s + 1) rfl (by omega)
set_option maxHeartbeats 4000000 in
theorem m_fewestFor {l : Launch} {G : GT} {n : Nat} {f : HT} {o : Nat} {I : Nat → Int32} {A : Nat → Nat → Int32} {K : Nat} {V : Nat → Nat} (hA : Mok A V) (hB : VB K V) (v : Int32) : AM l G yX11_fewestFor (.code yX11_fewestFor cX11_fewestFor 4 (some .int)) 2 120 0 0 [.ref o, .int v] (mU f o I A) n (RQ f o I A (qFew V v) n) := by
  refine aw_enter (M := MX11_fewestFor) rfl rfl (by decide +kernel) rfl (Nat.le_of_ble_eq_true rfl) ?_
  have hcnt := VB.cnt hB
  have hleg := VB.legs hB
  have hfr := VB.fric hB
  have hnow := VB.now hB
  have hkk := VB.kk hB
  show AW l G MX11_fewestFor 2 120 0 0 _ n 0 0 0 [(0, .ref o), (1, .int v)] [] _ n
  refine aw_iload_n dX11_fewestFor_0 rfl rfl ?_
  refine aw_iconst_n 1 dX11_fewestFor_1 (by decide) ?_
  refine aw_sipush_n 999 dX11_fewestFor_2 (by decide) ?_
  refine aw_sI (as := [Value.int v, Value.int (nI 1), Value.int (nI 999)]) (rest := []) mS_X11_in (m_in _ _ _) ml_X11_52 dX11_fewestFor_5 rfl rfl (by decide) (Nat.le_of_ble_eq_true rfl) (by decide) ?_
  refine aw_if_ne_b (tgt := 17) dX11_fewestFor_8 (by decide) (fun c_1 => ?_) (fun c_1 => ?_)
  · have hq := c_1
    obtain ⟨t, ht0, ht1, rfl⟩ := inB_of (by decide) (by decide) c_1
    refine aw_bipush_n 9 dX11_fewestFor_17 (by decide) ?_
    refine aw_istore_n (L' := [(2, .int (nI 9)), (0, .ref o), (1, .int (nI t))]) dX11_fewestFor_19 rfl (by decide) rfl ?_
    refine aw_iconst_n 0 dX11_fewestFor_20 (by decide) ?_
    refine aw_istore_n (L' := [(3, .int (nI 0)), (2, .int (nI 9)), (0, .ref o), (1, .int (nI t))]) dX11_fewestFor_21 rfl (by decide) rfl ?_
    exact aw_sub [(3, .int (nI 0)), (2, .int (nI 9)), (0, .ref o), (1, .int (nI t))] (by simp) (m_few_loop hA hB ht0 ht1 hq _ 0 rfl (Nat.zero_le _))
  · refine aw_aload_n dX11_fewestFor_11 rfl rfl ?_
    refine aw_iconst_n 1 dX11_fewestFor_12 (by decide) ?_
    refine aw_vI (as := [Value.int (nI 1)]) (rest := []) mV_X11_fails (m_fails 1) ml_X11_56 mU_0 rfl dX11_fewestFor_13 rfl rfl (by decide) (Nat.le_of_ble_eq_true rfl) (by decide) ?_
    exact aw_iret rfl (by decide) (by decide) dX11_fewestFor_16 (RQ_of (by simp [qFew, c_1]))
abbrev MX11_fewestForBySets : MT := (RX11, cX11_fewestForBySets, 2, (some .int), [], "fewestForBySets")
set_option maxHeartbeats 4000000 in
theorem m_fewestForBySets {l : Launch} {G : GT} {n : Nat} {f : HT} {o : Nat} {I : Nat → Int32} {A : Nat → Nat → Int32} {K : Nat} {V : Nat → Nat} (hA : Mok A V) (hB : VB K V) (v : Int32) : AM l G yX11_fewestForBySets (.code yX11_fewestForBySets cX11_fewestForBySets 2 (some .int)) 3 180 0 0 [.ref o, .int v] (mU f o I A) n (RQ f o I A (qFew V v) n) := by
  refine aw_enter (M := MX11_fewestForBySets) rfl rfl (by decide +kernel) rfl (Nat.le_of_ble_eq_true rfl) ?_
  have hcnt := VB.cnt hB
  have hleg := VB.legs hB
  have hfr := VB.fric hB
  have hnow := VB.now hB
  have hkk := VB.kk hB
  show AW l G MX11_fewestForBySets 3 180 0 0 _ n 0 0 0 [(0, .ref o), (1, .int v)] [] _ n
  refine aw_aload_n dX11_fewestForBySets_0 rfl rfl ?_
  refine aw_iload_n dX11_fewestForBySets_1 rfl rfl ?_
  refine aw_vI (as := [Value.int v]) (rest := []) mV_X11_fewestFor (m_fewestFor hA hB v) ml_X11_168 mU_0 rfl dX11_fewestForBySets_2 rfl rfl (by decide) (Nat.le_of_ble_eq_true rfl) (by decide) ?_
  exact aw_iret rfl (by decide) (by decide) dX11_fewestForBySets_5 ⟨rfl, rfl, rfl⟩
abbrev MX11_exactSets : MT := (RX11, cX11_exactSets, 4, (some .int), [], "exactSets")
set_option maxHeartbeats 4000000 in
theorem m_exa_loop {l : Launch} {G : GT} {n : Nat} {f : HT} {o : Nat} {I : Nat → Int32} {A : Nat → Nat → Int32} {K : Nat} {V : Nat → Nat} (hA : Mok A V) (hB : VB K V) {t : Nat} (ht : t ≤ 999) (hq : inB (nI t) (nI 0) (nI 999) = true) : ∀ (N : Nat) (s : Nat), (2 ^ V 2 - s = N) → (s ≤ 2 ^ V 2) → AW l G MX11_exactSets 2 120 0 0 (RQ f o I A (qExa V (nI t)) n) n 0 0 21 [(3, .int (nI s)), (2, .int (nI (exaG V t s))), (0, .ref o), (1, .int (nI t))] [] (mU f o I A) n := by
  intro N
  induction N using Nat.strongRecOn with
  | ind N ih =>
    intro s hN hs
    have hcnt := VB.cnt hB
    have hleg := VB.legs hB
    have hfr := VB.fric hB
    have hnow := VB.now hB
    have hkk := VB.kk hB
    have hpw := pow_le hcnt
    have hfl := exa_le V t s
    refine aw_iload_n dX11_exactSets_21 rfl rfl ?_
    refine aw_iconst_n 1 dX11_exactSets_22 (by decide) ?_
    refine aw_aload_n dX11_exactSets_23 rfl rfl ?_
    refine aw_get (v := .ref (o + 1)) fl_X11_7 mU_0 rfl dX11_exactSets_24 ?_
    refine aw_iconst_n 2 dX11_exactSets_27 (by decide) ?_
    refine aw_mld hA (k := 2) (by omega) dX11_exactSets_28 ?_
    have hb_1 : V 2 < 16000000 := VB.lt hB (by omega)
    refine aw_shl (k := V 2) (by omega) dX11_exactSets_29 (fun hpw_2 => ?_)
    refine aw_icmp_ge_n (by omega) (by omega) (tgt := 56) dX11_exactSets_30 (by decide) (fun c_3 => ?_) (fun c_3 => ?_)
    · have e : s = 2 ^ V 2 := by omega
      refine aw_aload_n dX11_exactSets_56 rfl rfl ?_
      refine aw_iload_n dX11_exactSets_57 rfl rfl ?_
      refine aw_vI (as := [Value.int (nI (exaG V t s))]) (rest := []) mV_X11_done (m_done (nI (exaG V t s))) ml_X11_60 mU_0 rfl dX11_exactSets_58 rfl rfl (by decide) (Nat.le_of_ble_eq_true rfl) (by decide) ?_
      exact aw_iret rfl (by decide) (by decide) dX11_exactSets_61 (RQ_of (by simp [qExa, hq, ← e, nIc (show t < 2 ^ 31 by omega)]))
    · refine aw_iload_n dX11_exactSets_33 rfl rfl ?_
      refine aw_aload_n dX11_exactSets_34 rfl rfl ?_
      refine aw_iload_n dX11_exactSets_35 rfl rfl ?_
      refine aw_vI (as := [Value.int (nI s)]) (rest := [Value.int (nI (exaG V t s))]) mV_X11_together (m_tog hA hB (by omega)) ml_X11_165 mU_0 rfl dX11_exactSets_36 rfl rfl (by decide) (Nat.le_of_ble_eq_true rfl) (by decide) ?_
      have htg := tog_le V s (V 2)
      have htg : togN V s ≤ 168 * V 2 := htg
      refine aw_iload_n dX11_exactSets_39 rfl rfl ?_
      refine aw_icmp_ne_n (by omega) (by omega) (tgt := 47) dX11_exactSets_40 (by decide) (fun c_4 => ?_) (fun c_4 => ?_)
      · refine aw_iconst_n 0 dX11_exactSets_47 (by decide) ?_
        refine aw_iadd_n dX11_exactSets_48 ?_
        refine aw_istore_n (L' := [(2, .int (nI ((exaG V t s) + 0))), (3, .int (nI s)), (0, .ref o), (1, .int (nI t))]) dX11_exactSets_49 rfl (by decide) rfl ?_
        refine aw_iinc_n (L' := [(3, .int (nI (s + 1))), (2, .int (nI ((exaG V t s) + 0))), (0, .ref o), (1, .int (nI t))]) 1 dX11_exactSets_50 rfl (by decide) (by decide) rfl ?_
        refine aw_goto (tgt := 21) dX11_exactSets_53 (by decide) ?_
        have e : exaG V t (s + 1) = (exaG V t s) + 0 := by rw [exa_s]; simp [c_4]
        refine aw_sub [(3, .int (nI (s + 1))), (2, .int (nI (exaG V t (s + 1)))), (0, .ref o), (1, .int (nI t))] (by rw [e]; simp) ?_
        exact ih _ (by omega) (s + 1) rfl (by omega)
      · refine aw_iconst_n 1 dX11_exactSets_43 (by decide) ?_
        refine aw_goto (tgt := 48) dX11_exactSets_44 (by decide) ?_
        refine aw_iadd_n dX11_exactSets_48 ?_
        refine aw_istore_n (L' := [(2, .int (nI ((exaG V t s) + 1))), (3, .int (nI s)), (0, .ref o), (1, .int (nI t))]) dX11_exactSets_49 rfl (by decide) rfl ?_
        refine aw_iinc_n (L' := [(3, .int (nI (s + 1))), (2, .int (nI ((exaG V t s) + 1))), (0, .ref o), (1, .int (nI t))]) 1 dX11_exactSets_50 rfl (by decide) (by decide) rfl ?_
        refine aw_goto (tgt := 21) dX11_exactSets_53 (by decide) ?_
        have e : exaG V t (s + 1) = (exaG V t s) + 1 := by rw [exa_s]; simp [c_4]
        refine aw_sub [(3, .int (nI (s + 1))), (2, .int (nI (exaG V t (s + 1)))), (0, .ref o), (1, .int (nI t))] (by rw [e]; simp) ?_
        exact ih _ (by omega) (s + 1) rfl (by omega)
set_option maxHeartbeats 4000000 in
theorem m_exactSets {l : Launch} {G : GT} {n : Nat} {f : HT} {o : Nat} {I : Nat → Int32} {A : Nat → Nat → Int32} {K : Nat} {V : Nat → Nat} (hA : Mok A V) (hB : VB K V) (v : Int32) : AM l G yX11_exactSets (.code yX11_exactSets cX11_exactSets 4 (some .int)) 2 120 0 0 [.ref o, .int v] (mU f o I A) n (RQ f o I A (qExa V v) n) := by
  refine aw_enter (M := MX11_exactSets) rfl rfl (by decide +kernel) rfl (Nat.le_of_ble_eq_true rfl) ?_
  have hcnt := VB.cnt hB
  have hleg := VB.legs hB
  have hfr := VB.fric hB
  have hnow := VB.now hB
  have hkk := VB.kk hB
  show AW l G MX11_exactSets 2 120 0 0 _ n 0 0 0 [(0, .ref o), (1, .int v)] [] _ n
  refine aw_iload_n dX11_exactSets_0 rfl rfl ?_
  refine aw_iconst_n 0 dX11_exactSets_1 (by decide) ?_
  refine aw_sipush_n 999 dX11_exactSets_2 (by decide) ?_
  refine aw_sI (as := [Value.int v, Value.int (nI 0), Value.int (nI 999)]) (rest := []) mS_X11_in (m_in _ _ _) ml_X11_52 dX11_exactSets_5 rfl rfl (by decide) (Nat.le_of_ble_eq_true rfl) (by decide) ?_
  refine aw_if_ne_b (tgt := 17) dX11_exactSets_8 (by decide) (fun c_1 => ?_) (fun c_1 => ?_)
  · have hq := c_1
    obtain ⟨t, ht0, ht1, rfl⟩ := inB_of (by decide) (by decide) c_1
    refine aw_iconst_n 0 dX11_exactSets_17 (by decide) ?_
    refine aw_istore_n (L' := [(2, .int (nI 0)), (0, .ref o), (1, .int (nI t))]) dX11_exactSets_18 rfl (by decide) rfl ?_
    refine aw_iconst_n 0 dX11_exactSets_19 (by decide) ?_
    refine aw_istore_n (L' := [(3, .int (nI 0)), (2, .int (nI 0)), (0, .ref o), (1, .int (nI t))]) dX11_exactSets_20 rfl (by decide) rfl ?_
    exact aw_sub [(3, .int (nI 0)), (2, .int (nI 0)), (0, .ref o), (1, .int (nI t))] (by simp) (m_exa_loop hA hB ht1 hq _ 0 rfl (Nat.zero_le _))
  · refine aw_aload_n dX11_exactSets_11 rfl rfl ?_
    refine aw_iconst_n 1 dX11_exactSets_12 (by decide) ?_
    refine aw_vI (as := [Value.int (nI 1)]) (rest := []) mV_X11_fails (m_fails 1) ml_X11_56 mU_0 rfl dX11_exactSets_13 rfl rfl (by decide) (Nat.le_of_ble_eq_true rfl) (by decide) ?_
    exact aw_iret rfl (by decide) (by decide) dX11_exactSets_16 (RQ_of (by simp [qExa, c_1]))
abbrev MX11_meetingPairs : MT := (RX11, cX11_meetingPairs, 6, (some .int), [], "meetingPairs")
set_option maxHeartbeats 4000000 in
theorem m_prI_loop {l : Launch} {G : GT} {n : Nat} {f : HT} {o : Nat} {I : Nat → Int32} {A : Nat → Nat → Int32} {K : Nat} {V : Nat → Nat} (hA : Mok A V) (hB : VB K V) {c tot : Nat} (hc9 : c < V 2) (ht9 : tot ≤ 64) (hN : AW l G MX11_meetingPairs 2 120 0 0 (RQ f o I A (0, prO V (V 2)) n) n 0 0 106 [(1, .int (nI (tot + prI V c c))), (2, .int (nI c)), (0, .ref o)] [] (mU f o I A) n) : ∀ (N : Nat) (a : Nat), (c - a = N) → (a ≤ c) → AW l G MX11_meetingPairs 2 120 0 0 (RQ f o I A (0, prO V (V 2)) n) n 0 0 16 [(3, .int (nI a)), (1, .int (nI (tot + prI V c a))), (2, .int (nI c)), (0, .ref o)] [] (mU f o I A) n := by
  intro N
  induction N using Nat.strongRecOn with
  | ind N ih =>
    intro a hM ha
    have hcnt := VB.cnt hB
    have hleg := VB.legs hB
    have hfr := VB.fric hB
    have hnow := VB.now hB
    have hkk := VB.kk hB
    have hpl9 := prI_le V c a
    refine aw_iload_n dX11_meetingPairs_16 rfl rfl ?_
    refine aw_iload_n dX11_meetingPairs_17 rfl rfl ?_
    refine aw_icmp_ge_n (by omega) (by omega) (tgt := 106) dX11_meetingPairs_18 (by decide) (fun c_1 => ?_) (fun c_1 => ?_)
    · have e : a = c := by omega
      subst e
      exact aw_sub _ (by simp) hN
    · have hax := VB.amp hB (k := a) (by omega)
      have hlx := VB.len hB (k := a) (by omega)
      have hl1 := VB.len1 hB (k := a) (by omega)
      have hsx := VB.start hB (k := a) (by omega)
      have hwx := VB.sw hB (k := a) (by omega)
      have hnx := nIc (show a < 2 ^ 31 by omega)
      have hpp := per_pos hl1
      have hpl := per_le hlx
      have hay := VB.amp hB (k := c) (by omega)
      have hly := VB.len hB (k := c) (by omega)
      have hl2 := VB.len1 hB (k := c) (by omega)
      have hsy := VB.start hB (k := c) (by omega)
      have hwy := VB.sw hB (k := c) (by omega)
      have hny := nIc (show c < 2 ^ 31 by omega)
      have hpq := per_pos hl2
      have hpm := per_le hly
      have hgp := Nat.gcd_pos_of_pos_left (perN (V (4 + c))) (show 0 < perN (V (4 + a)) by omega)
      have hgl := Nat.gcd_le_left (perN (V (4 + c))) (show 0 < perN (V (4 + a)) by omega)
      have hap : apart (V (20 + a)) (V (20 + c)) < 16000000 := by unfold apart; omega
      refine aw_aload_n dX11_meetingPairs_21 rfl rfl ?_
      refine aw_get (v := .ref (o + 1)) fl_X11_7 mU_0 rfl dX11_meetingPairs_22 ?_
      refine aw_bipush_n 20 dX11_meetingPairs_25 (by decide) ?_
      refine aw_iload_n dX11_meetingPairs_27 rfl rfl ?_
      refine aw_iadd_n dX11_meetingPairs_28 ?_
      refine aw_mld hA (k := 20 + a) (by omega) dX11_meetingPairs_29 ?_
      have hb_2 : V (20 + a) < 16000000 := VB.lt hB (by omega)
      refine aw_aload_n dX11_meetingPairs_30 rfl rfl ?_
      refine aw_get (v := .ref (o + 1)) fl_X11_7 mU_0 rfl dX11_meetingPairs_31 ?_
      refine aw_bipush_n 20 dX11_meetingPairs_34 (by decide) ?_
      refine aw_iload_n dX11_meetingPairs_36 rfl rfl ?_
      refine aw_iadd_n dX11_meetingPairs_37 ?_
      refine aw_mld hA (k := 20 + c) (by omega) dX11_meetingPairs_38 ?_
      have hb_3 : V (20 + c) < 16000000 := VB.lt hB (by omega)
      refine aw_isub dX11_meetingPairs_39 ?_
      refine aw_sI (as := [Value.int ((nI (V (20 + a))) - (nI (V (20 + c))))]) (rest := []) mS_X11_size (m_size _) ml_X11_139 dX11_meetingPairs_40 rfl rfl (by decide) (Nat.le_of_ble_eq_true rfl) (by decide) ?_
      rw [abs_nI (by omega) (by omega)]
      refine aw_istore (L' := [(4, .int (nI (apart (V (20 + a)) (V (20 + c))))), (3, .int (nI a)), (1, .int (nI (tot + prI V c a))), (2, .int (nI c)), (0, .ref o)]) dX11_meetingPairs_43 (by decide) rfl ?_
      refine aw_aload_n dX11_meetingPairs_45 rfl rfl ?_
      refine aw_iload_n dX11_meetingPairs_46 rfl rfl ?_
      refine aw_vI (as := [Value.int (nI a)]) (rest := []) mV_X11_rests (m_rests hA (k := a) (a := V (12 + a)) (by omega) rfl (by omega)) ml_X11_76 mU_0 rfl dX11_meetingPairs_47 rfl rfl (by decide) (Nat.le_of_ble_eq_true rfl) (by decide) ?_
      refine aw_if_ne_b (tgt := 65) dX11_meetingPairs_50 (by decide) (fun c_4 => ?_) (fun c_4 => ?_)
      · have c_4d := of_decide_eq_true c_4
        refine aw_iconst_n 0 dX11_meetingPairs_65 (by decide) ?_
        refine aw_istore (L' := [(5, .int (nI 0)), (4, .int (nI (apart (V (20 + a)) (V (20 + c))))), (3, .int (nI a)), (1, .int (nI (tot + prI V c a))), (2, .int (nI c)), (0, .ref o)]) dX11_meetingPairs_66 (by decide) rfl ?_
        refine aw_iload_n dX11_meetingPairs_68 rfl rfl ?_
        refine aw_iload dX11_meetingPairs_69 rfl ?_
        refine aw_if_eq_n (by omega) (tgt := 97) dX11_meetingPairs_71 (by decide) (fun c_5 => ?_) (fun c_5 => ?_)
        · refine aw_iconst_n 0 dX11_meetingPairs_97 (by decide) ?_
          refine aw_iadd_n dX11_meetingPairs_98 ?_
          refine aw_istore_n (L' := [(1, .int (nI ((tot + prI V c a) + 0))), (5, .int (nI 0)), (4, .int (nI (apart (V (20 + a)) (V (20 + c))))), (3, .int (nI a)), (2, .int (nI c)), (0, .ref o)]) dX11_meetingPairs_99 rfl (by decide) rfl ?_
          refine aw_iinc_n (L' := [(3, .int (nI (a + 1))), (1, .int (nI ((tot + prI V c a) + 0))), (5, .int (nI 0)), (4, .int (nI (apart (V (20 + a)) (V (20 + c))))), (2, .int (nI c)), (0, .ref o)]) 1 dX11_meetingPairs_100 rfl (by decide) (by decide) rfl ?_
          refine aw_goto (tgt := 16) dX11_meetingPairs_103 (by decide) ?_
          have hpb : pairB V a c = false := decide_eq_false (by omega)
          have e : prI V c (a + 1) = (prI V c a) + 0 := by show prI V c a + _ = _; rw [hpb]; rfl
          refine aw_sub [(3, .int (nI (a + 1))), (1, .int (nI (tot + prI V c (a + 1)))), (2, .int (nI c)), (0, .ref o)] (by rw [e]; simp [Nat.add_assoc]) ?_
          exact ih _ (by omega) (a + 1) rfl (by omega)
        · refine aw_iload dX11_meetingPairs_74 rfl ?_
          refine aw_aload_n dX11_meetingPairs_76 rfl rfl ?_
          refine aw_iload_n dX11_meetingPairs_77 rfl rfl ?_
          refine aw_vI (as := [Value.int (nI a)]) (rest := [Value.int (nI (apart (V (20 + a)) (V (20 + c)))), Value.int (nI (tot + prI V c a))]) mV_X11_period (m_period hA (k := a) (len := V (4 + a)) (by omega) rfl (by omega)) ml_X11_92 mU_0 rfl dX11_meetingPairs_78 rfl rfl (by decide) (Nat.le_of_ble_eq_true rfl) (by decide) ?_
          refine aw_aload_n dX11_meetingPairs_81 rfl rfl ?_
          refine aw_iload_n dX11_meetingPairs_82 rfl rfl ?_
          refine aw_vI (as := [Value.int (nI c)]) (rest := [Value.int (nI (perN (V (4 + a)))), Value.int (nI (apart (V (20 + a)) (V (20 + c)))), Value.int (nI (tot + prI V c a))]) mV_X11_period (m_period hA (k := c) (len := V (4 + c)) (by omega) rfl (by omega)) ml_X11_92 mU_0 rfl dX11_meetingPairs_83 rfl rfl (by decide) (Nat.le_of_ble_eq_true rfl) (by decide) ?_
          refine aw_sI (as := [Value.int (nI (perN (V (4 + a)))), Value.int (nI (perN (V (4 + c))))]) (rest := [Value.int (nI (apart (V (20 + a)) (V (20 + c)))), Value.int (nI (tot + prI V c a))]) mS_X11_divisor (m_div (by omega) (by omega)) ml_X11_127 dX11_meetingPairs_86 rfl rfl (by decide) (Nat.le_of_ble_eq_true rfl) (by decide) ?_
          refine aw_irem_n (by omega) (by omega) (by omega) dX11_meetingPairs_89 ?_
          have hm_6 : (apart (V (20 + a)) (V (20 + c))) % (Nat.gcd (perN (V (4 + a))) (perN (V (4 + c)))) < Nat.gcd (perN (V (4 + a))) (perN (V (4 + c))) := Nat.mod_lt _ (by omega)
          refine aw_if_ne_n (by omega) (tgt := 97) dX11_meetingPairs_90 (by decide) (fun c_7 => ?_) (fun c_7 => ?_)
          · refine aw_iconst_n 0 dX11_meetingPairs_97 (by decide) ?_
            refine aw_iadd_n dX11_meetingPairs_98 ?_
            refine aw_istore_n (L' := [(1, .int (nI ((tot + prI V c a) + 0))), (5, .int (nI 0)), (4, .int (nI (apart (V (20 + a)) (V (20 + c))))), (3, .int (nI a)), (2, .int (nI c)), (0, .ref o)]) dX11_meetingPairs_99 rfl (by decide) rfl ?_
            refine aw_iinc_n (L' := [(3, .int (nI (a + 1))), (1, .int (nI ((tot + prI V c a) + 0))), (5, .int (nI 0)), (4, .int (nI (apart (V (20 + a)) (V (20 + c))))), (2, .int (nI c)), (0, .ref o)]) 1 dX11_meetingPairs_100 rfl (by decide) (by decide) rfl ?_
            refine aw_goto (tgt := 16) dX11_meetingPairs_103 (by decide) ?_
            have hpb : pairB V a c = false := decide_eq_false (by omega)
            have e : prI V c (a + 1) = (prI V c a) + 0 := by show prI V c a + _ = _; rw [hpb]; rfl
            refine aw_sub [(3, .int (nI (a + 1))), (1, .int (nI (tot + prI V c (a + 1)))), (2, .int (nI c)), (0, .ref o)] (by rw [e]; simp [Nat.add_assoc]) ?_
            exact ih _ (by omega) (a + 1) rfl (by omega)
          · refine aw_iconst_n 1 dX11_meetingPairs_93 (by decide) ?_
            refine aw_goto (tgt := 98) dX11_meetingPairs_94 (by decide) ?_
            refine aw_iadd_n dX11_meetingPairs_98 ?_
            refine aw_istore_n (L' := [(1, .int (nI ((tot + prI V c a) + 1))), (5, .int (nI 0)), (4, .int (nI (apart (V (20 + a)) (V (20 + c))))), (3, .int (nI a)), (2, .int (nI c)), (0, .ref o)]) dX11_meetingPairs_99 rfl (by decide) rfl ?_
            refine aw_iinc_n (L' := [(3, .int (nI (a + 1))), (1, .int (nI ((tot + prI V c a) + 1))), (5, .int (nI 0)), (4, .int (nI (apart (V (20 + a)) (V (20 + c))))), (2, .int (nI c)), (0, .ref o)]) 1 dX11_meetingPairs_100 rfl (by decide) (by decide) rfl ?_
            refine aw_goto (tgt := 16) dX11_meetingPairs_103 (by decide) ?_
            have hpb : pairB V a c = true := decide_eq_true ⟨by omega, by omega, by omega⟩
            have e : prI V c (a + 1) = (prI V c a) + 1 := by show prI V c a + _ = _; rw [hpb]; rfl
            refine aw_sub [(3, .int (nI (a + 1))), (1, .int (nI (tot + prI V c (a + 1)))), (2, .int (nI c)), (0, .ref o)] (by rw [e]; simp [Nat.add_assoc]) ?_
            exact ih _ (by omega) (a + 1) rfl (by omega)
      · have c_4d := of_decide_eq_false c_4
        refine aw_aload_n dX11_meetingPairs_53 rfl rfl ?_
        refine aw_iload_n dX11_meetingPairs_54 rfl rfl ?_
        refine aw_vI (as := [Value.int (nI c)]) (rest := []) mV_X11_rests (m_rests hA (k := c) (a := V (12 + c)) (by omega) rfl (by omega)) ml_X11_76 mU_0 rfl dX11_meetingPairs_55 rfl rfl (by decide) (Nat.le_of_ble_eq_true rfl) (by decide) ?_
        refine aw_if_ne_b (tgt := 65) dX11_meetingPairs_58 (by decide) (fun c_8 => ?_) (fun c_8 => ?_)
        · have c_8d := of_decide_eq_true c_8
          refine aw_iconst_n 0 dX11_meetingPairs_65 (by decide) ?_
          refine aw_istore (L' := [(5, .int (nI 0)), (4, .int (nI (apart (V (20 + a)) (V (20 + c))))), (3, .int (nI a)), (1, .int (nI (tot + prI V c a))), (2, .int (nI c)), (0, .ref o)]) dX11_meetingPairs_66 (by decide) rfl ?_
          refine aw_iload_n dX11_meetingPairs_68 rfl rfl ?_
          refine aw_iload dX11_meetingPairs_69 rfl ?_
          refine aw_if_eq_n (by omega) (tgt := 97) dX11_meetingPairs_71 (by decide) (fun c_9 => ?_) (fun c_9 => ?_)
          · refine aw_iconst_n 0 dX11_meetingPairs_97 (by decide) ?_
            refine aw_iadd_n dX11_meetingPairs_98 ?_
            refine aw_istore_n (L' := [(1, .int (nI ((tot + prI V c a) + 0))), (5, .int (nI 0)), (4, .int (nI (apart (V (20 + a)) (V (20 + c))))), (3, .int (nI a)), (2, .int (nI c)), (0, .ref o)]) dX11_meetingPairs_99 rfl (by decide) rfl ?_
            refine aw_iinc_n (L' := [(3, .int (nI (a + 1))), (1, .int (nI ((tot + prI V c a) + 0))), (5, .int (nI 0)), (4, .int (nI (apart (V (20 + a)) (V (20 + c))))), (2, .int (nI c)), (0, .ref o)]) 1 dX11_meetingPairs_100 rfl (by decide) (by decide) rfl ?_
            refine aw_goto (tgt := 16) dX11_meetingPairs_103 (by decide) ?_
            have hpb : pairB V a c = false := decide_eq_false (by omega)
            have e : prI V c (a + 1) = (prI V c a) + 0 := by show prI V c a + _ = _; rw [hpb]; rfl
            refine aw_sub [(3, .int (nI (a + 1))), (1, .int (nI (tot + prI V c (a + 1)))), (2, .int (nI c)), (0, .ref o)] (by rw [e]; simp [Nat.add_assoc]) ?_
            exact ih _ (by omega) (a + 1) rfl (by omega)
          · refine aw_iload dX11_meetingPairs_74 rfl ?_
            refine aw_aload_n dX11_meetingPairs_76 rfl rfl ?_
            refine aw_iload_n dX11_meetingPairs_77 rfl rfl ?_
            refine aw_vI (as := [Value.int (nI a)]) (rest := [Value.int (nI (apart (V (20 + a)) (V (20 + c)))), Value.int (nI (tot + prI V c a))]) mV_X11_period (m_period hA (k := a) (len := V (4 + a)) (by omega) rfl (by omega)) ml_X11_92 mU_0 rfl dX11_meetingPairs_78 rfl rfl (by decide) (Nat.le_of_ble_eq_true rfl) (by decide) ?_
            refine aw_aload_n dX11_meetingPairs_81 rfl rfl ?_
            refine aw_iload_n dX11_meetingPairs_82 rfl rfl ?_
            refine aw_vI (as := [Value.int (nI c)]) (rest := [Value.int (nI (perN (V (4 + a)))), Value.int (nI (apart (V (20 + a)) (V (20 + c)))), Value.int (nI (tot + prI V c a))]) mV_X11_period (m_period hA (k := c) (len := V (4 + c)) (by omega) rfl (by omega)) ml_X11_92 mU_0 rfl dX11_meetingPairs_83 rfl rfl (by decide) (Nat.le_of_ble_eq_true rfl) (by decide) ?_
            refine aw_sI (as := [Value.int (nI (perN (V (4 + a)))), Value.int (nI (perN (V (4 + c))))]) (rest := [Value.int (nI (apart (V (20 + a)) (V (20 + c)))), Value.int (nI (tot + prI V c a))]) mS_X11_divisor (m_div (by omega) (by omega)) ml_X11_127 dX11_meetingPairs_86 rfl rfl (by decide) (Nat.le_of_ble_eq_true rfl) (by decide) ?_
            refine aw_irem_n (by omega) (by omega) (by omega) dX11_meetingPairs_89 ?_
            have hm_10 : (apart (V (20 + a)) (V (20 + c))) % (Nat.gcd (perN (V (4 + a))) (perN (V (4 + c)))) < Nat.gcd (perN (V (4 + a))) (perN (V (4 + c))) := Nat.mod_lt _ (by omega)
            refine aw_if_ne_n (by omega) (tgt := 97) dX11_meetingPairs_90 (by decide) (fun c_11 => ?_) (fun c_11 => ?_)
            · refine aw_iconst_n 0 dX11_meetingPairs_97 (by decide) ?_
              refine aw_iadd_n dX11_meetingPairs_98 ?_
              refine aw_istore_n (L' := [(1, .int (nI ((tot + prI V c a) + 0))), (5, .int (nI 0)), (4, .int (nI (apart (V (20 + a)) (V (20 + c))))), (3, .int (nI a)), (2, .int (nI c)), (0, .ref o)]) dX11_meetingPairs_99 rfl (by decide) rfl ?_
              refine aw_iinc_n (L' := [(3, .int (nI (a + 1))), (1, .int (nI ((tot + prI V c a) + 0))), (5, .int (nI 0)), (4, .int (nI (apart (V (20 + a)) (V (20 + c))))), (2, .int (nI c)), (0, .ref o)]) 1 dX11_meetingPairs_100 rfl (by decide) (by decide) rfl ?_
              refine aw_goto (tgt := 16) dX11_meetingPairs_103 (by decide) ?_
              have hpb : pairB V a c = false := decide_eq_false (by omega)
              have e : prI V c (a + 1) = (prI V c a) + 0 := by show prI V c a + _ = _; rw [hpb]; rfl
              refine aw_sub [(3, .int (nI (a + 1))), (1, .int (nI (tot + prI V c (a + 1)))), (2, .int (nI c)), (0, .ref o)] (by rw [e]; simp [Nat.add_assoc]) ?_
              exact ih _ (by omega) (a + 1) rfl (by omega)
            · refine aw_iconst_n 1 dX11_meetingPairs_93 (by decide) ?_
              refine aw_goto (tgt := 98) dX11_meetingPairs_94 (by decide) ?_
              refine aw_iadd_n dX11_meetingPairs_98 ?_
              refine aw_istore_n (L' := [(1, .int (nI ((tot + prI V c a) + 1))), (5, .int (nI 0)), (4, .int (nI (apart (V (20 + a)) (V (20 + c))))), (3, .int (nI a)), (2, .int (nI c)), (0, .ref o)]) dX11_meetingPairs_99 rfl (by decide) rfl ?_
              refine aw_iinc_n (L' := [(3, .int (nI (a + 1))), (1, .int (nI ((tot + prI V c a) + 1))), (5, .int (nI 0)), (4, .int (nI (apart (V (20 + a)) (V (20 + c))))), (2, .int (nI c)), (0, .ref o)]) 1 dX11_meetingPairs_100 rfl (by decide) (by decide) rfl ?_
              refine aw_goto (tgt := 16) dX11_meetingPairs_103 (by decide) ?_
              have hpb : pairB V a c = true := decide_eq_true ⟨by omega, by omega, by omega⟩
              have e : prI V c (a + 1) = (prI V c a) + 1 := by show prI V c a + _ = _; rw [hpb]; rfl
              refine aw_sub [(3, .int (nI (a + 1))), (1, .int (nI (tot + prI V c (a + 1)))), (2, .int (nI c)), (0, .ref o)] (by rw [e]; simp [Nat.add_assoc]) ?_
              exact ih _ (by omega) (a + 1) rfl (by omega)
        · have c_8d := of_decide_eq_false c_8
          refine aw_iconst_n 1 dX11_meetingPairs_61 (by decide) ?_
          refine aw_goto (tgt := 66) dX11_meetingPairs_62 (by decide) ?_
          refine aw_istore (L' := [(5, .int (nI 1)), (4, .int (nI (apart (V (20 + a)) (V (20 + c))))), (3, .int (nI a)), (1, .int (nI (tot + prI V c a))), (2, .int (nI c)), (0, .ref o)]) dX11_meetingPairs_66 (by decide) rfl ?_
          refine aw_iload_n dX11_meetingPairs_68 rfl rfl ?_
          refine aw_iload dX11_meetingPairs_69 rfl ?_
          refine aw_if_eq_n (by omega) (tgt := 97) dX11_meetingPairs_71 (by decide) (fun c_12 => ?_) (fun c_12 => ?_)
          · refine aw_iconst_n 0 dX11_meetingPairs_97 (by decide) ?_
            refine aw_iadd_n dX11_meetingPairs_98 ?_
            refine aw_istore_n (L' := [(1, .int (nI ((tot + prI V c a) + 0))), (5, .int (nI 1)), (4, .int (nI (apart (V (20 + a)) (V (20 + c))))), (3, .int (nI a)), (2, .int (nI c)), (0, .ref o)]) dX11_meetingPairs_99 rfl (by decide) rfl ?_
            refine aw_iinc_n (L' := [(3, .int (nI (a + 1))), (1, .int (nI ((tot + prI V c a) + 0))), (5, .int (nI 1)), (4, .int (nI (apart (V (20 + a)) (V (20 + c))))), (2, .int (nI c)), (0, .ref o)]) 1 dX11_meetingPairs_100 rfl (by decide) (by decide) rfl ?_
            refine aw_goto (tgt := 16) dX11_meetingPairs_103 (by decide) ?_
            have hpb : pairB V a c = false := decide_eq_false (by omega)
            have e : prI V c (a + 1) = (prI V c a) + 0 := by show prI V c a + _ = _; rw [hpb]; rfl
            refine aw_sub [(3, .int (nI (a + 1))), (1, .int (nI (tot + prI V c (a + 1)))), (2, .int (nI c)), (0, .ref o)] (by rw [e]; simp [Nat.add_assoc]) ?_
            exact ih _ (by omega) (a + 1) rfl (by omega)
          · refine aw_iload dX11_meetingPairs_74 rfl ?_
            refine aw_aload_n dX11_meetingPairs_76 rfl rfl ?_
            refine aw_iload_n dX11_meetingPairs_77 rfl rfl ?_
            refine aw_vI (as := [Value.int (nI a)]) (rest := [Value.int (nI (apart (V (20 + a)) (V (20 + c)))), Value.int (nI (tot + prI V c a))]) mV_X11_period (m_period hA (k := a) (len := V (4 + a)) (by omega) rfl (by omega)) ml_X11_92 mU_0 rfl dX11_meetingPairs_78 rfl rfl (by decide) (Nat.le_of_ble_eq_true rfl) (by decide) ?_
            refine aw_aload_n dX11_meetingPairs_81 rfl rfl ?_
            refine aw_iload_n dX11_meetingPairs_82 rfl rfl ?_
            refine aw_vI (as := [Value.int (nI c)]) (rest := [Value.int (nI (perN (V (4 + a)))), Value.int (nI (apart (V (20 + a)) (V (20 + c)))), Value.int (nI (tot + prI V c a))]) mV_X11_period (m_period hA (k := c) (len := V (4 + c)) (by omega) rfl (by omega)) ml_X11_92 mU_0 rfl dX11_meetingPairs_83 rfl rfl (by decide) (Nat.le_of_ble_eq_true rfl) (by decide) ?_
            refine aw_sI (as := [Value.int (nI (perN (V (4 + a)))), Value.int (nI (perN (V (4 + c))))]) (rest := [Value.int (nI (apart (V (20 + a)) (V (20 + c)))), Value.int (nI (tot + prI V c a))]) mS_X11_divisor (m_div (by omega) (by omega)) ml_X11_127 dX11_meetingPairs_86 rfl rfl (by decide) (Nat.le_of_ble_eq_true rfl) (by decide) ?_
            refine aw_irem_n (by omega) (by omega) (by omega) dX11_meetingPairs_89 ?_
            have hm_13 : (apart (V (20 + a)) (V (20 + c))) % (Nat.gcd (perN (V (4 + a))) (perN (V (4 + c)))) < Nat.gcd (perN (V (4 + a))) (perN (V (4 + c))) := Nat.mod_lt _ (by omega)
            refine aw_if_ne_n (by omega) (tgt := 97) dX11_meetingPairs_90 (by decide) (fun c_14 => ?_) (fun c_14 => ?_)
            · refine aw_iconst_n 0 dX11_meetingPairs_97 (by decide) ?_
              refine aw_iadd_n dX11_meetingPairs_98 ?_
              refine aw_istore_n (L' := [(1, .int (nI ((tot + prI V c a) + 0))), (5, .int (nI 1)), (4, .int (nI (apart (V (20 + a)) (V (20 + c))))), (3, .int (nI a)), (2, .int (nI c)), (0, .ref o)]) dX11_meetingPairs_99 rfl (by decide) rfl ?_
              refine aw_iinc_n (L' := [(3, .int (nI (a + 1))), (1, .int (nI ((tot + prI V c a) + 0))), (5, .int (nI 1)), (4, .int (nI (apart (V (20 + a)) (V (20 + c))))), (2, .int (nI c)), (0, .ref o)]) 1 dX11_meetingPairs_100 rfl (by decide) (by decide) rfl ?_
              refine aw_goto (tgt := 16) dX11_meetingPairs_103 (by decide) ?_
              have hpb : pairB V a c = false := decide_eq_false (by omega)
              have e : prI V c (a + 1) = (prI V c a) + 0 := by show prI V c a + _ = _; rw [hpb]; rfl
              refine aw_sub [(3, .int (nI (a + 1))), (1, .int (nI (tot + prI V c (a + 1)))), (2, .int (nI c)), (0, .ref o)] (by rw [e]; simp [Nat.add_assoc]) ?_
              exact ih _ (by omega) (a + 1) rfl (by omega)
            · refine aw_iconst_n 1 dX11_meetingPairs_93 (by decide) ?_
              refine aw_goto (tgt := 98) dX11_meetingPairs_94 (by decide) ?_
              refine aw_iadd_n dX11_meetingPairs_98 ?_
              refine aw_istore_n (L' := [(1, .int (nI ((tot + prI V c a) + 1))), (5, .int (nI 1)), (4, .int (nI (apart (V (20 + a)) (V (20 + c))))), (3, .int (nI a)), (2, .int (nI c)), (0, .ref o)]) dX11_meetingPairs_99 rfl (by decide) rfl ?_
              refine aw_iinc_n (L' := [(3, .int (nI (a + 1))), (1, .int (nI ((tot + prI V c a) + 1))), (5, .int (nI 1)), (4, .int (nI (apart (V (20 + a)) (V (20 + c))))), (2, .int (nI c)), (0, .ref o)]) 1 dX11_meetingPairs_100 rfl (by decide) (by decide) rfl ?_
              refine aw_goto (tgt := 16) dX11_meetingPairs_103 (by decide) ?_
              have hpb : pairB V a c = true := decide_eq_true ⟨by omega, by omega, by omega⟩
              have e : prI V c (a + 1) = (prI V c a) + 1 := by show prI V c a + _ = _; rw [hpb]; rfl
              refine aw_sub [(3, .int (nI (a + 1))), (1, .int (nI (tot + prI V c (a + 1)))), (2, .int (nI c)), (0, .ref o)] (by rw [e]; simp [Nat.add_assoc]) ?_
              exact ih _ (by omega) (a + 1) rfl (by omega)
set_option maxHeartbeats 4000000 in
theorem m_prO_loop {l : Launch} {G : GT} {n : Nat} {f : HT} {o : Nat} {I : Nat → Int32} {A : Nat → Nat → Int32} {K : Nat} {V : Nat → Nat} (hA : Mok A V) (hB : VB K V) : ∀ (N : Nat) (c : Nat), (V 2 - c = N) → (c ≤ V 2) → AW l G MX11_meetingPairs 2 120 0 0 (RQ f o I A (0, prO V (V 2)) n) n 0 0 4 [(2, .int (nI c)), (1, .int (nI (prO V c))), (0, .ref o)] [] (mU f o I A) n := by
  intro N
  induction N using Nat.strongRecOn with
  | ind N ih =>
    intro c hN hc9
    have hcnt := VB.cnt hB
    have hleg := VB.legs hB
    have hfr := VB.fric hB
    have hnow := VB.now hB
    have hkk := VB.kk hB
    have hpo := prO_le V c hcnt hc9
    refine aw_iload_n dX11_meetingPairs_4 rfl rfl ?_
    refine aw_aload_n dX11_meetingPairs_5 rfl rfl ?_
    refine aw_get (v := .ref (o + 1)) fl_X11_7 mU_0 rfl dX11_meetingPairs_6 ?_
    refine aw_iconst_n 2 dX11_meetingPairs_9 (by decide) ?_
    refine aw_mld hA (k := 2) (by omega) dX11_meetingPairs_10 ?_
    have hb_1 : V 2 < 16000000 := VB.lt hB (by omega)
    refine aw_icmp_ge_n (by omega) (by omega) (tgt := 112) dX11_meetingPairs_11 (by decide) (fun c_2 => ?_) (fun c_2 => ?_)
    · refine aw_aload_n dX11_meetingPairs_112 rfl rfl ?_
      refine aw_iload_n dX11_meetingPairs_113 rfl rfl ?_
      refine aw_vI (as := [Value.int (nI (prO V c))]) (rest := []) mV_X11_done (m_done (nI (prO V c))) ml_X11_60 mU_0 rfl dX11_meetingPairs_114 rfl rfl (by decide) (Nat.le_of_ble_eq_true rfl) (by decide) ?_
      exact aw_iret rfl (by decide) (by decide) dX11_meetingPairs_117 (RQ_of (by rw [show c = V 2 by omega]))
    · refine aw_iconst_n 0 dX11_meetingPairs_14 (by decide) ?_
      refine aw_istore_n (L' := [(3, .int (nI 0)), (2, .int (nI c)), (1, .int (nI (prO V c))), (0, .ref o)]) dX11_meetingPairs_15 rfl (by decide) rfl ?_
      refine aw_sub [(3, .int (nI 0)), (1, .int (nI (prO V c + prI V c 0))), (2, .int (nI c)), (0, .ref o)] (by simp [prI]) ?_
      refine m_prI_loop hA hB (by omega) (by omega) ?_ _ 0 rfl (Nat.zero_le _)
      refine aw_iinc_n (L' := [(2, .int (nI (c + 1))), (1, .int (nI (prO V c + prI V c c))), (0, .ref o)]) 1 dX11_meetingPairs_106 rfl (by decide) (by decide) rfl ?_
      refine aw_goto (tgt := 4) dX11_meetingPairs_109 (by decide) ?_
      refine aw_sub [(2, .int (nI (c + 1))), (1, .int (nI (prO V (c + 1)))), (0, .ref o)] (by simp [prO]) ?_
      exact ih _ (by omega) (c + 1) rfl (by omega)
set_option maxHeartbeats 4000000 in
theorem m_meetingPairs {l : Launch} {G : GT} {n : Nat} {f : HT} {o : Nat} {I : Nat → Int32} {A : Nat → Nat → Int32} {K : Nat} {V : Nat → Nat} (hA : Mok A V) (hB : VB K V) : AM l G yX11_meetingPairs (.code yX11_meetingPairs cX11_meetingPairs 6 (some .int)) 2 120 0 0 [.ref o] (mU f o I A) n (RQ f o I A (0, prO V (V 2)) n) := by
  refine aw_enter (M := MX11_meetingPairs) rfl rfl (by decide +kernel) rfl (Nat.le_of_ble_eq_true rfl) ?_
  show AW l G MX11_meetingPairs 2 120 0 0 _ n 0 0 0 [(0, .ref o)] [] _ n
  refine aw_iconst_n 0 dX11_meetingPairs_0 (by decide) ?_
  refine aw_istore_n (L' := [(1, .int (nI 0)), (0, .ref o)]) dX11_meetingPairs_1 rfl (by decide) rfl ?_
  refine aw_iconst_n 0 dX11_meetingPairs_2 (by decide) ?_
  refine aw_istore_n (L' := [(2, .int (nI 0)), (1, .int (nI 0)), (0, .ref o)]) dX11_meetingPairs_3 rfl (by decide) rfl ?_
  exact aw_sub [(2, .int (nI 0)), (1, .int (nI 0)), (0, .ref o)] (by simp) (m_prO_loop hA hB _ 0 rfl (Nat.zero_le _))
