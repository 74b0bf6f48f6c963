/-! mean amplitude; the card -/
theorem sumA_le {K : Nat} {V : Nat → Nat} (hB : VB K V) : ∀ u, u ≤ 8 → sumA V u ≤ 60 * u := by
  intro u
  induction u with
  | zero => intro _; exact Nat.le_refl _
  | succ u ih => intro h; unfold sumA; have := ih (by omega); have := VB.amp hB (k := u) (by omega); omega
theorem mean_num {s c : Nat} (hs : s ≤ 480) (hc : c ≤ 8) (h0 : c ≠ 0) : vf_n64 (FP.ddiv (FP.i2d (nI s)) (FP.i2d (nI c))) := by
  have key : ∀ s, s < 481 → ∀ c, c < 9 → c ≠ 0 → FP.ddiv (FP.i2d (nI s)) (FP.i2d (nI c)) &&& 0x7fffffffffffffff ≤ 0x7ff0000000000000 := by decide +kernel
  exact key s (by omega) c (by omega) h0
def qMean (V : Nat → Nat) : Nat × UInt64 := if cntA V (V 2) = 0 then (1, 0) else (0, FP.ddiv (FP.i2d (nI (sumA V (V 2)))) (FP.i2d (nI (cntA V (V 2)))))
def RDm (f : HT) (o : Nat) (I : Nat → Int32) (A : Nat → Nat → Int32) (q : Nat × UInt64) (n : Nat) : PT := fun r f' n' => r = .inl (some (.double q.2)) ∧ f' = mU f o (va_up I 12 (nI q.1)) A ∧ n' = n
theorem RDm_of {f : HT} {o n c : Nat} {x : UInt64} {I : Nat → Int32} {A : Nat → Nat → Int32} {q : Nat × UInt64} (hq : q = (c, x)) : RDm f o I A q n (.inl (some (.double x))) (mU f o (va_up I 12 (nI c)) A) n := by
  subst hq
  exact ⟨rfl, rfl, rfl⟩
def uN : Nat → Nat
  | 0 => 0
  | e + 1 => 10 ^ e
theorem uN_f {e : Nat} (he : e < 9) : uN (e + 1) ≤ 100000000 ∧ uN (e + 1) / 10 = uN e ∧ (1 < uN (e + 1) ↔ 1 ≤ e) ∧ 0 < uN (e + 1) := by
  have key : ∀ e, e < 9 → uN (e + 1) ≤ 100000000 ∧ uN (e + 1) / 10 = uN e ∧ (1 < uN (e + 1) ↔ 1 ≤ e) ∧ 0 < uN (e + 1) := by decide +kernel
  exact key e he
def lenD (v : Nat) : Nat → Nat
  | 0 => 0
  | e + 1 => if 1 ≤ e ∧ v < uN (e + 1) then lenD v e else e + 1
theorem lenD_no {v e : Nat} (h : ¬(1 ≤ e ∧ v < uN (e + 1))) : lenD v (e + 1) = e + 1 := by show (if _ then _ else _) = _; rw [if_neg h]
theorem lenD_yes {v e : Nat} (h : 1 ≤ e ∧ v < uN (e + 1)) : lenD v (e + 1) = lenD v e := by show (if _ then _ else _) = _; rw [if_pos h]
theorem lenD_le (v : Nat) : ∀ e, lenD v e ≤ e := by
  intro e
  induction e with
  | zero => exact Nat.le_refl _
  | succ e ih => unfold lenD; split <;> omega
def dgs (v : Nat) : Nat → List Nat
  | 0 => []
  | e + 1 => (48 + v / uN (e + 1) % 10) :: dgs v e
theorem dgs_len (v : Nat) : ∀ e, (dgs v e).length = e := by
  intro e
  induction e with
  | zero => rfl
  | succ e ih => show (dgs v e).length + 1 = _; rw [ih]
/-- a number's digits -/
def decN (v : Nat) : List Nat := dgs v (lenD v 9)
theorem dec_len (v : Nat) : (decN v).length ≤ 9 := by unfold decN; rw [dgs_len]; exact lenD_le v 9
def CT (I : Nat → Int32) (A : Nat → Nat → Int32) (I0 : Nat → Int32) (A0 : Nat → Nat → Int32) (L : List Nat) : Prop :=
  I 11 = nI L.length ∧ (∀ i, i < L.length → A 5 i = nI (L.getD i 0)) ∧ (∀ k, k ≠ 11 → I k = I0 k) ∧ ∀ j, j ≠ 5 → A j = A0 j
def WR (f : HT) (o : Nat) (I0 : Nat → Int32) (A0 : Nat → Nat → Int32) (L : List Nat) (n : Nat) : PT := fun r f' n' => r = .inl none ∧ n' = n ∧ ∃ (I' : Nat → Int32) (A' : Nat → Nat → Int32), f' = mU f o I' A' ∧ CT I' A' I0 A0 L
theorem gd_l {L M : List Nat} {i : Nat} (h : i < L.length) : (L ++ M).getD i 0 = L.getD i 0 := by
  rw [List.getD_eq_getElem?_getD, List.getD_eq_getElem?_getD, List.getElem?_append_left h]
theorem gd_e {L : List Nat} {c : Nat} : (L ++ [c]).getD L.length 0 = c := by
  rw [List.getD_eq_getElem?_getD, List.getElem?_append_right (Nat.le_refl _), Nat.sub_self]; rfl
theorem CT.snoc {I : Nat → Int32} {A : Nat → Nat → Int32} {I0 : Nat → Int32} {A0 : Nat → Nat → Int32} {L : List Nat} (h : CT I A I0 A0 L) {c : Nat} : CT (va_up I 11 (nI (L.length + 1))) (va_up A 5 (upd (A 5) L.length (nI c))) I0 A0 (L ++ [c]) := by
  obtain ⟨h1, h2, h3, h4⟩ := h
  refine ⟨by rw [up_self, List.length_append]; rfl, fun i hi => ?_, fun k hk => (up_ne hk).trans (h3 k hk), fun j hj => (up_ne hj).trans (h4 j hj)⟩
  rw [List.length_append] at hi
  have hi' : i < L.length + 1 := hi
  rw [up_self]
  by_cases e : i = L.length
  · rw [e, pk_us, gd_e]
  · rw [pk_un e, gd_l (by omega)]
    exact h2 i (by omega)
theorem CT.mok {I : Nat → Int32} {A : Nat → Nat → Int32} {I0 : Nat → Int32} {A0 : Nat → Nat → Int32} {L : List Nat} {V : Nat → Nat} (h : CT I A I0 A0 L) (hA : Mok A0 V) : Mok A V := fun i hi => by rw [h.2.2.2 0 (by decide)]; exact hA i hi
theorem c128_nar {c : Nat} (h : c < 128) : vp_nar .char (nI c) = nI c := by
  have key : ∀ c, c < 128 → vp_nar .char (nI c) = nI c := by decide +kernel
  exact key c h
theorem c128_i2c {c : Nat} (h : c < 128) : ((nI c).toUInt32 % 65536).toInt32 = nI c := by
  have key : ∀ c, c < 128 → ((nI c).toUInt32 % 65536).toInt32 = nI c := by decide +kernel
  exact key c h
theorem aw_i2c_n {l : Launch} {G : GT} {M : MT} {fr lo mc ms : Nat} {Post : PT} {n0 nc ns pc : Nat} {L : List (Nat × Value)} {S : List Value} {f : HT} {n : Nat} {c : Nat} (hc : c < 128) (hdg : decode M.2.1 pc = .ok (.i2c, 1)) (kk : AW l G M fr lo mc ms Post n0 nc ns (pc + 1) L (.int (nI c) :: S) f n) : AW l G M fr lo mc ms Post n0 nc ns pc L (.int (nI c) :: S) f n := aw_i2c hdg (by rw [c128_i2c hc]; exact kk)
/-- the card of a pendulum -/
def starN (V : Nat → Nat) (k : Nat) : Bool := decide (0 < V (36 + kindN (V (4 + k))) ∧ V (39 + kindN (V (4 + k))) = k)
def cardA (V : Nat → Nat) (k : Nat) : List Nat := [] ++ decN k ++ [58] ++ decN (V (4 + k)) ++ [99] ++ [109] ++ [32]
def cardB (V : Nat → Nat) (k : Nat) : List Nat := if V (12 + k) = 0 then cardA V k ++ [114, 101, 115, 116] else cardA V k ++ decN (V (12 + k)) ++ [64] ++ decN (V (20 + k))
def cardL (V : Nat → Nat) (k : Nat) : List Nat := if starN V k then cardB V k ++ [42] else cardB V k
def qCard (V : Nat → Nat) (v : Int32) : Nat × List Nat := if isK v (V 2) = true then (0, cardL V v.toNatClampNeg) else (1, [])
def cardS (s : SG) (q : Nat × List Nat) : SG := if q.1 = 0 then (s.1, s.2.1, s.2.2.1, s.2.2.2.1, s.2.2.2.2.1, (q.2.length, fun i => q.2.getD i 0)) else s
/-- a method's answer, the state behind it and what it threw -/
def PG (f : HT) (o : Nat) (x : Int32) (s : SG) (c : Nat) (n : Nat) : PT := fun r f' n' =>
  r = .inl (some (.int x)) ∧ n' = n ∧ ∃ (I' : Nat → Int32) (A' : Nat → Nat → Int32), f' = mU f o I' A' ∧ MR I' A' s ∧ I' 12 = nI c
theorem MR.card {I : Nat → Int32} {A : Nat → Nat → Int32} {s : SG} {I' : Nat → Int32} {A' : Nat → Nat → Int32} {L : List Nat} {c : Int32} (h : MR I A s) (hT : CT I' A' (va_up I 12 c) A L) : MR I' A' (cardS s (0, L)) := by
  obtain ⟨h1, ⟨h2, h3⟩, ⟨h4, h5⟩, ⟨h6, h7⟩, ⟨h8, h9⟩, h10, h11⟩ := h
  obtain ⟨t1, t2, t3, t4⟩ := hT
  have i3 := (t3 3 (by decide)).trans (up_ne (by decide))
  have i5 := (t3 5 (by decide)).trans (up_ne (by decide))
  have i7 := (t3 7 (by decide)).trans (up_ne (by decide))
  have i8 := (t3 8 (by decide)).trans (up_ne (by decide))
  have i9 := (t3 9 (by decide)).trans (up_ne (by decide))
  have a0 := t4 0 (by decide)
  have a2 := t4 2 (by decide)
  have a3 := t4 3 (by decide)
  have a4 := t4 4 (by decide)
  exact ⟨fun i hi => by rw [a0]; exact h1 i hi, ⟨by rw [i3]; exact h2, by rw [a2]; exact h3⟩, ⟨by rw [i5]; exact h4, fun z i hi => by rw [a3]; exact h5 z i hi⟩, ⟨by rw [i7]; exact h6, fun i hi => by rw [a4]; exact h7 i hi⟩, ⟨by rw [i8]; exact h8, by rw [i9]; exact h9⟩, t1, t2⟩
theorem CT.nil {I : Nat → Int32} {A : Nat → Nat → Int32} : CT (va_up I 11 (nI 0)) A I A [] := ⟨up_self, fun i hi => absurd hi (Nat.not_lt_zero _), fun _ h => up_ne h, fun _ _ => rfl⟩
theorem CT.up12 {I I0 : Nat → Int32} {A A0 : Nat → Nat → Int32} {L : List Nat} {c : Int32} (h : CT I A I0 A0 L) : CT (va_up I 12 c) A (va_up I0 12 c) A0 L := by
  obtain ⟨h1, h2, h3, h4⟩ := h
  refine ⟨by rw [up_ne (by decide)]; exact h1, h2, fun k hk => ?_, h4⟩
  by_cases e : k = 12
  · rw [e, up_self, up_self]
  · rw [up_ne e, up_ne e]; exact h3 k hk
theorem c128_narrow {c : Nat} (h : c < 128) : narrow .char (.int (nI c)) = .int (nI c) := by
  have key : ∀ c, c < 128 → (nI c).toUInt32.toUInt16.toUInt32.toInt32 = nI c := by decide +kernel
  exact congrArg Value.int (key c h)
abbrev MX11_meanAmplitude : MT := (RX11, cX11_meanAmplitude, 4, (some .double), [], "meanAmplitude")
set_option maxHeartbeats 4000000 in
theorem m_mean_loop {l : Launch} {G : GT} {n : Nat} {f : HT} {o : Nat} {I : Nat → Int32} {A : Nat → Nat → Int32} {K : Nat} {V : Nat → Nat} (hA : Mok A V) (hB : VB K V) : ∀ (N : Nat) (u : Nat), (V 2 - u = N) → (u ≤ V 2) → AW l G MX11_meanAmplitude 2 120 0 0 (RDm f o I A (qMean V) n) n 0 0 6 [(3, .int (nI u)), (2, .int (nI (cntA V u))), (1, .int (nI (sumA V u))), (0, .ref o)] [] (mU f o I A) n := by
  intro N
  induction N using Nat.strongRecOn with
  | ind N ih =>
    intro u hN hu
    have hcnt := VB.cnt hB
    have hleg := VB.legs hB
    have hfr := VB.fric hB
    have hnow := VB.now hB
    have hkk := VB.kk hB
    have hca := cntA_le V u
    have hsu := sumA_le hB u (by omega)
    refine aw_iload_n dX11_meanAmplitude_6 rfl rfl ?_
    refine aw_aload_n dX11_meanAmplitude_7 rfl rfl ?_
    refine aw_get (v := .ref (o + 1)) fl_X11_7 mU_0 rfl dX11_meanAmplitude_8 ?_
    refine aw_iconst_n 2 dX11_meanAmplitude_11 (by decide) ?_
    refine aw_mld hA (k := 2) (by omega) dX11_meanAmplitude_12 ?_
    have hb_1 : V 2 < 16000000 := VB.lt hB (by omega)
    refine aw_icmp_ge_n (by omega) (by omega) (tgt := 50) dX11_meanAmplitude_13 (by decide) (fun c_2 => ?_) (fun c_2 => ?_)
    · have hue : V 2 = u := by omega
      refine aw_aload_n dX11_meanAmplitude_50 rfl rfl ?_
      refine aw_iload_n dX11_meanAmplitude_51 rfl rfl ?_
      refine aw_if_ne_n (by omega) (tgt := 59) dX11_meanAmplitude_52 (by decide) (fun c_3 => ?_) (fun c_3 => ?_)
      · refine aw_iconst_n 0 dX11_meanAmplitude_59 (by decide) ?_
        refine aw_mput fp_X11_42 (by decide) rfl rfl dX11_meanAmplitude_60 ?_
        refine aw_aload_n dX11_meanAmplitude_63 rfl rfl ?_
        refine aw_get (v := .int (nI 0)) fl_X11_42 mU_0 rfl dX11_meanAmplitude_64 ?_
        refine aw_if_ne_n (by omega) (tgt := 78) dX11_meanAmplitude_67 (by decide) (fun c_4 => by exfalso; omega) (fun c_4 => ?_)
        refine aw_iload_n dX11_meanAmplitude_70 rfl rfl ?_
        refine aw_i2d dX11_meanAmplitude_71 ?_
        refine aw_iload_n dX11_meanAmplitude_72 rfl rfl ?_
        refine aw_i2d dX11_meanAmplitude_73 ?_
        refine aw_ddiv (mean_num (by omega) (by omega) (by omega)) dX11_meanAmplitude_74 ?_
        refine aw_goto (tgt := 79) dX11_meanAmplitude_75 (by decide) ?_
        exact aw_dret rfl (by decide) (by decide) dX11_meanAmplitude_79 (RDm_of (by unfold qMean; rw [hue]; first | rw [if_pos (by omega)] | rw [if_neg (by omega)]))
      · refine aw_iconst_n 1 dX11_meanAmplitude_55 (by decide) ?_
        refine aw_goto (tgt := 60) dX11_meanAmplitude_56 (by decide) ?_
        refine aw_mput fp_X11_42 (by decide) rfl rfl dX11_meanAmplitude_60 ?_
        refine aw_aload_n dX11_meanAmplitude_63 rfl rfl ?_
        refine aw_get (v := .int (nI 1)) fl_X11_42 mU_0 rfl dX11_meanAmplitude_64 ?_
        refine aw_if_ne_n (by omega) (tgt := 78) dX11_meanAmplitude_67 (by decide) (fun c_5 => ?_) (fun c_5 => by exfalso; omega)
        refine aw_dconst0 dX11_meanAmplitude_78 ?_
        exact aw_dret rfl (by decide) (by decide) dX11_meanAmplitude_79 (RDm_of (by unfold qMean; rw [hue]; first | rw [if_pos (by omega)] | rw [if_neg (by omega)]))
    · refine aw_iload_n dX11_meanAmplitude_16 rfl rfl ?_
      refine aw_aload_n dX11_meanAmplitude_17 rfl rfl ?_
      refine aw_get (v := .ref (o + 1)) fl_X11_7 mU_0 rfl dX11_meanAmplitude_18 ?_
      refine aw_bipush_n 12 dX11_meanAmplitude_21 (by decide) ?_
      refine aw_iload_n dX11_meanAmplitude_23 rfl rfl ?_
      refine aw_iadd_n dX11_meanAmplitude_24 ?_
      refine aw_mld hA (k := 12 + u) (by omega) dX11_meanAmplitude_25 ?_
      have hb_6 : V (12 + u) < 16000000 := VB.lt hB (by omega)
      refine aw_iadd_n dX11_meanAmplitude_26 ?_
      refine aw_istore_n (L' := [(1, .int (nI ((sumA V u) + (V (12 + u))))), (3, .int (nI u)), (2, .int (nI (cntA V u))), (0, .ref o)]) dX11_meanAmplitude_27 rfl (by decide) rfl ?_
      refine aw_iload_n dX11_meanAmplitude_28 rfl rfl ?_
      refine aw_aload_n dX11_meanAmplitude_29 rfl rfl ?_
      refine aw_iload_n dX11_meanAmplitude_30 rfl rfl ?_
      refine aw_vI (as := [Value.int (nI u)]) (rest := [Value.int (nI (cntA V u))]) mV_X11_rests (m_rests hA (k := u) (a := V (12 + u)) (by omega) rfl (by omega)) ml_X11_76 mU_0 rfl dX11_meanAmplitude_31 rfl rfl (by decide) (Nat.le_of_ble_eq_true rfl) (by decide) ?_
      refine aw_if_eq_b (tgt := 41) dX11_meanAmplitude_34 (by decide) (fun c_7 => ?_) (fun c_7 => ?_)
      · have c' := of_decide_eq_false c_7
        refine aw_iconst_n 1 dX11_meanAmplitude_41 (by decide) ?_
        refine aw_iadd_n dX11_meanAmplitude_42 ?_
        refine aw_istore_n (L' := [(2, .int (nI ((cntA V u) + 1))), (1, .int (nI ((sumA V u) + (V (12 + u))))), (3, .int (nI u)), (0, .ref o)]) dX11_meanAmplitude_43 rfl (by decide) rfl ?_
        refine aw_iinc_n (L' := [(3, .int (nI (u + 1))), (2, .int (nI ((cntA V u) + 1))), (1, .int (nI ((sumA V u) + (V (12 + u))))), (0, .ref o)]) 1 dX11_meanAmplitude_44 rfl (by decide) (by decide) rfl ?_
        refine aw_goto (tgt := 6) dX11_meanAmplitude_47 (by decide) ?_
        have e : cntA V (u + 1) = (cntA V u) + 1 := by show cntA V u + (if V (12 + u) = 0 then 0 else 1) = _; first | rw [if_pos (by omega)] | rw [if_neg (by omega)]
        refine aw_sub [(3, .int (nI (u + 1))), (2, .int (nI (cntA V (u + 1)))), (1, .int (nI (sumA V (u + 1)))), (0, .ref o)] (by rw [e]; simp [sumA]) ?_
        exact ih _ (by omega) (u + 1) rfl (by omega)
      · have c' := of_decide_eq_true c_7
        refine aw_iconst_n 0 dX11_meanAmplitude_37 (by decide) ?_
        refine aw_goto (tgt := 42) dX11_meanAmplitude_38 (by decide) ?_
        refine aw_iadd_n dX11_meanAmplitude_42 ?_
        refine aw_istore_n (L' := [(2, .int (nI ((cntA V u) + 0))), (1, .int (nI ((sumA V u) + (V (12 + u))))), (3, .int (nI u)), (0, .ref o)]) dX11_meanAmplitude_43 rfl (by decide) rfl ?_
        refine aw_iinc_n (L' := [(3, .int (nI (u + 1))), (2, .int (nI ((cntA V u) + 0))), (1, .int (nI ((sumA V u) + (V (12 + u))))), (0, .ref o)]) 1 dX11_meanAmplitude_44 rfl (by decide) (by decide) rfl ?_
        refine aw_goto (tgt := 6) dX11_meanAmplitude_47 (by decide) ?_
        have e : cntA V (u + 1) = (cntA V u) + 0 := by show cntA V u + (if V (12 + u) = 0 then 0 else 1) = _; first | rw [if_pos (by omega)] | rw [if_neg (by omega)]
        refine aw_sub [(3, .int (nI (u + 1))), (2, .int (nI (cntA V (u + 1)))), (1, .int (nI (sumA V (u + 1)))), (0, .ref o)] (by rw [e]; simp [sumA]) ?_
        exact ih _ (by omega) (u + 1) rfl (by omega)
set_option maxHeartbeats 4000000 in
theorem m_meanAmplitude {l : Launch} {G : GT} {n : Nat} {f : HT} {o : Nat} {I : Nat → Int32} {A : Nat → Nat → Int32} {K : Nat} {V : Nat → Nat} (hA : Mok A V) (hB : VB K V) : AM l G yX11_meanAmplitude (.code yX11_meanAmplitude cX11_meanAmplitude 4 (some .double)) 2 120 0 0 [.ref o] (mU f o I A) n (RDm f o I A (qMean V) n) := by
  refine aw_enter (M := MX11_meanAmplitude) rfl rfl (by decide +kernel) rfl (Nat.le_of_ble_eq_true rfl) ?_
  show AW l G MX11_meanAmplitude 2 120 0 0 _ n 0 0 0 [(0, .ref o)] [] _ n
  refine aw_iconst_n 0 dX11_meanAmplitude_0 (by decide) ?_
  refine aw_istore_n (L' := [(1, .int (nI 0)), (0, .ref o)]) dX11_meanAmplitude_1 rfl (by decide) rfl ?_
  refine aw_iconst_n 0 dX11_meanAmplitude_2 (by decide) ?_
  refine aw_istore_n (L' := [(2, .int (nI 0)), (1, .int (nI 0)), (0, .ref o)]) dX11_meanAmplitude_3 rfl (by decide) rfl ?_
  refine aw_iconst_n 0 dX11_meanAmplitude_4 (by decide) ?_
  refine aw_istore_n (L' := [(3, .int (nI 0)), (2, .int (nI 0)), (1, .int (nI 0)), (0, .ref o)]) dX11_meanAmplitude_5 rfl (by decide) rfl ?_
  exact aw_sub [(3, .int (nI 0)), (2, .int (nI 0)), (1, .int (nI 0)), (0, .ref o)] (by simp) (m_mean_loop hA hB _ 0 rfl (Nat.zero_le _))
abbrev MX11_writes : MT := (RX11, cX11_writes, 2, none, [], "writes")
set_option maxHeartbeats 4000000 in
theorem m_writes {l : Launch} {G : GT} {n : Nat} {f : HT} {o : Nat} {I : Nat → Int32} {A : Nat → Nat → Int32} {I0 : Nat → Int32} {A0 : Nat → Nat → Int32} {L : List Nat} (hT : CT I A I0 A0 L) {c : Nat} (hc : c < 128) (hL : L.length < 60) : AM l G yX11_writes (.code yX11_writes cX11_writes 2 none) 1 60 0 0 [.ref o, .int (nI c)] (mU f o I A) n (WR f o I0 A0 (L ++ [c]) n) := by
  refine aw_enter (M := MX11_writes) rfl rfl (by decide +kernel) rfl (Nat.le_of_ble_eq_true rfl) ?_
  show AW l G MX11_writes 1 60 0 0 _ n 0 0 0 [(0, .ref o), (1, .int (nI c))] [] _ n
  refine aw_aload_n dX11_writes_0 rfl rfl ?_
  refine aw_get (v := .ref (o + 6)) fl_X11_33 mU_0 rfl dX11_writes_1 ?_
  refine aw_aload_n dX11_writes_4 rfl rfl ?_
  refine aw_get (v := .int (nI L.length)) fl_X11_171 mU_0 (congrArg (fun z => some (Value.int z)) hT.1) dX11_writes_5 ?_
  refine aw_iload_n dX11_writes_8 rfl rfl ?_
  refine aw_i2c_n (by omega) dX11_writes_9 ?_
  refine aw_cast_n (k := L.length) mU_6 (by omega) (by decide) (c128_nar hc) dX11_writes_10 ?_
  rw [mU_A5]
  refine aw_aload_n dX11_writes_11 rfl rfl ?_
  refine aw_dup dX11_writes_12 rfl ?_
  refine aw_get (v := .int (nI L.length)) fl_X11_171 mU_0 (congrArg (fun z => some (Value.int z)) hT.1) dX11_writes_13 ?_
  refine aw_iconst_n 1 dX11_writes_16 (by decide) ?_
  refine aw_iadd_n dX11_writes_17 ?_
  refine aw_mput fp_X11_171 (by decide) rfl rfl dX11_writes_18 ?_
  exact aw_vret rfl (by decide) (by decide) dX11_writes_21 ⟨rfl, rfl, _, _, rfl, hT.snoc⟩
abbrev MX11_writesRest : MT := (RX11, cX11_writesRest, 1, none, [], "writesRest")
set_option maxHeartbeats 4000000 in
theorem m_writesRest {l : Launch} {G : GT} {n : Nat} {f : HT} {o : Nat} {I : Nat → Int32} {A : Nat → Nat → Int32} {I0 : Nat → Int32} {A0 : Nat → Nat → Int32} {L : List Nat} (hT : CT I A I0 A0 L) (hL : L.length < 56) : AM l G yX11_writesRest (.code yX11_writesRest cX11_writesRest 1 none) 2 120 0 0 [.ref o] (mU f o I A) n (WR f o I0 A0 (L ++ [114, 101, 115, 116]) n) := by
  refine aw_enter (M := MX11_writesRest) rfl rfl (by decide +kernel) rfl (Nat.le_of_ble_eq_true rfl) ?_
  show AW l G MX11_writesRest 2 120 0 0 _ n 0 0 0 [(0, .ref o)] [] _ n
  refine aw_aload_n dX11_writesRest_0 rfl rfl ?_
  refine aw_bipush_n 114 dX11_writesRest_1 (by decide) ?_
  refine aw_vP (as := [Value.int (nI 114)]) (rest := []) mV_X11_writes (m_writes hT (c := 114) (by omega) (by first | omega | (simp only [List.length_append, List.length_singleton, List.length_cons, List.length_nil]; omega))) ml_X11_175 mU_0 rfl dX11_writesRest_3 rfl rfl (by decide) (Nat.le_of_ble_eq_true rfl) (by decide) (fun _ _ _ h => by cases h.1) (fun r f9 n9 _ h => ?_)
  obtain ⟨h1, h2, I1, A1, h3, hT1⟩ := h
  cases h1; subst h2; subst h3
  show AW l G MX11_writesRest 2 120 0 0 _ _ _ _ 6 [(0, .ref o)] [] (mU f o I1 A1) _
  refine aw_aload_n dX11_writesRest_6 rfl rfl ?_
  refine aw_bipush_n 101 dX11_writesRest_7 (by decide) ?_
  refine aw_vP (as := [Value.int (nI 101)]) (rest := []) mV_X11_writes (m_writes hT1 (c := 101) (by omega) (by first | omega | (simp only [List.length_append, List.length_singleton, List.length_cons, List.length_nil]; omega))) ml_X11_175 mU_0 rfl dX11_writesRest_9 rfl rfl (by decide) (Nat.le_of_ble_eq_true rfl) (by decide) (fun _ _ _ h => by cases h.1) (fun r f9 n9 _ h => ?_)
  obtain ⟨h1, h2, I2, A2, h3, hT2⟩ := h
  cases h1; subst h2; subst h3
  show AW l G MX11_writesRest 2 120 0 0 _ _ _ _ 12 [(0, .ref o)] [] (mU f o I2 A2) _
  refine aw_aload_n dX11_writesRest_12 rfl rfl ?_
  refine aw_bipush_n 115 dX11_writesRest_13 (by decide) ?_
  refine aw_vP (as := [Value.int (nI 115)]) (rest := []) mV_X11_writes (m_writes hT2 (c := 115) (by omega) (by first | omega | (simp only [List.length_append, List.length_singleton, List.length_cons, List.length_nil]; omega))) ml_X11_175 mU_0 rfl dX11_writesRest_15 rfl rfl (by decide) (Nat.le_of_ble_eq_true rfl) (by decide) (fun _ _ _ h => by cases h.1) (fun r f9 n9 _ h => ?_)
  obtain ⟨h1, h2, I3, A3, h3, hT3⟩ := h
  cases h1; subst h2; subst h3
  show AW l G MX11_writesRest 2 120 0 0 _ _ _ _ 18 [(0, .ref o)] [] (mU f o I3 A3) _
  refine aw_aload_n dX11_writesRest_18 rfl rfl ?_
  refine aw_bipush_n 116 dX11_writesRest_19 (by decide) ?_
  refine aw_vP (as := [Value.int (nI 116)]) (rest := []) mV_X11_writes (m_writes hT3 (c := 116) (by omega) (by first | omega | (simp only [List.length_append, List.length_singleton, List.length_cons, List.length_nil]; omega))) ml_X11_175 mU_0 rfl dX11_writesRest_21 rfl rfl (by decide) (Nat.le_of_ble_eq_true rfl) (by decide) (fun _ _ _ h => by cases h.1) (fun r f9 n9 _ h => ?_)
  obtain ⟨h1, h2, I4, A4, h3, hT4⟩ := h
  cases h1; subst h2; subst h3
  show AW l G MX11_writesRest 2 120 0 0 _ _ _ _ 24 [(0, .ref o)] [] (mU f o I4 A4) _
  exact aw_vret rfl (by decide) (by decide) dX11_writesRest_24 ⟨rfl, rfl, _, _, rfl, by simpa using hT4⟩
abbrev MX11_writesNumber : MT := (RX11, cX11_writesNumber, 3, none, [], "writesNumber")
set_option maxHeartbeats 4000000 in
theorem m_num_out {l : Launch} {G : GT} {n : Nat} {f : HT} {o : Nat} {I0 : Nat → Int32} {A0 : Nat → Nat → Int32} {L : List Nat} {v : Nat} (hv : v < 16000000) (hL : L.length < 60) : ∀ (N : Nat) (e : Nat) (I : Nat → Int32) (A : Nat → Nat → Int32) (M : List Nat), (e = N) → (e ≤ 9) → (CT I A I0 A0 M) → (M ++ dgs v e = L) → AW l G MX11_writesNumber 2 120 0 0 (WR f o I0 A0 L n) n 0 0 21 [(2, .int (nI (uN e))), (0, .ref o), (1, .int (nI v))] [] (mU f o I A) n := by
  intro N
  induction N using Nat.strongRecOn with
  | ind N ih =>
    intro e I A M hN he hT hM
    have hub : uN e ≤ 100000000 := by
      cases e with
      | zero => exact Nat.zero_le _
      | succ e9 => exact (uN_f (by omega)).1
    refine aw_iload_n dX11_writesNumber_21 rfl rfl ?_
    refine aw_if_le_n (by omega) (tgt := 46) dX11_writesNumber_22 (by decide) (fun c_1 => ?_) (fun c_1 => ?_)
    · have e0 : e = 0 := by
        cases e with
        | zero => rfl
        | succ e9 => have := (uN_f (e := e9) (by omega)).2.2.2; omega
      subst e0
      rw [show dgs v 0 = [] from rfl, List.append_nil] at hM
      subst hM
      exact aw_vret rfl (by decide) (by decide) dX11_writesNumber_46 ⟨rfl, rfl, _, _, rfl, hT⟩
    · obtain ⟨e9, rfl⟩ : ∃ e9, e = e9 + 1 := ⟨e - 1, by
        cases e with
        | zero => exact absurd c_1 (by simp [uN])
        | succ e9 => rfl⟩
      have hu := uN_f (e := e9) (by omega)
      have hdv := Nat.div_le_self v (uN (e9 + 1))
      have hln : M.length + (dgs v (e9 + 1)).length = L.length := by rw [← hM, List.length_append]
      rw [dgs_len] at hln
      refine aw_aload_n dX11_writesNumber_25 rfl rfl ?_
      refine aw_bipush_n 48 dX11_writesNumber_26 (by decide) ?_
      refine aw_iload_n dX11_writesNumber_28 rfl rfl ?_
      refine aw_iload_n dX11_writesNumber_29 rfl rfl ?_
      refine aw_idiv_n (by omega) (by omega) (by omega) dX11_writesNumber_30 ?_
      refine aw_bipush_n 10 dX11_writesNumber_31 (by decide) ?_
      refine aw_irem_n (by omega) (by omega) (by omega) dX11_writesNumber_33 ?_
      have hm_2 : (v / (uN (e9 + 1))) % 10 < 10 := Nat.mod_lt _ (by omega)
      refine aw_iadd_n dX11_writesNumber_34 ?_
      refine aw_vP (as := [Value.int (nI (48 + ((v / (uN (e9 + 1))) % 10)))]) (rest := []) mV_X11_writes (m_writes hT (c := 48 + ((v / (uN (e9 + 1))) % 10)) (by omega) (by omega)) ml_X11_175 mU_0 rfl dX11_writesNumber_35 rfl rfl (by decide) (Nat.le_of_ble_eq_true rfl) (by decide) (fun _ _ _ h => by cases h.1) (fun r f9 n9 _ h => ?_)
      obtain ⟨h1, h2, I3, A3, h3, hT3⟩ := h
      cases h1; subst h2; subst h3
      show AW l G MX11_writesNumber 2 120 0 0 _ _ _ _ 38 [(2, .int (nI (uN (e9 + 1)))), (0, .ref o), (1, .int (nI v))] [] (mU f o I3 A3) _
      refine aw_iload_n dX11_writesNumber_38 rfl rfl ?_
      refine aw_bipush_n 10 dX11_writesNumber_39 (by decide) ?_
      refine aw_idiv_n (by omega) (by omega) (by omega) dX11_writesNumber_41 ?_
      refine aw_istore_n (L' := [(2, .int (nI ((uN (e9 + 1)) / 10))), (0, .ref o), (1, .int (nI v))]) dX11_writesNumber_42 rfl (by decide) rfl ?_
      refine aw_goto (tgt := 21) dX11_writesNumber_43 (by decide) ?_
      refine aw_sub [(2, .int (nI (uN e9))), (0, .ref o), (1, .int (nI v))] (by rw [hu.2.1]; simp) ?_
      exact ih _ (by omega) e9 I3 A3 _ rfl (by omega) hT3 (by rw [List.append_assoc]; exact hM)
set_option maxHeartbeats 4000000 in
theorem m_num_in {l : Launch} {G : GT} {n : Nat} {f : HT} {o : Nat} {I : Nat → Int32} {A : Nat → Nat → Int32} {I0 : Nat → Int32} {A0 : Nat → Nat → Int32} {L : List Nat} (hT : CT I A I0 A0 L) {v : Nat} (hv : v < 16000000) (hL : (L ++ decN v).length < 60) : ∀ (N : Nat) (e : Nat), (e = N) → (e ≤ 8) → (lenD v (e + 1) = lenD v 9) → AW l G MX11_writesNumber 2 120 0 0 (WR f o I0 A0 (L ++ decN v) n) n 0 0 3 [(2, .int (nI (uN (e + 1)))), (0, .ref o), (1, .int (nI v))] [] (mU f o I A) n := by
  intro N
  induction N using Nat.strongRecOn with
  | ind N ih =>
    intro e hN he hq
    have hu := uN_f (e := e) (by omega)
    refine aw_iload_n dX11_writesNumber_3 rfl rfl ?_
    refine aw_iconst_n 1 dX11_writesNumber_4 (by decide) ?_
    refine aw_icmp_le_n (by omega) (by omega) (tgt := 21) dX11_writesNumber_5 (by decide) (fun c_1 => ?_) (fun c_1 => ?_)
    · have e1 := lenD_no (v := v) (e := e) (by omega)
      exact aw_sub [(2, .int (nI (uN (e + 1)))), (0, .ref o), (1, .int (nI v))] (by simp) (m_num_out hv hL _ (e + 1) I A L rfl (by omega) hT (by unfold decN; rw [← hq, e1]))
    · refine aw_iload_n dX11_writesNumber_8 rfl rfl ?_
      refine aw_iload_n dX11_writesNumber_9 rfl rfl ?_
      refine aw_icmp_ge_n (by omega) (by omega) (tgt := 21) dX11_writesNumber_10 (by decide) (fun c_2 => ?_) (fun c_2 => ?_)
      · have e1 := lenD_no (v := v) (e := e) (by omega)
        exact aw_sub [(2, .int (nI (uN (e + 1)))), (0, .ref o), (1, .int (nI v))] (by simp) (m_num_out hv hL _ (e + 1) I A L rfl (by omega) hT (by unfold decN; rw [← hq, e1]))
      · refine aw_iload_n dX11_writesNumber_13 rfl rfl ?_
        refine aw_bipush_n 10 dX11_writesNumber_14 (by decide) ?_
        refine aw_idiv_n (by omega) (by omega) (by omega) dX11_writesNumber_16 ?_
        refine aw_istore_n (L' := [(2, .int (nI ((uN (e + 1)) / 10))), (0, .ref o), (1, .int (nI v))]) dX11_writesNumber_17 rfl (by decide) rfl ?_
        refine aw_goto (tgt := 3) dX11_writesNumber_18 (by decide) ?_
        have e1 := lenD_yes (v := v) (e := e) ⟨by omega, by omega⟩
        obtain ⟨e9, rfl⟩ : ∃ e9, e = e9 + 1 := ⟨e - 1, by omega⟩
        refine aw_sub [(2, .int (nI (uN (e9 + 1)))), (0, .ref o), (1, .int (nI v))] (by rw [hu.2.1]; simp) ?_
        exact ih _ (by omega) e9 rfl (by omega) (by rw [← e1]; exact hq)
set_option maxHeartbeats 4000000 in
theorem m_writesNumber {l : Launch} {G : GT} {n : Nat} {f : HT} {o : Nat} {I : Nat → Int32} {A : Nat → Nat → Int32} {I0 : Nat → Int32} {A0 : Nat → Nat → Int32} {L : List Nat} (hT : CT I A I0 A0 L) {v : Nat} (hv : v < 16000000) (hL : (L ++ decN v).length < 60) : AM l G yX11_writesNumber (.code yX11_writesNumber cX11_writesNumber 3 none) 2 120 0 0 [.ref o, .int (nI v)] (mU f o I A) n (WR f o I0 A0 (L ++ decN v) n) := by
  refine aw_enter (M := MX11_writesNumber) rfl rfl (by decide +kernel) rfl (Nat.le_of_ble_eq_true rfl) ?_
  show AW l G MX11_writesNumber 2 120 0 0 _ n 0 0 0 [(0, .ref o), (1, .int (nI v))] [] _ n
  refine aw_ldc (v := nI 100000000) kc_X11_174 dX11_writesNumber_0 ?_
  refine aw_istore_n (L' := [(2, .int (nI 100000000)), (0, .ref o), (1, .int (nI v))]) dX11_writesNumber_2 rfl (by decide) rfl ?_
  exact aw_sub [(2, .int (nI (uN (8 + 1)))), (0, .ref o), (1, .int (nI v))] (by simp [uN]) (m_num_in hT hv hL _ 8 rfl (by decide) rfl)
abbrev MX11_writeCard : MT := (RX11, cX11_writeCard, 2, (some .int), [], "writeCard")
set_option maxHeartbeats 4000000 in
theorem m_writeCard {l : Launch} {G : GT} {n : Nat} {f : HT} {o : Nat} {I : Nat → Int32} {A : Nat → Nat → Int32} {K : Nat} {V : Nat → Nat} {s : SG} (hR : MR I A s) (hV : s.1 = V) (hB : VB K V) (v : Int32) : AM l G yX11_writeCard (.code yX11_writeCard cX11_writeCard 2 (some .int)) 3 180 0 0 [.ref o, .int v] (mU f o I A) n (PG f o (nI (qCard V v).2.length) (cardS s (qCard V v)) (qCard V v).1 n) := by
  refine aw_enter (M := MX11_writeCard) rfl rfl (by decide +kernel) rfl (Nat.le_of_ble_eq_true rfl) ?_
  have hA : Mok A V := hV ▸ hR.1
  have hcnt := VB.cnt hB
  have hleg := VB.legs hB
  have hfr := VB.fric hB
  have hnow := VB.now hB
  have hkk := VB.kk hB
  show AW l G MX11_writeCard 3 180 0 0 _ n 0 0 0 [(0, .ref o), (1, .int v)] [] _ n
  refine aw_aload_n dX11_writeCard_0 rfl rfl ?_
  refine aw_iload_n dX11_writeCard_1 rfl rfl ?_
  refine aw_vI (as := [Value.int v]) (rest := []) mV_X11_isPendulum (m_isP hA (c := V 2) v rfl (by omega)) ml_X11_72 mU_0 rfl dX11_writeCard_2 rfl rfl (by decide) (Nat.le_of_ble_eq_true rfl) (by decide) ?_
  refine aw_if_ne_b (tgt := 14) dX11_writeCard_5 (by decide) (fun c_1 => ?_) (fun c_1 => ?_)
  · obtain ⟨x, hx1, rfl⟩ := isK_of (by omega) c_1
    have hax := VB.amp hB (k := x) (by omega)
    have hlx := VB.len hB (k := x) (by omega)
    have hl1 := VB.len1 hB (k := x) (by omega)
    have hsx := VB.start hB (k := x) (by omega)
    have hwx := VB.sw hB (k := x) (by omega)
    have hnx := nIc (show x < 2 ^ 31 by omega)
    have hpp := per_pos hl1
    have hpl := per_le hlx
    have hkn := kindN_lt (V (4 + x))
    have hd1 := dec_len x
    have hd2 := dec_len (V (4 + x))
    have hd3 := dec_len (V (12 + x))
    have hd4 := dec_len (V (20 + x))
    refine aw_aload_n dX11_writeCard_14 rfl rfl ?_
    refine aw_iconst_n 0 dX11_writeCard_15 (by decide) ?_
    refine aw_mput fp_X11_171 (by decide) rfl rfl dX11_writeCard_16 ?_
    have hT0 : CT (va_up I 11 (nI 0)) A I A [] := CT.nil
    refine aw_aload_n dX11_writeCard_19 rfl rfl ?_
    refine aw_iload_n dX11_writeCard_20 rfl rfl ?_
    refine aw_vP (as := [Value.int (nI x)]) (rest := []) mV_X11_writesNumber (m_writesNumber hT0 (v := x) (by omega) (by first | omega | (simp only [List.length_append, List.length_singleton, List.length_cons, List.length_nil]; omega))) ml_X11_179 mU_0 rfl dX11_writeCard_21 rfl rfl (by decide) (Nat.le_of_ble_eq_true rfl) (by decide) (fun _ _ _ h => by cases h.1) (fun r f9 n9 _ h => ?_)
    obtain ⟨h1, h2, I2, A2, h3, hT2⟩ := h
    cases h1; subst h2; subst h3
    show AW l G MX11_writeCard 3 180 0 0 _ _ _ _ 24 [(0, .ref o), (1, .int (nI x))] [] (mU f o I2 A2) _
    refine aw_aload_n dX11_writeCard_24 rfl rfl ?_
    refine aw_bipush_n 58 dX11_writeCard_25 (by decide) ?_
    refine aw_vP (as := [Value.int (nI 58)]) (rest := []) mV_X11_writes (m_writes hT2 (c := 58) (by omega) (by first | omega | (simp only [List.length_append, List.length_singleton, List.length_cons, List.length_nil]; omega))) ml_X11_175 mU_0 rfl dX11_writeCard_27 rfl rfl (by decide) (Nat.le_of_ble_eq_true rfl) (by decide) (fun _ _ _ h => by cases h.1) (fun r f9 n9 _ h => ?_)
    obtain ⟨h1, h2, I3, A3, h3, hT3⟩ := h
    cases h1; subst h2; subst h3
    show AW l G MX11_writeCard 3 180 0 0 _ _ _ _ 30 [(0, .ref o), (1, .int (nI x))] [] (mU f o I3 A3) _
    refine aw_aload_n dX11_writeCard_30 rfl rfl ?_
    refine aw_aload_n dX11_writeCard_31 rfl rfl ?_
    refine aw_get (v := .ref (o + 1)) fl_X11_7 mU_0 rfl dX11_writeCard_32 ?_
    refine aw_iconst_n 4 dX11_writeCard_35 (by decide) ?_
    refine aw_iload_n dX11_writeCard_36 rfl rfl ?_
    refine aw_iadd_n dX11_writeCard_37 ?_
    refine aw_mld (CT.mok hT3 hA) (k := 4 + x) (by omega) dX11_writeCard_38 ?_
    have hb_4 : V (4 + x) < 16000000 := VB.lt hB (by omega)
    refine aw_vP (as := [Value.int (nI (V (4 + x)))]) (rest := []) mV_X11_writesNumber (m_writesNumber hT3 (v := V (4 + x)) (by omega) (by first | omega | (simp only [List.length_append, List.length_singleton, List.length_cons, List.length_nil]; omega))) ml_X11_179 mU_0 rfl dX11_writeCard_39 rfl rfl (by decide) (Nat.le_of_ble_eq_true rfl) (by decide) (fun _ _ _ h => by cases h.1) (fun r f9 n9 _ h => ?_)
    obtain ⟨h1, h2, I5, A5, h3, hT5⟩ := h
    cases h1; subst h2; subst h3
    show AW l G MX11_writeCard 3 180 0 0 _ _ _ _ 42 [(0, .ref o), (1, .int (nI x))] [] (mU f o I5 A5) _
    refine aw_aload_n dX11_writeCard_42 rfl rfl ?_
    refine aw_bipush_n 99 dX11_writeCard_43 (by decide) ?_
    refine aw_vP (as := [Value.int (nI 99)]) (rest := []) mV_X11_writes (m_writes hT5 (c := 99) (by omega) (by first | omega | (simp only [List.length_append, List.length_singleton, List.length_cons, List.length_nil]; omega))) ml_X11_175 mU_0 rfl dX11_writeCard_45 rfl rfl (by decide) (Nat.le_of_ble_eq_true rfl) (by decide) (fun _ _ _ h => by cases h.1) (fun r f9 n9 _ h => ?_)
    obtain ⟨h1, h2, I6, A6, h3, hT6⟩ := h
    cases h1; subst h2; subst h3
    show AW l G MX11_writeCard 3 180 0 0 _ _ _ _ 48 [(0, .ref o), (1, .int (nI x))] [] (mU f o I6 A6) _
    refine aw_aload_n dX11_writeCard_48 rfl rfl ?_
    refine aw_bipush_n 109 dX11_writeCard_49 (by decide) ?_
    refine aw_vP (as := [Value.int (nI 109)]) (rest := []) mV_X11_writes (m_writes hT6 (c := 109) (by omega) (by first | omega | (simp only [List.length_append, List.length_singleton, List.length_cons, List.length_nil]; omega))) ml_X11_175 mU_0 rfl dX11_writeCard_51 rfl rfl (by decide) (Nat.le_of_ble_eq_true rfl) (by decide) (fun _ _ _ h => by cases h.1) (fun r f9 n9 _ h => ?_)
    obtain ⟨h1, h2, I7, A7, h3, hT7⟩ := h
    cases h1; subst h2; subst h3
    show AW l G MX11_writeCard 3 180 0 0 _ _ _ _ 54 [(0, .ref o), (1, .int (nI x))] [] (mU f o I7 A7) _
    refine aw_aload_n dX11_writeCard_54 rfl rfl ?_
    refine aw_bipush_n 32 dX11_writeCard_55 (by decide) ?_
    refine aw_vP (as := [Value.int (nI 32)]) (rest := []) mV_X11_writes (m_writes hT7 (c := 32) (by omega) (by first | omega | (simp only [List.length_append, List.length_singleton, List.length_cons, List.length_nil]; omega))) ml_X11_175 mU_0 rfl dX11_writeCard_57 rfl rfl (by decide) (Nat.le_of_ble_eq_true rfl) (by decide) (fun _ _ _ h => by cases h.1) (fun r f9 n9 _ h => ?_)
    obtain ⟨h1, h2, I8, A8, h3, hT8⟩ := h
    cases h1; subst h2; subst h3
    show AW l G MX11_writeCard 3 180 0 0 _ _ _ _ 60 [(0, .ref o), (1, .int (nI x))] [] (mU f o I8 A8) _
    refine aw_aload_n dX11_writeCard_60 rfl rfl ?_
    refine aw_iload_n dX11_writeCard_61 rfl rfl ?_
    refine aw_vI (as := [Value.int (nI x)]) (rest := []) mV_X11_rests (m_rests (CT.mok hT8 hA) (k := x) (a := V (12 + x)) (by omega) rfl (by omega)) ml_X11_76 mU_0 rfl dX11_writeCard_62 rfl rfl (by decide) (Nat.le_of_ble_eq_true rfl) (by decide) ?_
    refine aw_if_eq_b (tgt := 75) dX11_writeCard_65 (by decide) (fun c_9 => ?_) (fun c_9 => ?_)
    · have c_9d := of_decide_eq_false c_9
      refine aw_aload_n dX11_writeCard_75 rfl rfl ?_
      refine aw_aload_n dX11_writeCard_76 rfl rfl ?_
      refine aw_get (v := .ref (o + 1)) fl_X11_7 mU_0 rfl dX11_writeCard_77 ?_
      refine aw_bipush_n 12 dX11_writeCard_80 (by decide) ?_
      refine aw_iload_n dX11_writeCard_82 rfl rfl ?_
      refine aw_iadd_n dX11_writeCard_83 ?_
      refine aw_mld (CT.mok hT8 hA) (k := 12 + x) (by omega) dX11_writeCard_84 ?_
      have hb_10 : V (12 + x) < 16000000 := VB.lt hB (by omega)
      refine aw_vP (as := [Value.int (nI (V (12 + x)))]) (rest := []) mV_X11_writesNumber (m_writesNumber hT8 (v := V (12 + x)) (by omega) (by first | omega | (simp only [List.length_append, List.length_singleton, List.length_cons, List.length_nil]; omega))) ml_X11_179 mU_0 rfl dX11_writeCard_85 rfl rfl (by decide) (Nat.le_of_ble_eq_true rfl) (by decide) (fun _ _ _ h => by cases h.1) (fun r f9 n9 _ h => ?_)
      obtain ⟨h1, h2, I11, A11, h3, hT11⟩ := h
      cases h1; subst h2; subst h3
      show AW l G MX11_writeCard 3 180 0 0 _ _ _ _ 88 [(0, .ref o), (1, .int (nI x))] [] (mU f o I11 A11) _
      refine aw_aload_n dX11_writeCard_88 rfl rfl ?_
      refine aw_bipush_n 64 dX11_writeCard_89 (by decide) ?_
      refine aw_vP (as := [Value.int (nI 64)]) (rest := []) mV_X11_writes (m_writes hT11 (c := 64) (by omega) (by first | omega | (simp only [List.length_append, List.length_singleton, List.length_cons, List.length_nil]; omega))) ml_X11_175 mU_0 rfl dX11_writeCard_91 rfl rfl (by decide) (Nat.le_of_ble_eq_true rfl) (by decide) (fun _ _ _ h => by cases h.1) (fun r f9 n9 _ h => ?_)
      obtain ⟨h1, h2, I12, A12, h3, hT12⟩ := h
      cases h1; subst h2; subst h3
      show AW l G MX11_writeCard 3 180 0 0 _ _ _ _ 94 [(0, .ref o), (1, .int (nI x))] [] (mU f o I12 A12) _
      refine aw_aload_n dX11_writeCard_94 rfl rfl ?_
      refine aw_aload_n dX11_writeCard_95 rfl rfl ?_
      refine aw_get (v := .ref (o + 1)) fl_X11_7 mU_0 rfl dX11_writeCard_96 ?_
      refine aw_bipush_n 20 dX11_writeCard_99 (by decide) ?_
      refine aw_iload_n dX11_writeCard_101 rfl rfl ?_
      refine aw_iadd_n dX11_writeCard_102 ?_
      refine aw_mld (CT.mok hT12 hA) (k := 20 + x) (by omega) dX11_writeCard_103 ?_
      have hb_13 : V (20 + x) < 16000000 := VB.lt hB (by omega)
      refine aw_vP (as := [Value.int (nI (V (20 + x)))]) (rest := []) mV_X11_writesNumber (m_writesNumber hT12 (v := V (20 + x)) (by omega) (by first | omega | (simp only [List.length_append, List.length_singleton, List.length_cons, List.length_nil]; omega))) ml_X11_179 mU_0 rfl dX11_writeCard_104 rfl rfl (by decide) (Nat.le_of_ble_eq_true rfl) (by decide) (fun _ _ _ h => by cases h.1) (fun r f9 n9 _ h => ?_)
      obtain ⟨h1, h2, I14, A14, h3, hT14⟩ := h
      cases h1; subst h2; subst h3
      show AW l G MX11_writeCard 3 180 0 0 _ _ _ _ 107 [(0, .ref o), (1, .int (nI x))] [] (mU f o I14 A14) _
      refine aw_aload_n dX11_writeCard_107 rfl rfl ?_
      refine aw_get (v := .ref (o + 1)) fl_X11_7 mU_0 rfl dX11_writeCard_108 ?_
      refine aw_bipush_n 36 dX11_writeCard_111 (by decide) ?_
      refine aw_aload_n dX11_writeCard_113 rfl rfl ?_
      refine aw_iload_n dX11_writeCard_114 rfl rfl ?_
      refine aw_vI (as := [Value.int (nI x)]) (rest := [Value.int (nI 36), Value.ref (o + 1)]) mV_X11_kind (m_kind (CT.mok hT14 hA) (k := x) (len := V (4 + x)) (by omega) rfl (by omega)) ml_X11_79 mU_0 rfl dX11_writeCard_115 rfl rfl (by decide) (Nat.le_of_ble_eq_true rfl) (by decide) ?_
      refine aw_iadd_n dX11_writeCard_118 ?_
      refine aw_mld (CT.mok hT14 hA) (k := 36 + (kindN (V (4 + x)))) (by omega) dX11_writeCard_119 ?_
      have hb_15 : V (36 + (kindN (V (4 + x)))) < 16000000 := VB.lt hB (by omega)
      refine aw_if_le_n (by omega) (tgt := 146) dX11_writeCard_120 (by decide) (fun c_16 => ?_) (fun c_16 => ?_)
      · refine aw_aload_n dX11_writeCard_146 rfl rfl ?_
        refine aw_aload_n dX11_writeCard_147 rfl rfl ?_
        refine aw_get (v := .int (nI (([] ++ decN x ++ [58] ++ decN (V (4 + x)) ++ [99] ++ [109] ++ [32] ++ decN (V (12 + x)) ++ [64] ++ decN (V (20 + x))).length))) fl_X11_171 mU_0 (congrArg (fun z => some (Value.int z)) hT14.1) dX11_writeCard_148 ?_
        refine aw_vI (as := [Value.int (nI (([] ++ decN x ++ [58] ++ decN (V (4 + x)) ++ [99] ++ [109] ++ [32] ++ decN (V (12 + x)) ++ [64] ++ decN (V (20 + x))).length))]) (rest := []) mV_X11_done (m_done (nI (([] ++ decN x ++ [58] ++ decN (V (4 + x)) ++ [99] ++ [109] ++ [32] ++ decN (V (12 + x)) ++ [64] ++ decN (V (20 + x))).length))) ml_X11_60 mU_0 rfl dX11_writeCard_151 rfl rfl (by decide) (Nat.le_of_ble_eq_true rfl) (by decide) ?_
        have hst : starN V x = false := decide_eq_false (by omega)
        have e : cardL V x = [] ++ decN x ++ [58] ++ decN (V (4 + x)) ++ [99] ++ [109] ++ [32] ++ decN (V (12 + x)) ++ [64] ++ decN (V (20 + x)) := by
          unfold cardL cardB
          rw [hst]
          first | rw [if_pos rfl, if_pos (by omega)] | rw [if_pos rfl, if_neg (by omega)] | rw [if_neg (by decide), if_pos (by omega)] | rw [if_neg (by decide), if_neg (by omega)]
          rfl
        have e2 : qCard V (nI x) = (0, cardL V x) := by unfold qCard; rw [if_pos c_1, hnx]
        rw [e2, e]
        exact aw_iret rfl (by decide) (by decide) dX11_writeCard_154 ⟨rfl, rfl, _, _, rfl, MR.card (c := nI 0) hR (CT.up12 hT14), up_self⟩
      · refine aw_aload_n dX11_writeCard_123 rfl rfl ?_
        refine aw_get (v := .ref (o + 1)) fl_X11_7 mU_0 rfl dX11_writeCard_124 ?_
        refine aw_bipush_n 39 dX11_writeCard_127 (by decide) ?_
        refine aw_aload_n dX11_writeCard_129 rfl rfl ?_
        refine aw_iload_n dX11_writeCard_130 rfl rfl ?_
        refine aw_vI (as := [Value.int (nI x)]) (rest := [Value.int (nI 39), Value.ref (o + 1)]) mV_X11_kind (m_kind (CT.mok hT14 hA) (k := x) (len := V (4 + x)) (by omega) rfl (by omega)) ml_X11_79 mU_0 rfl dX11_writeCard_131 rfl rfl (by decide) (Nat.le_of_ble_eq_true rfl) (by decide) ?_
        refine aw_iadd_n dX11_writeCard_134 ?_
        refine aw_mld (CT.mok hT14 hA) (k := 39 + (kindN (V (4 + x)))) (by omega) dX11_writeCard_135 ?_
        have hb_17 : V (39 + (kindN (V (4 + x)))) < 16000000 := VB.lt hB (by omega)
        refine aw_iload_n dX11_writeCard_136 rfl rfl ?_
        refine aw_icmp_ne_n (by omega) (by omega) (tgt := 146) dX11_writeCard_137 (by decide) (fun c_18 => ?_) (fun c_18 => ?_)
        · refine aw_aload_n dX11_writeCard_146 rfl rfl ?_
          refine aw_aload_n dX11_writeCard_147 rfl rfl ?_
          refine aw_get (v := .int (nI (([] ++ decN x ++ [58] ++ decN (V (4 + x)) ++ [99] ++ [109] ++ [32] ++ decN (V (12 + x)) ++ [64] ++ decN (V (20 + x))).length))) fl_X11_171 mU_0 (congrArg (fun z => some (Value.int z)) hT14.1) dX11_writeCard_148 ?_
          refine aw_vI (as := [Value.int (nI (([] ++ decN x ++ [58] ++ decN (V (4 + x)) ++ [99] ++ [109] ++ [32] ++ decN (V (12 + x)) ++ [64] ++ decN (V (20 + x))).length))]) (rest := []) mV_X11_done (m_done (nI (([] ++ decN x ++ [58] ++ decN (V (4 + x)) ++ [99] ++ [109] ++ [32] ++ decN (V (12 + x)) ++ [64] ++ decN (V (20 + x))).length))) ml_X11_60 mU_0 rfl dX11_writeCard_151 rfl rfl (by decide) (Nat.le_of_ble_eq_true rfl) (by decide) ?_
          have hst : starN V x = false := decide_eq_false (by omega)
          have e : cardL V x = [] ++ decN x ++ [58] ++ decN (V (4 + x)) ++ [99] ++ [109] ++ [32] ++ decN (V (12 + x)) ++ [64] ++ decN (V (20 + x)) := by
            unfold cardL cardB
            rw [hst]
            first | rw [if_pos rfl, if_pos (by omega)] | rw [if_pos rfl, if_neg (by omega)] | rw [if_neg (by decide), if_pos (by omega)] | rw [if_neg (by decide), if_neg (by omega)]
            rfl
          have e2 : qCard V (nI x) = (0, cardL V x) := by unfold qCard; rw [if_pos c_1, hnx]
          rw [e2, e]
          exact aw_iret rfl (by decide) (by decide) dX11_writeCard_154 ⟨rfl, rfl, _, _, rfl, MR.card (c := nI 0) hR (CT.up12 hT14), up_self⟩
        · refine aw_aload_n dX11_writeCard_140 rfl rfl ?_
          refine aw_bipush_n 42 dX11_writeCard_141 (by decide) ?_
          refine aw_vP (as := [Value.int (nI 42)]) (rest := []) mV_X11_writes (m_writes hT14 (c := 42) (by omega) (by first | omega | (simp only [List.length_append, List.length_singleton, List.length_cons, List.length_nil]; omega))) ml_X11_175 mU_0 rfl dX11_writeCard_143 rfl rfl (by decide) (Nat.le_of_ble_eq_true rfl) (by decide) (fun _ _ _ h => by cases h.1) (fun r f9 n9 _ h => ?_)
          obtain ⟨h1, h2, I19, A19, h3, hT19⟩ := h
          cases h1; subst h2; subst h3
          show AW l G MX11_writeCard 3 180 0 0 _ _ _ _ 146 [(0, .ref o), (1, .int (nI x))] [] (mU f o I19 A19) _
          refine aw_aload_n dX11_writeCard_146 rfl rfl ?_
          refine aw_aload_n dX11_writeCard_147 rfl rfl ?_
          refine aw_get (v := .int (nI (([] ++ decN x ++ [58] ++ decN (V (4 + x)) ++ [99] ++ [109] ++ [32] ++ decN (V (12 + x)) ++ [64] ++ decN (V (20 + x)) ++ [42]).length))) fl_X11_171 mU_0 (congrArg (fun z => some (Value.int z)) hT19.1) dX11_writeCard_148 ?_
          refine aw_vI (as := [Value.int (nI (([] ++ decN x ++ [58] ++ decN (V (4 + x)) ++ [99] ++ [109] ++ [32] ++ decN (V (12 + x)) ++ [64] ++ decN (V (20 + x)) ++ [42]).length))]) (rest := []) mV_X11_done (m_done (nI (([] ++ decN x ++ [58] ++ decN (V (4 + x)) ++ [99] ++ [109] ++ [32] ++ decN (V (12 + x)) ++ [64] ++ decN (V (20 + x)) ++ [42]).length))) ml_X11_60 mU_0 rfl dX11_writeCard_151 rfl rfl (by decide) (Nat.le_of_ble_eq_true rfl) (by decide) ?_
          have hst : starN V x = true := decide_eq_true ⟨by omega, by omega⟩
          have e : cardL V x = [] ++ decN x ++ [58] ++ decN (V (4 + x)) ++ [99] ++ [109] ++ [32] ++ decN (V (12 + x)) ++ [64] ++ decN (V (20 + x)) ++ [42] := by
            unfold cardL cardB
            rw [hst]
            first | rw [if_pos rfl, if_pos (by omega)] | rw [if_pos rfl, if_neg (by omega)] | rw [if_neg (by decide), if_pos (by omega)] | rw [if_neg (by decide), if_neg (by omega)]
            rfl
          have e2 : qCard V (nI x) = (0, cardL V x) := by unfold qCard; rw [if_pos c_1, hnx]
          rw [e2, e]
          exact aw_iret rfl (by decide) (by decide) dX11_writeCard_154 ⟨rfl, rfl, _, _, rfl, MR.card (c := nI 0) hR (CT.up12 hT19), up_self⟩
    · have c_9d := of_decide_eq_true c_9
      refine aw_aload_n dX11_writeCard_68 rfl rfl ?_
      refine aw_vP (as := []) (rest := []) mV_X11_writesRest (m_writesRest hT8 (by simp only [List.length_append, List.length_singleton, List.length_cons, List.length_nil]; omega)) ml_X11_182 mU_0 rfl dX11_writeCard_69 rfl rfl (by decide) (Nat.le_of_ble_eq_true rfl) (by decide) (fun _ _ _ h => by cases h.1) (fun r f9 n9 _ h => ?_)
      obtain ⟨h1, h2, I20, A20, h3, hT20⟩ := h
      cases h1; subst h2; subst h3
      show AW l G MX11_writeCard 3 180 0 0 _ _ _ _ 72 [(0, .ref o), (1, .int (nI x))] [] (mU f o I20 A20) _
      refine aw_goto (tgt := 107) dX11_writeCard_72 (by decide) ?_
      refine aw_aload_n dX11_writeCard_107 rfl rfl ?_
      refine aw_get (v := .ref (o + 1)) fl_X11_7 mU_0 rfl dX11_writeCard_108 ?_
      refine aw_bipush_n 36 dX11_writeCard_111 (by decide) ?_
      refine aw_aload_n dX11_writeCard_113 rfl rfl ?_
      refine aw_iload_n dX11_writeCard_114 rfl rfl ?_
      refine aw_vI (as := [Value.int (nI x)]) (rest := [Value.int (nI 36), Value.ref (o + 1)]) mV_X11_kind (m_kind (CT.mok hT20 hA) (k := x) (len := V (4 + x)) (by omega) rfl (by omega)) ml_X11_79 mU_0 rfl dX11_writeCard_115 rfl rfl (by decide) (Nat.le_of_ble_eq_true rfl) (by decide) ?_
      refine aw_iadd_n dX11_writeCard_118 ?_
      refine aw_mld (CT.mok hT20 hA) (k := 36 + (kindN (V (4 + x)))) (by omega) dX11_writeCard_119 ?_
      have hb_21 : V (36 + (kindN (V (4 + x)))) < 16000000 := VB.lt hB (by omega)
      refine aw_if_le_n (by omega) (tgt := 146) dX11_writeCard_120 (by decide) (fun c_22 => ?_) (fun c_22 => ?_)
      · refine aw_aload_n dX11_writeCard_146 rfl rfl ?_
        refine aw_aload_n dX11_writeCard_147 rfl rfl ?_
        refine aw_get (v := .int (nI (([] ++ decN x ++ [58] ++ decN (V (4 + x)) ++ [99] ++ [109] ++ [32] ++ [114, 101, 115, 116]).length))) fl_X11_171 mU_0 (congrArg (fun z => some (Value.int z)) hT20.1) dX11_writeCard_148 ?_
        refine aw_vI (as := [Value.int (nI (([] ++ decN x ++ [58] ++ decN (V (4 + x)) ++ [99] ++ [109] ++ [32] ++ [114, 101, 115, 116]).length))]) (rest := []) mV_X11_done (m_done (nI (([] ++ decN x ++ [58] ++ decN (V (4 + x)) ++ [99] ++ [109] ++ [32] ++ [114, 101, 115, 116]).length))) ml_X11_60 mU_0 rfl dX11_writeCard_151 rfl rfl (by decide) (Nat.le_of_ble_eq_true rfl) (by decide) ?_
        have hst : starN V x = false := decide_eq_false (by omega)
        have e : cardL V x = [] ++ decN x ++ [58] ++ decN (V (4 + x)) ++ [99] ++ [109] ++ [32] ++ [114, 101, 115, 116] := by
          unfold cardL cardB
          rw [hst]
          first | rw [if_pos rfl, if_pos (by omega)] | rw [if_pos rfl, if_neg (by omega)] | rw [if_neg (by decide), if_pos (by omega)] | rw [if_neg (by decide), if_neg (by omega)]
          rfl
        have e2 : qCard V (nI x) = (0, cardL V x) := by unfold qCard; rw [if_pos c_1, hnx]
        rw [e2, e]
        exact aw_iret rfl (by decide) (by decide) dX11_writeCard_154 ⟨rfl, rfl, _, _, rfl, MR.card (c := nI 0) hR (CT.up12 hT20), up_self⟩
      · refine aw_aload_n dX11_writeCard_123 rfl rfl ?_
        refine aw_get (v := .ref (o + 1)) fl_X11_7 mU_0 rfl dX11_writeCard_124 ?_
        refine aw_bipush_n 39 dX11_writeCard_127 (by decide) ?_
        refine aw_aload_n dX11_writeCard_129 rfl rfl ?_
        refine aw_iload_n dX11_writeCard_130 rfl rfl ?_
        refine aw_vI (as := [Value.int (nI x)]) (rest := [Value.int (nI 39), Value.ref (o + 1)]) mV_X11_kind (m_kind (CT.mok hT20 hA) (k := x) (len := V (4 + x)) (by omega) rfl (by omega)) ml_X11_79 mU_0 rfl dX11_writeCard_131 rfl rfl (by decide) (Nat.le_of_ble_eq_true rfl) (by decide) ?_
        refine aw_iadd_n dX11_writeCard_134 ?_
        refine aw_mld (CT.mok hT20 hA) (k := 39 + (kindN (V (4 + x)))) (by omega) dX11_writeCard_135 ?_
        have hb_23 : V (39 + (kindN (V (4 + x)))) < 16000000 := VB.lt hB (by omega)
        refine aw_iload_n dX11_writeCard_136 rfl rfl ?_
        refine aw_icmp_ne_n (by omega) (by omega) (tgt := 146) dX11_writeCard_137 (by decide) (fun c_24 => ?_) (fun c_24 => ?_)
        · refine aw_aload_n dX11_writeCard_146 rfl rfl ?_
          refine aw_aload_n dX11_writeCard_147 rfl rfl ?_
          refine aw_get (v := .int (nI (([] ++ decN x ++ [58] ++ decN (V (4 + x)) ++ [99] ++ [109] ++ [32] ++ [114, 101, 115, 116]).length))) fl_X11_171 mU_0 (congrArg (fun z => some (Value.int z)) hT20.1) dX11_writeCard_148 ?_
          refine aw_vI (as := [Value.int (nI (([] ++ decN x ++ [58] ++ decN (V (4 + x)) ++ [99] ++ [109] ++ [32] ++ [114, 101, 115, 116]).length))]) (rest := []) mV_X11_done (m_done (nI (([] ++ decN x ++ [58] ++ decN (V (4 + x)) ++ [99] ++ [109] ++ [32] ++ [114, 101, 115, 116]).length))) ml_X11_60 mU_0 rfl dX11_writeCard_151 rfl rfl (by decide) (Nat.le_of_ble_eq_true rfl) (by decide) ?_
          have hst : starN V x = false := decide_eq_false (by omega)
          have e : cardL V x = [] ++ decN x ++ [58] ++ decN (V (4 + x)) ++ [99] ++ [109] ++ [32] ++ [114, 101, 115, 116] := by
            unfold cardL cardB
            rw [hst]
            first | rw [if_pos rfl, if_pos (by omega)] | rw [if_pos rfl, if_neg (by omega)] | rw [if_neg (by decide), if_pos (by omega)] | rw [if_neg (by decide), if_neg (by omega)]
            rfl
          have e2 : qCard V (nI x) = (0, cardL V x) := by unfold qCard; rw [if_pos c_1, hnx]
          rw [e2, e]
          exact aw_iret rfl (by decide) (by decide) dX11_writeCard_154 ⟨rfl, rfl, _, _, rfl, MR.card (c := nI 0) hR (CT.up12 hT20), up_self⟩
        · refine aw_aload_n dX11_writeCard_140 rfl rfl ?_
          refine aw_bipush_n 42 dX11_writeCard_141 (by decide) ?_
          refine aw_vP (as := [Value.int (nI 42)]) (rest := []) mV_X11_writes (m_writes hT20 (c := 42) (by omega) (by first | omega | (simp only [List.length_append, List.length_singleton, List.length_cons, List.length_nil]; omega))) ml_X11_175 mU_0 rfl dX11_writeCard_143 rfl rfl (by decide) (Nat.le_of_ble_eq_true rfl) (by decide) (fun _ _ _ h => by cases h.1) (fun r f9 n9 _ h => ?_)
          obtain ⟨h1, h2, I25, A25, h3, hT25⟩ := h
          cases h1; subst h2; subst h3
          show AW l G MX11_writeCard 3 180 0 0 _ _ _ _ 146 [(0, .ref o), (1, .int (nI x))] [] (mU f o I25 A25) _
          refine aw_aload_n dX11_writeCard_146 rfl rfl ?_
          refine aw_aload_n dX11_writeCard_147 rfl rfl ?_
          refine aw_get (v := .int (nI (([] ++ decN x ++ [58] ++ decN (V (4 + x)) ++ [99] ++ [109] ++ [32] ++ [114, 101, 115, 116] ++ [42]).length))) fl_X11_171 mU_0 (congrArg (fun z => some (Value.int z)) hT25.1) dX11_writeCard_148 ?_
          refine aw_vI (as := [Value.int (nI (([] ++ decN x ++ [58] ++ decN (V (4 + x)) ++ [99] ++ [109] ++ [32] ++ [114, 101, 115, 116] ++ [42]).length))]) (rest := []) mV_X11_done (m_done (nI (([] ++ decN x ++ [58] ++ decN (V (4 + x)) ++ [99] ++ [109] ++ [32] ++ [114, 101, 115, 116] ++ [42]).length))) ml_X11_60 mU_0 rfl dX11_writeCard_151 rfl rfl (by decide) (Nat.le_of_ble_eq_true rfl) (by decide) ?_
          have hst : starN V x = true := decide_eq_true ⟨by omega, by omega⟩
          have e : cardL V x = [] ++ decN x ++ [58] ++ decN (V (4 + x)) ++ [99] ++ [109] ++ [32] ++ [114, 101, 115, 116] ++ [42] := by
            unfold cardL cardB
            rw [hst]
            first | rw [if_pos rfl, if_pos (by omega)] | rw [if_pos rfl, if_neg (by omega)] | rw [if_neg (by decide), if_pos (by omega)] | rw [if_neg (by decide), if_neg (by omega)]
            rfl
          have e2 : qCard V (nI x) = (0, cardL V x) := by unfold qCard; rw [if_pos c_1, hnx]
          rw [e2, e]
          exact aw_iret rfl (by decide) (by decide) dX11_writeCard_154 ⟨rfl, rfl, _, _, rfl, MR.card (c := nI 0) hR (CT.up12 hT25), up_self⟩
  · refine aw_aload_n dX11_writeCard_8 rfl rfl ?_
    refine aw_iconst_n 1 dX11_writeCard_9 (by decide) ?_
    refine aw_vI (as := [Value.int (nI 1)]) (rest := []) mV_X11_fails (m_fails 1) ml_X11_56 mU_0 rfl dX11_writeCard_10 rfl rfl (by decide) (Nat.le_of_ble_eq_true rfl) (by decide) ?_
    have e : qCard V v = (1, []) := by simp [qCard, c_1]
    rw [e]
    exact aw_iret rfl (by decide) (by decide) dX11_writeCard_13 ⟨rfl, rfl, _, _, rfl, hR.keep (fun k h1 _ _ => up_ne h1) (fun _ _ _ _ => rfl), up_self⟩
