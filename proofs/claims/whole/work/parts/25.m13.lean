/-! reading programs -/
def hN (tn : Nat) (tx : Nat → Nat) (sp : Nat) : Nat := if sp < tn then tx sp else 0
def hI (tn : Nat) (tx : Nat → Nat) (sp : Nat) : Int32 := if sp < tn then nI (tx sp) else -1
def isD (h : Nat) : Bool := decide (48 ≤ h ∧ h ≤ 57)
def needN (tn : Nat) (tx : Nat → Nat) (p : Nat × Bool) (c : Nat) : Nat × Bool := if p.2 = false ∧ hN tn tx p.1 = c then (p.1 + 1, false) else (p.1, true)
def need3 (tn : Nat) (tx : Nat → Nat) (p : Nat × Bool) (a b c : Nat) : Nat × Bool := needN tn tx (needN tn tx (needN tn tx p a) b) c
def runN (tn : Nat) (tx : Nat → Nat) : Nat → Nat → Nat → Nat × Nat
  | 0, v, sp => (v, sp)
  | m + 1, v, sp => if isD (hN tn tx sp) = true then runN tn tx m (10 * v + hN tn tx sp - 48) (sp + 1) else (v, sp)
theorem run_yes {tn : Nat} {tx : Nat → Nat} {m v sp : Nat} (h : isD (hN tn tx sp) = true) : runN tn tx (m + 1) v sp = runN tn tx m (10 * v + hN tn tx sp - 48) (sp + 1) := by show (if _ then _ else _) = _; rw [if_pos h]
theorem run_no {tn : Nat} {tx : Nat → Nat} {m v sp : Nat} (h : isD (hN tn tx sp) = false) : runN tn tx m v sp = (v, sp) := by
  cases m with
  | zero => rfl
  | succ m => show (if _ then _ else _) = _; rw [if_neg (by rw [h]; decide)]
def digN (tn : Nat) (tx : Nat → Nat) (most : Nat) (p : Nat × Bool) : Nat × (Nat × Bool) :=
  if (needN tn tx p 32).2 = false ∧ isD (hN tn tx (needN tn tx p 32).1) = true then ((runN tn tx most 0 (needN tn tx p 32).1).1, ((runN tn tx most 0 (needN tn tx p 32).1).2, false)) else (0, ((needN tn tx p 32).1, true))
def TX (I : Nat → Int32) (A : Nat → Nat → Int32) (tn : Nat) (tx : Nat → Nat) : Prop := I 7 = nI tn ∧ tn ≤ 60 ∧ (∀ i, i < tn → A 4 i = nI (tx i)) ∧ ∀ i, i < tn → 32 ≤ tx i ∧ tx i ≤ 126
def PS (I I0 : Nat → Int32) (p : Nat × Bool) : Prop := I 14 = nI p.1 ∧ I 15 = bI p.2 ∧ ∀ k, k ≠ 14 → k ≠ 15 → I k = I0 k
theorem hI_eq {I : Nat → Int32} {A : Nat → Nat → Int32} {tn : Nat} {tx : Nat → Nat} (h : TX I A tn tx) {sp c : Nat} (hc : 0 < c ∧ c < 128) : hI tn tx sp = nI c ↔ hN tn tx sp = c := by
  unfold hI hN
  split
  · next hs =>
    have := h.2.2.2 sp hs
    exact nI_eq (by omega) (by omega)
  · exact ⟨fun z => absurd z.symm (nI_m1 (by omega)), fun z => by omega⟩
theorem hI_dig {I : Nat → Int32} {A : Nat → Nat → Int32} {tn : Nat} {tx : Nat → Nat} (h : TX I A tn tx) {sp : Nat} : inB (hI tn tx sp) (nI 48) (nI 57) = isD (hN tn tx sp) := by
  unfold hI hN
  split
  · next hs =>
    have := h.2.2.2 sp hs
    unfold inB isD
    rw [← Bool.decide_and]
    apply decide_eq_decide.mpr
    rw [Int32.le_iff_toInt_le, Int32.le_iff_toInt_le, nI_toInt (show 48 < 2 ^ 31 by decide), nI_toInt (show tx sp < 2 ^ 31 by omega), nI_toInt (show 57 < 2 ^ 31 by decide)]
    omega
  · decide
theorem isD_of {h : Nat} (z : isD h = true) : 48 ≤ h ∧ h ≤ 57 := of_decide_eq_true z
theorem hN_lt {tn sp : Nat} {tx : Nat → Nat} (h : hN tn tx sp ≠ 0) : sp < tn := by
  unfold hN at h
  split at h
  · assumption
  · exact absurd rfl h
theorem hI_n {tn sp : Nat} {tx : Nat → Nat} (h : sp < tn) : hI tn tx sp = nI (hN tn tx sp) := by unfold hI hN; rw [if_pos h, if_pos h]
theorem need_le {tn c : Nat} {tx : Nat → Nat} {p : Nat × Bool} (hc : 0 < c) (ht : tn ≤ 60) (hp : p.1 ≤ 61) : (needN tn tx p c).1 ≤ 61 := by
  unfold needN
  split
  · next h => have := hN_lt (tn := tn) (tx := tx) (sp := p.1) (by omega); show p.1 + 1 ≤ 61; omega
  · exact hp
theorem PS.put {I I0 : Nat → Int32} {p : Nat × Bool} (h : PS I I0 p) {w : Bool} {q : Nat} {x : Int32} (hx : x = bI w) : PS (va_up (va_up I 15 x) 14 (nI q)) I0 (q, w) :=
  ⟨up_self, by rw [up_ne (by decide), up_self, hx], fun k h1 h2 => by rw [up_ne h1, up_ne h2]; exact h.2.2 k h1 h2⟩
def PNs (f : HT) (o : Nat) (I0 : Nat → Int32) (A : Nat → Nat → Int32) (p : Nat × Bool) (n : Nat) : PT := fun r f' n' => r = .inl none ∧ n' = n ∧ ∃ I' : Nat → Int32, f' = mU f o I' A ∧ PS I' I0 p
def PDg (f : HT) (o : Nat) (I0 : Nat → Int32) (A : Nat → Nat → Int32) (d : Nat × (Nat × Bool)) (n : Nat) : PT := fun r f' n' => r = .inl (some (.int (nI d.1))) ∧ n' = n ∧ ∃ I' : Nat → Int32, f' = mU f o I' A ∧ PS I' I0 d.2
theorem need3_le {tn a b c : Nat} {tx : Nat → Nat} {p : Nat × Bool} (ha : 0 < a) (hb : 0 < b) (hc : 0 < c) (ht : tn ≤ 60) (hp : p.1 ≤ 61) : (need3 tn tx p a b c).1 ≤ 61 := need_le hc ht (need_le hb ht (need_le ha ht hp))
theorem run_le {tn : Nat} {tx : Nat → Nat} (ht : tn ≤ 60) : ∀ m v sp, sp ≤ 61 → (runN tn tx m v sp).2 ≤ 61 := by
  intro m
  induction m with
  | zero => intro v sp h; exact h
  | succ m ih =>
    intro v sp h
    cases hd : isD (hN tn tx sp) with
    | false => rw [run_no hd]; exact h
    | true =>
      rw [run_yes hd]
      have := isD_of hd
      have := hN_lt (tn := tn) (tx := tx) (sp := sp) (by omega)
      exact ih _ _ (by omega)
theorem dig_le {tn most : Nat} {tx : Nat → Nat} {p : Nat × Bool} (ht : tn ≤ 60) (hp : p.1 ≤ 61) : (digN tn tx most p).2.1 ≤ 61 := by
  have h := need_le (tx := tx) (c := 32) (by decide) ht hp
  unfold digN
  split
  · exact run_le ht _ _ _ h
  · exact h
theorem PS.put15 {I I0 : Nat → Int32} {p : Nat × Bool} (h : PS I I0 p) {w : Bool} {x : Int32} (hx : x = bI w) : PS (va_up I 15 x) I0 (p.1, w) :=
  ⟨by rw [up_ne (by decide)]; exact h.1, by rw [up_self, hx], fun k h1 h2 => by rw [up_ne h2]; exact h.2.2 k h1 h2⟩
def pcN (tn : Nat) (tx : Nat → Nat) (p : Nat × Bool) : (Nat × Nat × Nat) × (Nat × Bool) :=
  if hN tn tx p.1 = 117 then ((117, (digN tn tx 1 (needN tn tx (needN tn tx p 117) 116)).1, 0), (digN tn tx 1 (needN tn tx (needN tn tx p 117) 116)).2)
  else ((99, (digN tn tx 1 (needN tn tx (need3 tn tx p 97 116 99) 104)).1, 0), (digN tn tx 1 (needN tn tx (need3 tn tx p 97 116 99) 104)).2)
/-! one command: its sign, its one or two numbers -/
def cmdN (tn : Nat) (tx : Nat → Nat) (sp : Nat) : (Nat × Nat × Nat) × (Nat × Bool) :=
  if hN tn tx sp = 104 then ((104, (digN tn tx 3 (need3 tn tx (sp + 1, false) 97 110 103)).1, 0), (digN tn tx 3 (need3 tn tx (sp + 1, false) 97 110 103)).2)
  else if hN tn tx sp = 112 then ((112, (digN tn tx 1 (need3 tn tx (sp + 1, false) 117 115 104)).1, (digN tn tx 3 (digN tn tx 1 (need3 tn tx (sp + 1, false) 117 115 104)).2).1), (digN tn tx 3 (digN tn tx 1 (need3 tn tx (sp + 1, false) 117 115 104)).2).2)
  else if hN tn tx sp = 99 then
    pcN tn tx (sp + 1, false)
  else if hN tn tx sp = 102 then ((102, (digN tn tx 3 (needN tn tx (need3 tn tx (need3 tn tx (sp + 1, false) 114 105 99) 116 105 111) 110)).1, 0), (digN tn tx 3 (needN tn tx (need3 tn tx (need3 tn tx (sp + 1, false) 114 105 99) 116 105 111) 110)).2)
  else if hN tn tx sp = 108 then ((108, (digN tn tx 3 (needN tn tx (needN tn tx (sp + 1, false) 101) 103)).1, 0), (digN tn tx 3 (needN tn tx (needN tn tx (sp + 1, false) 101) 103)).2)
  else if hN tn tx sp = 116 then ((116, (digN tn tx 3 (need3 tn tx (sp + 1, false) 105 99 107)).1, 0), (digN tn tx 3 (need3 tn tx (sp + 1, false) 105 99 107)).2)
  else ((0, 0, 0), (sp, true))
/-- a command as it lies in the array -/
def PK (B : Nat → Int32) (k : Nat) (c : Nat × Nat × Nat) : Prop := B k = nI c.1 ∧ B (k + 1) = nI c.2.1 ∧ (c.1 = 112 → B (k + 2) = nI c.2.2)
def PCs (f : HT) (o : Nat) (I0 : Nat → Int32) (A0 : Nat → Nat → Int32) (k : Nat) (d : (Nat × Nat × Nat) × (Nat × Bool)) (n : Nat) : PT := fun r f' n' => r = .inl none ∧ n' = n ∧ ∃ (I' : Nat → Int32) (A' : Nat → Nat → Int32), f' = mU f o I' A' ∧ PS I' I0 d.2 ∧ (∀ j, j ≠ 7 → A' j = A0 j) ∧ (∀ i, i < k → A' 7 i = A0 7 i) ∧ (d.2.2 = false → PK (A' 7) k d.1)
theorem TX.up7 {I : Nat → Int32} {A : Nat → Nat → Int32} {tn : Nat} {tx : Nat → Nat} (h : TX I A tn tx) {g : Nat → Int32} : TX I (va_up A 7 g) tn tx := ⟨h.1, h.2.1, fun i hi => by rw [up_ne (by decide)]; exact h.2.2.1 i hi, h.2.2.2⟩
theorem PS.put14 {I I0 : Nat → Int32} {p : Nat × Bool} (h : PS I I0 p) {q : Nat} : PS (va_up I 14 (nI q)) I0 (q, p.2) :=
  ⟨up_self, by rw [up_ne (by decide)]; exact h.2.1, fun k h1 h2 => by rw [up_ne h1]; exact h.2.2 k h1 h2⟩
theorem tab_key {t : Nat} (h1 : 99 ≤ t) (h2 : t ≤ 116) (h3 : t ≠ 104 ∧ t ≠ 112 ∧ t ≠ 99 ∧ t ≠ 102 ∧ t ≠ 108 ∧ t ≠ 116) : (#[150, 254, 254, 158, 254, 85, 254, 254, 254, 200, 254, 254, 254, 111, 254, 254, 254, 228] : Array Int)[((nI t).toInt - 99).toNat]? = some 254 := by
  have key : ∀ t, t < 117 → 99 ≤ t → (t ≠ 104 ∧ t ≠ 112 ∧ t ≠ 99 ∧ t ≠ 102 ∧ t ≠ 108 ∧ t ≠ 116) → (#[150, 254, 254, 158, 254, 85, 254, 254, 254, 200, 254, 254, 254, 111, 254, 254, 254, 228] : Array Int)[((nI t).toInt - 99).toNat]? = some 254 := by decide +kernel
  exact key t (by omega) h1 h3
abbrev MX11_here : MT := (RX11, cX11_here, 1, (some .int), [], "here")
set_option maxHeartbeats 4000000 in
theorem m_here {l : Launch} {G : GT} {n : Nat} {f : HT} {o : Nat} {I I0 : Nat → Int32} {A : Nat → Nat → Int32} {tn : Nat} {tx : Nat → Nat} (hX : TX I0 A tn tx) {p : Nat × Bool} (hP : PS I I0 p) (hp : p.1 ≤ 61) : AM l G yX11_here (.code yX11_here cX11_here 1 (some .int)) 0 0 0 0 [.ref o] (mU f o I A) n (rI (hI tn tx p.1) (mU f o I A) n) := by
  refine aw_enter (M := MX11_here) rfl rfl (by decide +kernel) rfl (Nat.le_of_ble_eq_true rfl) ?_
  have htn := hX.2.1
  show AW l G MX11_here 0 0 0 0 _ n 0 0 0 [(0, .ref o)] [] _ n
  refine aw_aload_n dX11_here_0 rfl rfl ?_
  refine aw_get (v := .int (nI p.1)) fl_X11_188 mU_0 (congrArg (fun z => some (Value.int z)) hP.1) dX11_here_1 ?_
  refine aw_aload_n dX11_here_4 rfl rfl ?_
  refine aw_get (v := .int (nI tn)) fl_X11_185 mU_0 (congrArg (fun z => some (Value.int z)) ((hP.2.2 7 (by decide) (by decide)).trans hX.1)) dX11_here_5 ?_
  refine aw_icmp_ge_n (by omega) (by omega) (tgt := 23) dX11_here_8 (by decide) (fun c_1 => ?_) (fun c_1 => ?_)
  · refine aw_iconst (v := -1) dX11_here_23 (by decide) ?_
    exact aw_iret rfl (by decide) (by decide) dX11_here_24 (rI_of (by unfold hI; rw [if_neg (by omega)]))
  · refine aw_aload_n dX11_here_11 rfl rfl ?_
    refine aw_get (v := .ref (o + 5)) fl_X11_22 mU_0 rfl dX11_here_12 ?_
    refine aw_aload_n dX11_here_15 rfl rfl ?_
    refine aw_get (v := .int (nI p.1)) fl_X11_188 mU_0 (congrArg (fun z => some (Value.int z)) hP.1) dX11_here_16 ?_
    refine aw_cald_n (k := p.1) (v := (nI (tx p.1))) mU_5 (by omega) (by decide) (hX.2.2.1 _ (by omega)) dX11_here_19 ?_
    refine aw_goto (tgt := 24) dX11_here_20 (by decide) ?_
    exact aw_iret rfl (by decide) (by decide) dX11_here_24 (rI_of (by unfold hI; rw [if_pos (by omega)]))
abbrev MX11_needs : MT := (RX11, cX11_needs, 2, none, [], "needs")
set_option maxHeartbeats 4000000 in
theorem m_needs {l : Launch} {G : GT} {n : Nat} {f : HT} {o : Nat} {I I0 : Nat → Int32} {A : Nat → Nat → Int32} {tn : Nat} {tx : Nat → Nat} (hX : TX I0 A tn tx) {p : Nat × Bool} (hP : PS I I0 p) (hp : p.1 ≤ 61) {c : Nat} (hc : 0 < c ∧ c < 128) : AM l G yX11_needs (.code yX11_needs cX11_needs 2 none) 1 60 0 0 [.ref o, .int (nI c)] (mU f o I A) n (PNs f o I0 A (needN tn tx p c) n) := by
  refine aw_enter (M := MX11_needs) rfl rfl (by decide +kernel) rfl (Nat.le_of_ble_eq_true rfl) ?_
  show AW l G MX11_needs 1 60 0 0 _ n 0 0 0 [(0, .ref o), (1, .int (nI c))] [] _ n
  refine aw_aload_n dX11_needs_0 rfl rfl ?_
  refine aw_aload_n dX11_needs_1 rfl rfl ?_
  refine aw_get (v := .int (bI p.2)) fl_X11_191 mU_0 (congrArg (fun z => some (Value.int z)) hP.2.1) dX11_needs_2 ?_
  refine aw_if_ne_b (tgt := 16) dX11_needs_5 (by decide) (fun c_1 => ?_) (fun c_1 => ?_)
  · refine aw_iconst_n 1 dX11_needs_16 (by decide) ?_
    refine aw_goto (tgt := 21) dX11_needs_17 (by decide) ?_
    refine aw_mput fp_X11_191 (by decide) rfl rfl dX11_needs_21 ?_
    refine aw_aload_n dX11_needs_24 rfl rfl ?_
    refine aw_dup dX11_needs_25 rfl ?_
    refine aw_get (v := .int (nI p.1)) fl_X11_188 mU_0 (congrArg (fun z => some (Value.int z)) hP.1) dX11_needs_26 ?_
    refine aw_aload_n dX11_needs_29 rfl rfl ?_
    refine aw_get (v := .int (nI 1)) fl_X11_191 mU_0 rfl dX11_needs_30 ?_
    refine aw_if_eq_n (by omega) (tgt := 40) dX11_needs_33 (by decide) (fun c_2 => by exfalso; omega) (fun c_2 => ?_)
    refine aw_iconst_n 0 dX11_needs_36 (by decide) ?_
    refine aw_goto (tgt := 41) dX11_needs_37 (by decide) ?_
    refine aw_iadd_n dX11_needs_41 ?_
    refine aw_mput fp_X11_188 (by decide) rfl rfl dX11_needs_42 ?_
    have e : needN tn tx p c = (p.1 + 0, true) := by unfold needN; rw [if_neg (fun z => by simp_all)]; rfl
    rw [e]
    exact aw_vret rfl (by decide) (by decide) dX11_needs_45 ⟨rfl, rfl, _, rfl, hP.put rfl⟩
  · refine aw_aload_n dX11_needs_8 rfl rfl ?_
    refine aw_vI (as := []) (rest := [Value.ref o]) mV_X11_here (m_here hX hP (by first | omega | exact hp | assumption)) ml_X11_195 mU_0 rfl dX11_needs_9 rfl rfl (by decide) (Nat.le_of_ble_eq_true rfl) (by decide) ?_
    refine aw_iload_n dX11_needs_12 rfl rfl ?_
    refine aw_icmp_eq (tgt := 20) dX11_needs_13 (by decide) (fun c_3 => ?_) (fun c_3 => ?_)
    · have hq := (hI_eq hX hc).mp c_3
      refine aw_iconst_n 0 dX11_needs_20 (by decide) ?_
      refine aw_mput fp_X11_191 (by decide) rfl rfl dX11_needs_21 ?_
      refine aw_aload_n dX11_needs_24 rfl rfl ?_
      refine aw_dup dX11_needs_25 rfl ?_
      refine aw_get (v := .int (nI p.1)) fl_X11_188 mU_0 (congrArg (fun z => some (Value.int z)) hP.1) dX11_needs_26 ?_
      refine aw_aload_n dX11_needs_29 rfl rfl ?_
      refine aw_get (v := .int (nI 0)) fl_X11_191 mU_0 rfl dX11_needs_30 ?_
      refine aw_if_eq_n (by omega) (tgt := 40) dX11_needs_33 (by decide) (fun c_4 => ?_) (fun c_4 => by exfalso; omega)
      refine aw_iconst_n 1 dX11_needs_40 (by decide) ?_
      refine aw_iadd_n dX11_needs_41 ?_
      refine aw_mput fp_X11_188 (by decide) rfl rfl dX11_needs_42 ?_
      have e : needN tn tx p c = (p.1 + 1, false) := by unfold needN; rw [if_pos ⟨c_1, by assumption⟩]
      rw [e]
      exact aw_vret rfl (by decide) (by decide) dX11_needs_45 ⟨rfl, rfl, _, rfl, hP.put rfl⟩
    · have hq := fun z => c_3 ((hI_eq hX hc).mpr z)
      refine aw_iconst_n 1 dX11_needs_16 (by decide) ?_
      refine aw_goto (tgt := 21) dX11_needs_17 (by decide) ?_
      refine aw_mput fp_X11_191 (by decide) rfl rfl dX11_needs_21 ?_
      refine aw_aload_n dX11_needs_24 rfl rfl ?_
      refine aw_dup dX11_needs_25 rfl ?_
      refine aw_get (v := .int (nI p.1)) fl_X11_188 mU_0 (congrArg (fun z => some (Value.int z)) hP.1) dX11_needs_26 ?_
      refine aw_aload_n dX11_needs_29 rfl rfl ?_
      refine aw_get (v := .int (nI 1)) fl_X11_191 mU_0 rfl dX11_needs_30 ?_
      refine aw_if_eq_n (by omega) (tgt := 40) dX11_needs_33 (by decide) (fun c_5 => by exfalso; omega) (fun c_5 => ?_)
      refine aw_iconst_n 0 dX11_needs_36 (by decide) ?_
      refine aw_goto (tgt := 41) dX11_needs_37 (by decide) ?_
      refine aw_iadd_n dX11_needs_41 ?_
      refine aw_mput fp_X11_188 (by decide) rfl rfl dX11_needs_42 ?_
      have e : needN tn tx p c = (p.1 + 0, true) := by unfold needN; rw [if_neg (fun z => by simp_all)]; rfl
      rw [e]
      exact aw_vret rfl (by decide) (by decide) dX11_needs_45 ⟨rfl, rfl, _, rfl, hP.put rfl⟩
abbrev MX11_needsThree : MT := (RX11, cX11_needsThree, 4, none, [], "needsThree")
set_option maxHeartbeats 4000000 in
theorem m_needsThree {l : Launch} {G : GT} {n : Nat} {f : HT} {o : Nat} {I I0 : Nat → Int32} {A : Nat → Nat → Int32} {tn : Nat} {tx : Nat → Nat} (hX : TX I0 A tn tx) {p : Nat × Bool} (hP : PS I I0 p) (hp : p.1 ≤ 61) {a b c : Nat} (ha : 0 < a ∧ a < 128) (hb : 0 < b ∧ b < 128) (hc : 0 < c ∧ c < 128) : AM l G yX11_needsThree (.code yX11_needsThree cX11_needsThree 4 none) 2 120 0 0 [.ref o, .int (nI a), .int (nI b), .int (nI c)] (mU f o I A) n (PNs f o I0 A (need3 tn tx p a b c) n) := by
  refine aw_enter (M := MX11_needsThree) rfl rfl (by decide +kernel) rfl (Nat.le_of_ble_eq_true rfl) ?_
  show AW l G MX11_needsThree 2 120 0 0 _ n 0 0 0 [(0, .ref o), (1, .int (nI a)), (2, .int (nI b)), (3, .int (nI c))] [] _ n
  refine aw_aload_n dX11_needsThree_0 rfl rfl ?_
  refine aw_iload_n dX11_needsThree_1 rfl rfl ?_
  refine aw_vP (as := [Value.int (nI a)]) (rest := []) mV_X11_needs (m_needs hX hP hp (c := a) (by omega)) ml_X11_198 mU_0 rfl dX11_needsThree_2 rfl rfl (by decide) (Nat.le_of_ble_eq_true rfl) (by decide) (fun _ _ _ h => by cases h.1) (fun r f9 n9 _ h => ?_)
  obtain ⟨h1, h2, I1, h3, hP1⟩ := h
  cases h1; subst h2; subst h3
  have hp1 : (needN tn tx p a).1 ≤ 61 := need_le (by omega) hX.2.1 hp
  show AW l G MX11_needsThree 2 120 0 0 _ _ _ _ 5 [(0, .ref o), (1, .int (nI a)), (2, .int (nI b)), (3, .int (nI c))] [] (mU f o I1 A) _
  refine aw_aload_n dX11_needsThree_5 rfl rfl ?_
  refine aw_iload_n dX11_needsThree_6 rfl rfl ?_
  refine aw_vP (as := [Value.int (nI b)]) (rest := []) mV_X11_needs (m_needs hX hP1 hp1 (c := b) (by omega)) ml_X11_198 mU_0 rfl dX11_needsThree_7 rfl rfl (by decide) (Nat.le_of_ble_eq_true rfl) (by decide) (fun _ _ _ h => by cases h.1) (fun r f9 n9 _ h => ?_)
  obtain ⟨h1, h2, I2, h3, hP2⟩ := h
  cases h1; subst h2; subst h3
  have hp2 : (needN tn tx (needN tn tx p a) b).1 ≤ 61 := need_le (by omega) hX.2.1 hp1
  show AW l G MX11_needsThree 2 120 0 0 _ _ _ _ 10 [(0, .ref o), (1, .int (nI a)), (2, .int (nI b)), (3, .int (nI c))] [] (mU f o I2 A) _
  refine aw_aload_n dX11_needsThree_10 rfl rfl ?_
  refine aw_iload_n dX11_needsThree_11 rfl rfl ?_
  refine aw_vP (as := [Value.int (nI c)]) (rest := []) mV_X11_needs (m_needs hX hP2 hp2 (c := c) (by omega)) ml_X11_198 mU_0 rfl dX11_needsThree_12 rfl rfl (by decide) (Nat.le_of_ble_eq_true rfl) (by decide) (fun _ _ _ h => by cases h.1) (fun r f9 n9 _ h => ?_)
  obtain ⟨h1, h2, I3, h3, hP3⟩ := h
  cases h1; subst h2; subst h3
  have hp3 : (needN tn tx (needN tn tx (needN tn tx p a) b) c).1 ≤ 61 := need_le (by omega) hX.2.1 hp2
  show AW l G MX11_needsThree 2 120 0 0 _ _ _ _ 15 [(0, .ref o), (1, .int (nI a)), (2, .int (nI b)), (3, .int (nI c))] [] (mU f o I3 A) _
  exact aw_vret rfl (by decide) (by decide) dX11_needsThree_15 ⟨rfl, rfl, _, rfl, hP3⟩
abbrev MX11_digits : MT := (RX11, cX11_digits, 4, (some .int), [], "digits")
set_option maxHeartbeats 4000000 in
theorem m_dig_loop {l : Launch} {G : GT} {n : Nat} {f : HT} {o : Nat} {I0 : Nat → Int32} {A : Nat → Nat → Int32} {tn : Nat} {tx : Nat → Nat} (hX : TX I0 A tn tx) {most : Nat} (hm : most ≤ 3) : ∀ (N : Nat) (c v sp : Nat) (I : Nat → Int32), (most - c = N) → (c ≤ most) → (PS I I0 (sp, false)) → (sp ≤ 61) → AW l G MX11_digits 2 120 0 0 (PDg f o I0 A ((runN tn tx (most - c) v sp).1, ((runN tn tx (most - c) v sp).2, false)) n) n 0 0 40 [(3, .int (nI c)), (2, .int (nI v)), (0, .ref o), (1, .int (nI most))] [] (mU f o I A) n := by
  intro N
  induction N using Nat.strongRecOn with
  | ind N ih =>
    intro c v sp I hN9 hc hP hp
    have htn := hX.2.1
    refine aw_aload_n dX11_digits_40 rfl rfl ?_
    refine aw_get (v := .int (nI 0)) fl_X11_191 mU_0 (congrArg (fun z => some (Value.int z)) hP.2.1) dX11_digits_41 ?_
    refine aw_if_ne_n (by omega) (tgt := 95) dX11_digits_44 (by decide) (fun c_1 => by exfalso; omega) (fun c_1 => ?_)
    refine aw_iload_n dX11_digits_47 rfl rfl ?_
    refine aw_iload_n dX11_digits_48 rfl rfl ?_
    refine aw_icmp_ge_n (by omega) (by omega) (tgt := 95) dX11_digits_49 (by decide) (fun c_2 => ?_) (fun c_2 => ?_)
    · refine aw_iload_n dX11_digits_95 rfl rfl ?_
      rw [show most - c = 0 by omega]
      exact aw_iret rfl (by decide) (by decide) dX11_digits_96 ⟨rfl, rfl, _, rfl, hP⟩
    · refine aw_aload_n dX11_digits_52 rfl rfl ?_
      refine aw_vI (as := []) (rest := []) mV_X11_here (m_here hX hP (by first | omega | exact hp | assumption)) ml_X11_195 mU_0 rfl dX11_digits_53 rfl rfl (by decide) (Nat.le_of_ble_eq_true rfl) (by decide) ?_
      refine aw_bipush_n 48 dX11_digits_56 (by decide) ?_
      refine aw_bipush_n 57 dX11_digits_58 (by decide) ?_
      refine aw_sI (as := [Value.int (hI tn tx sp), Value.int (nI 48), Value.int (nI 57)]) (rest := []) mS_X11_in (m_in _ _ _) ml_X11_52 dX11_digits_60 rfl rfl (by decide) (Nat.le_of_ble_eq_true rfl) (by decide) ?_
      rw [hI_dig hX]
      refine aw_if_eq_b (tgt := 95) dX11_digits_63 (by decide) (fun c_3 => ?_) (fun c_3 => ?_)
      · refine aw_iload_n dX11_digits_95 rfl rfl ?_
        rw [run_no c_3]
        exact aw_iret rfl (by decide) (by decide) dX11_digits_96 ⟨rfl, rfl, _, rfl, hP⟩
      · have hdg := isD_of c_3
        have hlt := hN_lt (tn := tn) (tx := tx) (sp := sp) (by omega)
        refine aw_bipush_n 10 dX11_digits_66 (by decide) ?_
        refine aw_iload_n dX11_digits_68 rfl rfl ?_
        refine aw_imul_n dX11_digits_69 ?_
        refine aw_aload_n dX11_digits_70 rfl rfl ?_
        refine aw_vI (as := []) (rest := [Value.int (nI (10 * v))]) mV_X11_here (m_here hX hP (by first | omega | exact hp | assumption)) ml_X11_195 mU_0 rfl dX11_digits_71 rfl rfl (by decide) (Nat.le_of_ble_eq_true rfl) (by decide) ?_
        rw [hI_n hlt]
        refine aw_iadd_n dX11_digits_74 ?_
        refine aw_bipush_n 48 dX11_digits_75 (by decide) ?_
        refine aw_isub_n (by omega) dX11_digits_77 ?_
        refine aw_istore_n (L' := [(2, .int (nI (((10 * v) + (hN tn tx sp)) - 48))), (3, .int (nI c)), (0, .ref o), (1, .int (nI most))]) dX11_digits_78 rfl (by decide) rfl ?_
        refine aw_aload_n dX11_digits_79 rfl rfl ?_
        refine aw_dup dX11_digits_80 rfl ?_
        refine aw_get (v := .int (nI sp)) fl_X11_188 mU_0 (congrArg (fun z => some (Value.int z)) hP.1) dX11_digits_81 ?_
        refine aw_iconst_n 1 dX11_digits_84 (by decide) ?_
        refine aw_iadd_n dX11_digits_85 ?_
        refine aw_mput fp_X11_188 (by decide) rfl rfl dX11_digits_86 ?_
        refine aw_iinc_n (L' := [(3, .int (nI (c + 1))), (2, .int (nI (((10 * v) + (hN tn tx sp)) - 48))), (0, .ref o), (1, .int (nI most))]) 1 dX11_digits_89 rfl (by decide) (by decide) rfl ?_
        refine aw_goto (tgt := 40) dX11_digits_92 (by decide) ?_
        rw [show most - c = (most - (c + 1)) + 1 by omega, run_yes c_3]
        refine aw_sub [(3, .int (nI (c + 1))), (2, .int (nI (10 * v + hN tn tx sp - 48))), (0, .ref o), (1, .int (nI most))] (by simp) ?_
        exact ih _ (by omega) (c + 1) _ (sp + 1) _ rfl (by omega) ⟨up_self, by rw [up_ne (by decide)]; exact hP.2.1, fun k h1 h2 => by rw [up_ne h1]; exact hP.2.2 k h1 h2⟩ (by have := hX.2.1; omega)
set_option maxHeartbeats 4000000 in
theorem m_digits {l : Launch} {G : GT} {n : Nat} {f : HT} {o : Nat} {I I0 : Nat → Int32} {A : Nat → Nat → Int32} {tn : Nat} {tx : Nat → Nat} (hX : TX I0 A tn tx) {p : Nat × Bool} (hP : PS I I0 p) (hp : p.1 ≤ 61) {most : Nat} (hm : most ≤ 3) : AM l G yX11_digits (.code yX11_digits cX11_digits 4 (some .int)) 2 120 0 0 [.ref o, .int (nI most)] (mU f o I A) n (PDg f o I0 A (digN tn tx most p) n) := by
  refine aw_enter (M := MX11_digits) rfl rfl (by decide +kernel) rfl (Nat.le_of_ble_eq_true rfl) ?_
  show AW l G MX11_digits 2 120 0 0 _ n 0 0 0 [(0, .ref o), (1, .int (nI most))] [] _ n
  refine aw_aload_n dX11_digits_0 rfl rfl ?_
  refine aw_bipush_n 32 dX11_digits_1 (by decide) ?_
  refine aw_vP (as := [Value.int (nI 32)]) (rest := []) mV_X11_needs (m_needs hX hP hp (c := 32) (by omega)) ml_X11_198 mU_0 rfl dX11_digits_3 rfl rfl (by decide) (Nat.le_of_ble_eq_true rfl) (by decide) (fun _ _ _ h => by cases h.1) (fun r f9 n9 _ h => ?_)
  obtain ⟨h1, h2, I1, h3, hP1⟩ := h
  cases h1; subst h2; subst h3
  have hp1 : (needN tn tx p 32).1 ≤ 61 := need_le (by omega) hX.2.1 hp
  show AW l G MX11_digits 2 120 0 0 _ _ _ _ 6 [(0, .ref o), (1, .int (nI most))] [] (mU f o I1 A) _
  refine aw_aload_n dX11_digits_6 rfl rfl ?_
  refine aw_aload_n dX11_digits_7 rfl rfl ?_
  refine aw_get (v := .int (bI ((needN tn tx p 32).2))) fl_X11_191 mU_0 (congrArg (fun z => some (Value.int z)) hP1.2.1) dX11_digits_8 ?_
  refine aw_if_ne_b (tgt := 28) dX11_digits_11 (by decide) (fun c_2 => ?_) (fun c_2 => ?_)
  · refine aw_iconst_n 1 dX11_digits_28 (by decide) ?_
    refine aw_goto (tgt := 33) dX11_digits_29 (by decide) ?_
    refine aw_mput fp_X11_191 (by decide) rfl rfl dX11_digits_33 ?_
    refine aw_iconst_n 0 dX11_digits_36 (by decide) ?_
    refine aw_istore_n (L' := [(2, .int (nI 0)), (0, .ref o), (1, .int (nI most))]) dX11_digits_37 rfl (by decide) rfl ?_
    refine aw_iconst_n 0 dX11_digits_38 (by decide) ?_
    refine aw_istore_n (L' := [(3, .int (nI 0)), (2, .int (nI 0)), (0, .ref o), (1, .int (nI most))]) dX11_digits_39 rfl (by decide) rfl ?_
    have e : digN tn tx most p = (0, ((needN tn tx p 32).1, true)) := by unfold digN; rw [if_neg (fun z => by simp_all)]
    rw [e]
    refine aw_aload_n dX11_digits_40 rfl rfl ?_
    refine aw_get (v := .int (nI 1)) fl_X11_191 mU_0 rfl dX11_digits_41 ?_
    refine aw_if_ne_n (by omega) (tgt := 95) dX11_digits_44 (by decide) (fun c_3 => ?_) (fun c_3 => by exfalso; omega)
    refine aw_iload_n dX11_digits_95 rfl rfl ?_
    exact aw_iret rfl (by decide) (by decide) dX11_digits_96 ⟨rfl, rfl, _, rfl, hP1.put15 rfl⟩
  · refine aw_aload_n dX11_digits_14 rfl rfl ?_
    refine aw_vI (as := []) (rest := [Value.ref o]) mV_X11_here (m_here hX hP1 (by first | omega | exact hp | assumption)) ml_X11_195 mU_0 rfl dX11_digits_15 rfl rfl (by decide) (Nat.le_of_ble_eq_true rfl) (by decide) ?_
    refine aw_bipush_n 48 dX11_digits_18 (by decide) ?_
    refine aw_bipush_n 57 dX11_digits_20 (by decide) ?_
    refine aw_sI (as := [Value.int (hI tn tx ((needN tn tx p 32).1)), Value.int (nI 48), Value.int (nI 57)]) (rest := [Value.ref o]) mS_X11_in (m_in _ _ _) ml_X11_52 dX11_digits_22 rfl rfl (by decide) (Nat.le_of_ble_eq_true rfl) (by decide) ?_
    rw [hI_dig hX]
    refine aw_if_ne_b (tgt := 32) dX11_digits_25 (by decide) (fun c_4 => ?_) (fun c_4 => ?_)
    · refine aw_iconst_n 0 dX11_digits_32 (by decide) ?_
      refine aw_mput fp_X11_191 (by decide) rfl rfl dX11_digits_33 ?_
      refine aw_iconst_n 0 dX11_digits_36 (by decide) ?_
      refine aw_istore_n (L' := [(2, .int (nI 0)), (0, .ref o), (1, .int (nI most))]) dX11_digits_37 rfl (by decide) rfl ?_
      refine aw_iconst_n 0 dX11_digits_38 (by decide) ?_
      refine aw_istore_n (L' := [(3, .int (nI 0)), (2, .int (nI 0)), (0, .ref o), (1, .int (nI most))]) dX11_digits_39 rfl (by decide) rfl ?_
      have e : digN tn tx most p = ((runN tn tx most 0 (needN tn tx p 32).1).1, ((runN tn tx most 0 (needN tn tx p 32).1).2, false)) := by unfold digN; rw [if_pos ⟨by assumption, by assumption⟩]
      rw [e]
      exact aw_sub [(3, .int (nI 0)), (2, .int (nI 0)), (0, .ref o), (1, .int (nI most))] (by simp) (m_dig_loop hX hm _ 0 0 (needN tn tx p 32).1 _ rfl (Nat.zero_le _) (hP1.put15 rfl) hp1)
    · refine aw_iconst_n 1 dX11_digits_28 (by decide) ?_
      refine aw_goto (tgt := 33) dX11_digits_29 (by decide) ?_
      refine aw_mput fp_X11_191 (by decide) rfl rfl dX11_digits_33 ?_
      refine aw_iconst_n 0 dX11_digits_36 (by decide) ?_
      refine aw_istore_n (L' := [(2, .int (nI 0)), (0, .ref o), (1, .int (nI most))]) dX11_digits_37 rfl (by decide) rfl ?_
      refine aw_iconst_n 0 dX11_digits_38 (by decide) ?_
      refine aw_istore_n (L' := [(3, .int (nI 0)), (2, .int (nI 0)), (0, .ref o), (1, .int (nI most))]) dX11_digits_39 rfl (by decide) rfl ?_
      have e : digN tn tx most p = (0, ((needN tn tx p 32).1, true)) := by unfold digN; rw [if_neg (fun z => by simp_all)]
      rw [e]
      refine aw_aload_n dX11_digits_40 rfl rfl ?_
      refine aw_get (v := .int (nI 1)) fl_X11_191 mU_0 rfl dX11_digits_41 ?_
      refine aw_if_ne_n (by omega) (tgt := 95) dX11_digits_44 (by decide) (fun c_5 => ?_) (fun c_5 => by exfalso; omega)
      refine aw_iload_n dX11_digits_95 rfl rfl ?_
      exact aw_iret rfl (by decide) (by decide) dX11_digits_96 ⟨rfl, rfl, _, rfl, hP1.put15 rfl⟩
abbrev MX11_parsesC : MT := (RX11, cX11_parsesC, 2, none, [], "parsesC")
set_option maxHeartbeats 4000000 in
theorem m_parsesC {l : Launch} {G : GT} {n : Nat} {f : HT} {o : Nat} {I I0 : Nat → Int32} {A : Nat → Nat → Int32} {tn : Nat} {tx : Nat → Nat} (hX : TX I0 A tn tx) {p : Nat × Bool} (hP : PS I I0 p) (hp : p.1 ≤ 61) {k : Nat} (hk : k ≤ 177) (h99 : A 7 k = nI 99) : AM l G yX11_parsesC (.code yX11_parsesC cX11_parsesC 2 none) 3 180 0 0 [.ref o, .int (nI k)] (mU f o I A) n (PCs f o I0 A k (pcN tn tx p) n) := by
  refine aw_enter (M := MX11_parsesC) rfl rfl (by decide +kernel) rfl (Nat.le_of_ble_eq_true rfl) ?_
  show AW l G MX11_parsesC 3 180 0 0 _ n 0 0 0 [(0, .ref o), (1, .int (nI k))] [] _ n
  refine aw_aload_n dX11_parsesC_0 rfl rfl ?_
  refine aw_vI (as := []) (rest := []) mV_X11_here (m_here hX hP (by first | omega | exact hp | assumption)) ml_X11_195 mU_0 rfl dX11_parsesC_1 rfl rfl (by decide) (Nat.le_of_ble_eq_true rfl) (by decide) ?_
  refine aw_bipush_n 117 dX11_parsesC_4 (by decide) ?_
  refine aw_icmp_ne (tgt := 32) dX11_parsesC_6 (by decide) (fun c_1 => ?_) (fun c_1 => ?_)
  · have hq := fun z => c_1 ((hI_eq hX (c := 117) (by omega)).mpr z)
    refine aw_aload_n dX11_parsesC_32 rfl rfl ?_
    refine aw_bipush_n 97 dX11_parsesC_33 (by decide) ?_
    refine aw_bipush_n 116 dX11_parsesC_35 (by decide) ?_
    refine aw_bipush_n 99 dX11_parsesC_37 (by decide) ?_
    refine aw_vP (as := [Value.int (nI 97), Value.int (nI 116), Value.int (nI 99)]) (rest := []) mV_X11_needsThree (m_needsThree hX hP hp (a := 97) (b := 116) (c := 99) (by omega) (by omega) (by omega)) ml_X11_201 mU_0 rfl dX11_parsesC_39 rfl rfl (by decide) (Nat.le_of_ble_eq_true rfl) (by decide) (fun _ _ _ h => by cases h.1) (fun r f9 n9 _ h => ?_)
    obtain ⟨h1, h2, I2, h3, hP2⟩ := h
    cases h1; subst h2; subst h3
    have hp2 : (need3 tn tx p 97 116 99).1 ≤ 61 := need3_le (by omega) (by omega) (by omega) hX.2.1 hp
    show AW l G MX11_parsesC 3 180 0 0 _ _ _ _ 42 [(0, .ref o), (1, .int (nI k))] [] (mU f o I2 A) _
    refine aw_aload_n dX11_parsesC_42 rfl rfl ?_
    refine aw_bipush_n 104 dX11_parsesC_43 (by decide) ?_
    refine aw_vP (as := [Value.int (nI 104)]) (rest := []) mV_X11_needs (m_needs hX hP2 hp2 (c := 104) (by omega)) ml_X11_198 mU_0 rfl dX11_parsesC_45 rfl rfl (by decide) (Nat.le_of_ble_eq_true rfl) (by decide) (fun _ _ _ h => by cases h.1) (fun r f9 n9 _ h => ?_)
    obtain ⟨h1, h2, I3, h3, hP3⟩ := h
    cases h1; subst h2; subst h3
    have hp3 : (needN tn tx (need3 tn tx p 97 116 99) 104).1 ≤ 61 := need_le (by omega) hX.2.1 hp2
    show AW l G MX11_parsesC 3 180 0 0 _ _ _ _ 48 [(0, .ref o), (1, .int (nI k))] [] (mU f o I3 A) _
    refine aw_aload_n dX11_parsesC_48 rfl rfl ?_
    refine aw_get (v := .ref (o + 8)) fl_X11_39 mU_0 rfl dX11_parsesC_49 ?_
    refine aw_iload_n dX11_parsesC_52 rfl rfl ?_
    refine aw_iconst_n 1 dX11_parsesC_53 (by decide) ?_
    refine aw_iadd_n dX11_parsesC_54 ?_
    refine aw_aload_n dX11_parsesC_55 rfl rfl ?_
    refine aw_iconst_n 1 dX11_parsesC_56 (by decide) ?_
    refine aw_vP (as := [Value.int (nI 1)]) (rest := [Value.int (nI (k + 1)), Value.ref (o + 8)]) mV_X11_digits (m_digits hX hP3 hp3 (most := 1) (by omega)) ml_X11_205 mU_0 rfl dX11_parsesC_57 rfl rfl (by decide) (Nat.le_of_ble_eq_true rfl) (by decide) (fun _ _ _ h => by cases h.1) (fun r f9 n9 _ h => ?_)
    obtain ⟨h1, h2, I4, h3, hP4⟩ := h
    cases h1; subst h2; subst h3
    have hp4 : ((digN tn tx 1 (needN tn tx (need3 tn tx p 97 116 99) 104)).2).1 ≤ 61 := dig_le hX.2.1 hp3
    show AW l G MX11_parsesC 3 180 0 0 _ _ _ _ 60 [(0, .ref o), (1, .int (nI k))] [.int (nI ((digN tn tx 1 (needN tn tx (need3 tn tx p 97 116 99) 104)).1)), .int (nI (k + 1)), .ref (o + 8)] (mU f o I4 A) _
    refine aw_iast_n (k := k + 1) mU_8 (by omega) (by decide) dX11_parsesC_60 ?_
    rw [mU_A7]
    unfold pcN
    rw [if_neg hq]
    exact aw_vret rfl (by decide) (by decide) dX11_parsesC_61 ⟨rfl, rfl, _, _, rfl, hP4, fun j hj => by simp only [up_ne hj], fun i hi => by simp only [up_self, pk_un (show i ≠ k by omega), pk_un (show i ≠ k + 1 by omega), pk_un (show i ≠ k + 2 by omega)], fun _ => ⟨by simp only [up_self, pk_us, pk_un (show k ≠ k + 1 by omega), pk_un (show k ≠ k + 2 by omega), h99], by simp only [up_self, pk_us, pk_un (show k + 1 ≠ k + 2 by omega)], fun h => absurd h (by decide : ¬ (99 = 112))⟩⟩
  · have hq := (hI_eq hX (c := 117) (by omega)).mp (by simpa using c_1)
    refine aw_aload_n dX11_parsesC_9 rfl rfl ?_
    refine aw_get (v := .ref (o + 8)) fl_X11_39 mU_0 rfl dX11_parsesC_10 ?_
    refine aw_iload_n dX11_parsesC_13 rfl rfl ?_
    refine aw_bipush_n 117 dX11_parsesC_14 (by decide) ?_
    refine aw_iast_n (k := k) mU_8 (by omega) (by decide) dX11_parsesC_16 ?_
    rw [mU_A7]
    refine aw_aload_n dX11_parsesC_17 rfl rfl ?_
    refine aw_bipush_n 117 dX11_parsesC_18 (by decide) ?_
    refine aw_vP (as := [Value.int (nI 117)]) (rest := []) mV_X11_needs (m_needs (TX.up7 hX) hP hp (c := 117) (by omega)) ml_X11_198 mU_0 rfl dX11_parsesC_20 rfl rfl (by decide) (Nat.le_of_ble_eq_true rfl) (by decide) (fun _ _ _ h => by cases h.1) (fun r f9 n9 _ h => ?_)
    obtain ⟨h1, h2, I5, h3, hP5⟩ := h
    cases h1; subst h2; subst h3
    have hp5 : (needN tn tx p 117).1 ≤ 61 := need_le (by omega) hX.2.1 hp
    show AW l G MX11_parsesC 3 180 0 0 _ _ _ _ 23 [(0, .ref o), (1, .int (nI k))] [] (mU f o I5 (va_up A 7 (upd (A 7) k ((nI 117))))) _
    refine aw_aload_n dX11_parsesC_23 rfl rfl ?_
    refine aw_bipush_n 116 dX11_parsesC_24 (by decide) ?_
    refine aw_vP (as := [Value.int (nI 116)]) (rest := []) mV_X11_needs (m_needs (TX.up7 hX) hP5 hp5 (c := 116) (by omega)) ml_X11_198 mU_0 rfl dX11_parsesC_26 rfl rfl (by decide) (Nat.le_of_ble_eq_true rfl) (by decide) (fun _ _ _ h => by cases h.1) (fun r f9 n9 _ h => ?_)
    obtain ⟨h1, h2, I6, h3, hP6⟩ := h
    cases h1; subst h2; subst h3
    have hp6 : (needN tn tx (needN tn tx p 117) 116).1 ≤ 61 := need_le (by omega) hX.2.1 hp5
    show AW l G MX11_parsesC 3 180 0 0 _ _ _ _ 29 [(0, .ref o), (1, .int (nI k))] [] (mU f o I6 (va_up A 7 (upd (A 7) k ((nI 117))))) _
    refine aw_goto (tgt := 48) dX11_parsesC_29 (by decide) ?_
    refine aw_aload_n dX11_parsesC_48 rfl rfl ?_
    refine aw_get (v := .ref (o + 8)) fl_X11_39 mU_0 rfl dX11_parsesC_49 ?_
    refine aw_iload_n dX11_parsesC_52 rfl rfl ?_
    refine aw_iconst_n 1 dX11_parsesC_53 (by decide) ?_
    refine aw_iadd_n dX11_parsesC_54 ?_
    refine aw_aload_n dX11_parsesC_55 rfl rfl ?_
    refine aw_iconst_n 1 dX11_parsesC_56 (by decide) ?_
    refine aw_vP (as := [Value.int (nI 1)]) (rest := [Value.int (nI (k + 1)), Value.ref (o + 8)]) mV_X11_digits (m_digits (TX.up7 hX) hP6 hp6 (most := 1) (by omega)) ml_X11_205 mU_0 rfl dX11_parsesC_57 rfl rfl (by decide) (Nat.le_of_ble_eq_true rfl) (by decide) (fun _ _ _ h => by cases h.1) (fun r f9 n9 _ h => ?_)
    obtain ⟨h1, h2, I7, h3, hP7⟩ := h
    cases h1; subst h2; subst h3
    have hp7 : ((digN tn tx 1 (needN tn tx (needN tn tx p 117) 116)).2).1 ≤ 61 := dig_le hX.2.1 hp6
    show AW l G MX11_parsesC 3 180 0 0 _ _ _ _ 60 [(0, .ref o), (1, .int (nI k))] [.int (nI ((digN tn tx 1 (needN tn tx (needN tn tx p 117) 116)).1)), .int (nI (k + 1)), .ref (o + 8)] (mU f o I7 (va_up A 7 (upd (A 7) k ((nI 117))))) _
    refine aw_iast_n (k := k + 1) mU_8 (by omega) (by decide) dX11_parsesC_60 ?_
    rw [mU_A7]
    unfold pcN
    rw [if_pos hq]
    exact aw_vret rfl (by decide) (by decide) dX11_parsesC_61 ⟨rfl, rfl, _, _, rfl, hP7, fun j hj => by simp only [up_ne hj], fun i hi => by simp only [up_self, pk_un (show i ≠ k by omega), pk_un (show i ≠ k + 1 by omega), pk_un (show i ≠ k + 2 by omega)], fun _ => ⟨by simp only [up_self, pk_us, pk_un (show k ≠ k + 1 by omega), pk_un (show k ≠ k + 2 by omega)], by simp only [up_self, pk_us, pk_un (show k + 1 ≠ k + 2 by omega)], fun h => absurd h (by decide : ¬ (117 = 112))⟩⟩
abbrev MX11_parsesCommand : MT := (RX11, cX11_parsesCommand, 3, none, [], "parsesCommand")
set_option maxHeartbeats 4000000 in
theorem m_parsesCommand {l : Launch} {G : GT} {n : Nat} {f : HT} {o : Nat} {I I0 : Nat → Int32} {A : Nat → Nat → Int32} {tn : Nat} {tx : Nat → Nat} (hX : TX I0 A tn tx) {sp k : Nat} (hP : PS I I0 (sp, false)) (hsp : sp ≤ 60) (hk : k ≤ 177) : AM l G yX11_parsesCommand (.code yX11_parsesCommand cX11_parsesCommand 3 none) 4 240 0 0 [.ref o, .int (nI k)] (mU f o I A) n (PCs f o I0 A k (cmdN tn tx sp) n) := by
  refine aw_enter (M := MX11_parsesCommand) rfl rfl (by decide +kernel) rfl (Nat.le_of_ble_eq_true rfl) ?_
  have htn := hX.2.1
  show AW l G MX11_parsesCommand 4 240 0 0 _ n 0 0 0 [(0, .ref o), (1, .int (nI k))] [] _ n
  refine aw_aload_n dX11_parsesCommand_0 rfl rfl ?_
  refine aw_vI (as := []) (rest := []) mV_X11_here (m_here hX hP (by show sp ≤ 61; omega)) ml_X11_195 mU_0 rfl dX11_parsesCommand_1 rfl rfl (by decide) (Nat.le_of_ble_eq_true rfl) (by decide) ?_
  refine aw_istore_n (L' := [(2, .int (hI tn tx sp)), (0, .ref o), (1, .int (nI k))]) dX11_parsesCommand_4 rfl (by decide) rfl ?_
  refine aw_aload_n dX11_parsesCommand_5 rfl rfl ?_
  refine aw_dup dX11_parsesCommand_6 rfl ?_
  refine aw_get (v := .int (nI sp)) fl_X11_188 mU_0 (congrArg (fun z => some (Value.int z)) hP.1) dX11_parsesCommand_7 ?_
  refine aw_iconst_n 1 dX11_parsesCommand_10 (by decide) ?_
  refine aw_iadd_n dX11_parsesCommand_11 ?_
  refine aw_mput fp_X11_188 (by decide) rfl rfl dX11_parsesCommand_12 ?_
  refine aw_aload_n dX11_parsesCommand_15 rfl rfl ?_
  refine aw_get (v := .ref (o + 8)) fl_X11_39 mU_0 rfl dX11_parsesCommand_16 ?_
  refine aw_iload_n dX11_parsesCommand_19 rfl rfl ?_
  refine aw_iload_n dX11_parsesCommand_20 rfl rfl ?_
  refine aw_iast_n (k := k) mU_8 (by omega) (by decide) dX11_parsesCommand_21 ?_
  rw [mU_A7]
  refine aw_iload_n dX11_parsesCommand_22 rfl rfl ?_
  by_cases q104 : hN tn tx sp = 104
  · rw [(hI_eq hX (c := 104) (by omega)).mpr q104]
    have hP1 : PS (va_up I 14 ((nI (sp + 1)))) I0 (sp + 1, false) := hP.put14
    have hp1 : ((sp + 1, false) : Nat × Bool).1 ≤ 61 := by show sp + 1 ≤ 61; omega
    refine aw_tableIn (tgt := 108) dX11_parsesCommand_23 (by decide) (by decide) (off := 85) (by decide) (by decide) ?_
    refine aw_aload_n dX11_parsesCommand_108 rfl rfl ?_
    refine aw_bipush_n 97 dX11_parsesCommand_109 (by decide) ?_
    refine aw_bipush_n 110 dX11_parsesCommand_111 (by decide) ?_
    refine aw_bipush_n 103 dX11_parsesCommand_113 (by decide) ?_
    refine aw_vP (as := [Value.int (nI 97), Value.int (nI 110), Value.int (nI 103)]) (rest := []) mV_X11_needsThree (m_needsThree (TX.up7 hX) hP1 hp1 (a := 97) (b := 110) (c := 103) (by omega) (by omega) (by omega)) ml_X11_201 mU_0 rfl dX11_parsesCommand_115 rfl rfl (by decide) (Nat.le_of_ble_eq_true rfl) (by decide) (fun _ _ _ h => by cases h.1) (fun r f9 n9 _ h => ?_)
    obtain ⟨h1, h2, I1, h3, hP1⟩ := h
    cases h1; subst h2; subst h3
    have hp1 : (need3 tn tx (sp + 1, false) 97 110 103).1 ≤ 61 := need3_le (by omega) (by omega) (by omega) hX.2.1 hp1
    show AW l G MX11_parsesCommand 4 240 0 0 _ _ _ _ 118 [(2, .int (nI 104)), (0, .ref o), (1, .int (nI k))] [] (mU f o I1 (va_up A 7 (upd (A 7) k ((nI 104))))) _
    refine aw_aload_n dX11_parsesCommand_118 rfl rfl ?_
    refine aw_get (v := .ref (o + 8)) fl_X11_39 mU_0 rfl dX11_parsesCommand_119 ?_
    refine aw_iload_n dX11_parsesCommand_122 rfl rfl ?_
    refine aw_iconst_n 1 dX11_parsesCommand_123 (by decide) ?_
    refine aw_iadd_n dX11_parsesCommand_124 ?_
    refine aw_aload_n dX11_parsesCommand_125 rfl rfl ?_
    refine aw_iconst_n 3 dX11_parsesCommand_126 (by decide) ?_
    refine aw_vP (as := [Value.int (nI 3)]) (rest := [Value.int (nI (k + 1)), Value.ref (o + 8)]) mV_X11_digits (m_digits (TX.up7 hX) hP1 hp1 (most := 3) (by omega)) ml_X11_205 mU_0 rfl dX11_parsesCommand_127 rfl rfl (by decide) (Nat.le_of_ble_eq_true rfl) (by decide) (fun _ _ _ h => by cases h.1) (fun r f9 n9 _ h => ?_)
    obtain ⟨h1, h2, I2, h3, hP2⟩ := h
    cases h1; subst h2; subst h3
    have hp2 : ((digN tn tx 3 (need3 tn tx (sp + 1, false) 97 110 103)).2).1 ≤ 61 := dig_le hX.2.1 hp1
    show AW l G MX11_parsesCommand 4 240 0 0 _ _ _ _ 130 [(2, .int (nI 104)), (0, .ref o), (1, .int (nI k))] [.int (nI ((digN tn tx 3 (need3 tn tx (sp + 1, false) 97 110 103)).1)), .int (nI (k + 1)), .ref (o + 8)] (mU f o I2 (va_up A 7 (upd (A 7) k ((nI 104))))) _
    refine aw_iast_n (k := k + 1) mU_8 (by omega) (by decide) dX11_parsesCommand_130 ?_
    rw [mU_A7]
    refine aw_goto (tgt := 292) dX11_parsesCommand_131 (by decide) ?_
    unfold cmdN
    rw [if_pos q104]
    exact aw_vret rfl (by decide) (by decide) dX11_parsesCommand_292 ⟨rfl, rfl, _, _, rfl, hP2, fun j hj => by simp only [up_ne hj], fun i hi => by simp only [up_self, pk_un (show i ≠ k by omega), pk_un (show i ≠ k + 1 by omega), pk_un (show i ≠ k + 2 by omega)], fun _ => ⟨by simp only [up_self, pk_us, pk_un (show k ≠ k + 1 by omega), pk_un (show k ≠ k + 2 by omega)], by simp only [up_self, pk_us, pk_un (show k + 1 ≠ k + 2 by omega)], fun h => absurd h (by decide : ¬ (104 = 112))⟩⟩
  by_cases q112 : hN tn tx sp = 112
  · rw [(hI_eq hX (c := 112) (by omega)).mpr q112]
    have hP1 : PS (va_up I 14 ((nI (sp + 1)))) I0 (sp + 1, false) := hP.put14
    have hp1 : ((sp + 1, false) : Nat × Bool).1 ≤ 61 := by show sp + 1 ≤ 61; omega
    refine aw_tableIn (tgt := 134) dX11_parsesCommand_23 (by decide) (by decide) (off := 111) (by decide) (by decide) ?_
    refine aw_aload_n dX11_parsesCommand_134 rfl rfl ?_
    refine aw_bipush_n 117 dX11_parsesCommand_135 (by decide) ?_
    refine aw_bipush_n 115 dX11_parsesCommand_137 (by decide) ?_
    refine aw_bipush_n 104 dX11_parsesCommand_139 (by decide) ?_
    refine aw_vP (as := [Value.int (nI 117), Value.int (nI 115), Value.int (nI 104)]) (rest := []) mV_X11_needsThree (m_needsThree (TX.up7 hX) hP1 hp1 (a := 117) (b := 115) (c := 104) (by omega) (by omega) (by omega)) ml_X11_201 mU_0 rfl dX11_parsesCommand_141 rfl rfl (by decide) (Nat.le_of_ble_eq_true rfl) (by decide) (fun _ _ _ h => by cases h.1) (fun r f9 n9 _ h => ?_)
    obtain ⟨h1, h2, I3, h3, hP3⟩ := h
    cases h1; subst h2; subst h3
    have hp3 : (need3 tn tx (sp + 1, false) 117 115 104).1 ≤ 61 := need3_le (by omega) (by omega) (by omega) hX.2.1 hp1
    show AW l G MX11_parsesCommand 4 240 0 0 _ _ _ _ 144 [(2, .int (nI 112)), (0, .ref o), (1, .int (nI k))] [] (mU f o I3 (va_up A 7 (upd (A 7) k ((nI 112))))) _
    refine aw_aload_n dX11_parsesCommand_144 rfl rfl ?_
    refine aw_get (v := .ref (o + 8)) fl_X11_39 mU_0 rfl dX11_parsesCommand_145 ?_
    refine aw_iload_n dX11_parsesCommand_148 rfl rfl ?_
    refine aw_iconst_n 1 dX11_parsesCommand_149 (by decide) ?_
    refine aw_iadd_n dX11_parsesCommand_150 ?_
    refine aw_aload_n dX11_parsesCommand_151 rfl rfl ?_
    refine aw_iconst_n 1 dX11_parsesCommand_152 (by decide) ?_
    refine aw_vP (as := [Value.int (nI 1)]) (rest := [Value.int (nI (k + 1)), Value.ref (o + 8)]) mV_X11_digits (m_digits (TX.up7 hX) hP3 hp3 (most := 1) (by omega)) ml_X11_205 mU_0 rfl dX11_parsesCommand_153 rfl rfl (by decide) (Nat.le_of_ble_eq_true rfl) (by decide) (fun _ _ _ h => by cases h.1) (fun r f9 n9 _ h => ?_)
    obtain ⟨h1, h2, I4, h3, hP4⟩ := h
    cases h1; subst h2; subst h3
    have hp4 : ((digN tn tx 1 (need3 tn tx (sp + 1, false) 117 115 104)).2).1 ≤ 61 := dig_le hX.2.1 hp3
    show AW l G MX11_parsesCommand 4 240 0 0 _ _ _ _ 156 [(2, .int (nI 112)), (0, .ref o), (1, .int (nI k))] [.int (nI ((digN tn tx 1 (need3 tn tx (sp + 1, false) 117 115 104)).1)), .int (nI (k + 1)), .ref (o + 8)] (mU f o I4 (va_up A 7 (upd (A 7) k ((nI 112))))) _
    refine aw_iast_n (k := k + 1) mU_8 (by omega) (by decide) dX11_parsesCommand_156 ?_
    rw [mU_A7]
    refine aw_aload_n dX11_parsesCommand_157 rfl rfl ?_
    refine aw_get (v := .ref (o + 8)) fl_X11_39 mU_0 rfl dX11_parsesCommand_158 ?_
    refine aw_iload_n dX11_parsesCommand_161 rfl rfl ?_
    refine aw_iconst_n 2 dX11_parsesCommand_162 (by decide) ?_
    refine aw_iadd_n dX11_parsesCommand_163 ?_
    refine aw_aload_n dX11_parsesCommand_164 rfl rfl ?_
    refine aw_iconst_n 3 dX11_parsesCommand_165 (by decide) ?_
    refine aw_vP (as := [Value.int (nI 3)]) (rest := [Value.int (nI (k + 2)), Value.ref (o + 8)]) mV_X11_digits (m_digits (TX.up7 (TX.up7 hX)) hP4 hp4 (most := 3) (by omega)) ml_X11_205 mU_0 rfl dX11_parsesCommand_166 rfl rfl (by decide) (Nat.le_of_ble_eq_true rfl) (by decide) (fun _ _ _ h => by cases h.1) (fun r f9 n9 _ h => ?_)
    obtain ⟨h1, h2, I5, h3, hP5⟩ := h
    cases h1; subst h2; subst h3
    have hp5 : ((digN tn tx 3 ((digN tn tx 1 (need3 tn tx (sp + 1, false) 117 115 104)).2)).2).1 ≤ 61 := dig_le hX.2.1 hp4
    show AW l G MX11_parsesCommand 4 240 0 0 _ _ _ _ 169 [(2, .int (nI 112)), (0, .ref o), (1, .int (nI k))] [.int (nI ((digN tn tx 3 ((digN tn tx 1 (need3 tn tx (sp + 1, false) 117 115 104)).2)).1)), .int (nI (k + 2)), .ref (o + 8)] (mU f o I5 (va_up (va_up A 7 (upd (A 7) k ((nI 112)))) 7 (upd ((va_up A 7 (upd (A 7) k ((nI 112)))) 7) (k + 1) ((nI ((digN tn tx 1 (need3 tn tx (sp + 1, false) 117 115 104)).1)))))) _
    refine aw_iast_n (k := k + 2) mU_8 (by omega) (by decide) dX11_parsesCommand_169 ?_
    rw [mU_A7]
    refine aw_goto (tgt := 292) dX11_parsesCommand_170 (by decide) ?_
    unfold cmdN
    rw [if_neg (by omega), if_pos q112]
    exact aw_vret rfl (by decide) (by decide) dX11_parsesCommand_292 ⟨rfl, rfl, _, _, rfl, hP5, fun j hj => by simp only [up_ne hj], fun i hi => by simp only [up_self, pk_un (show i ≠ k by omega), pk_un (show i ≠ k + 1 by omega), pk_un (show i ≠ k + 2 by omega)], fun _ => ⟨by simp only [up_self, pk_us, pk_un (show k ≠ k + 1 by omega), pk_un (show k ≠ k + 2 by omega)], by simp only [up_self, pk_us, pk_un (show k + 1 ≠ k + 2 by omega)], fun _ => by simp only [up_self, pk_us]⟩⟩
  by_cases q99 : hN tn tx sp = 99
  · rw [(hI_eq hX (c := 99) (by omega)).mpr q99]
    have hP1 : PS (va_up I 14 ((nI (sp + 1)))) I0 (sp + 1, false) := hP.put14
    have hp1 : ((sp + 1, false) : Nat × Bool).1 ≤ 61 := by show sp + 1 ≤ 61; omega
    refine aw_tableIn (tgt := 173) dX11_parsesCommand_23 (by decide) (by decide) (off := 150) (by decide) (by decide) ?_
    refine aw_aload_n dX11_parsesCommand_173 rfl rfl ?_
    refine aw_iload_n dX11_parsesCommand_174 rfl rfl ?_
    refine aw_vP (as := [Value.int (nI k)]) (rest := []) mV_X11_parsesC (m_parsesC (TX.up7 hX) hP1 hp1 (k := k) (by omega) (by simp only [up_self, pk_us])) ml_X11_208 mU_0 rfl dX11_parsesCommand_175 rfl rfl (by decide) (Nat.le_of_ble_eq_true rfl) (by decide) (fun _ _ _ h => by cases h.1) (fun r f9 n9 _ h => ?_)
    obtain ⟨h1, h2, I9, A9, h3, hP9, hf9, hi9, hk9⟩ := h
    cases h1; subst h2; subst h3
    refine aw_goto (tgt := 292) dX11_parsesCommand_178 (by decide) ?_
    unfold cmdN
    rw [if_neg (by omega), if_neg (by omega), if_pos q99]
    exact aw_vret rfl (by decide) (by decide) dX11_parsesCommand_292 ⟨rfl, rfl, _, _, rfl, hP9, fun j hj => (hf9 j hj).trans (up_ne hj), fun i hi => (hi9 i hi).trans (by simp only [up_self, pk_un (show i ≠ k by omega)]), hk9⟩
  by_cases q102 : hN tn tx sp = 102
  · rw [(hI_eq hX (c := 102) (by omega)).mpr q102]
    have hP1 : PS (va_up I 14 ((nI (sp + 1)))) I0 (sp + 1, false) := hP.put14
    have hp1 : ((sp + 1, false) : Nat × Bool).1 ≤ 61 := by show sp + 1 ≤ 61; omega
    refine aw_tableIn (tgt := 181) dX11_parsesCommand_23 (by decide) (by decide) (off := 158) (by decide) (by decide) ?_
    refine aw_aload_n dX11_parsesCommand_181 rfl rfl ?_
    refine aw_bipush_n 114 dX11_parsesCommand_182 (by decide) ?_
    refine aw_bipush_n 105 dX11_parsesCommand_184 (by decide) ?_
    refine aw_bipush_n 99 dX11_parsesCommand_186 (by decide) ?_
    refine aw_vP (as := [Value.int (nI 114), Value.int (nI 105), Value.int (nI 99)]) (rest := []) mV_X11_needsThree (m_needsThree (TX.up7 hX) hP1 hp1 (a := 114) (b := 105) (c := 99) (by omega) (by omega) (by omega)) ml_X11_201 mU_0 rfl dX11_parsesCommand_188 rfl rfl (by decide) (Nat.le_of_ble_eq_true rfl) (by decide) (fun _ _ _ h => by cases h.1) (fun r f9 n9 _ h => ?_)
    obtain ⟨h1, h2, I6, h3, hP6⟩ := h
    cases h1; subst h2; subst h3
    have hp6 : (need3 tn tx (sp + 1, false) 114 105 99).1 ≤ 61 := need3_le (by omega) (by omega) (by omega) hX.2.1 hp1
    show AW l G MX11_parsesCommand 4 240 0 0 _ _ _ _ 191 [(2, .int (nI 102)), (0, .ref o), (1, .int (nI k))] [] (mU f o I6 (va_up A 7 (upd (A 7) k ((nI 102))))) _
    refine aw_aload_n dX11_parsesCommand_191 rfl rfl ?_
    refine aw_bipush_n 116 dX11_parsesCommand_192 (by decide) ?_
    refine aw_bipush_n 105 dX11_parsesCommand_194 (by decide) ?_
    refine aw_bipush_n 111 dX11_parsesCommand_196 (by decide) ?_
    refine aw_vP (as := [Value.int (nI 116), Value.int (nI 105), Value.int (nI 111)]) (rest := []) mV_X11_needsThree (m_needsThree (TX.up7 hX) hP6 hp6 (a := 116) (b := 105) (c := 111) (by omega) (by omega) (by omega)) ml_X11_201 mU_0 rfl dX11_parsesCommand_198 rfl rfl (by decide) (Nat.le_of_ble_eq_true rfl) (by decide) (fun _ _ _ h => by cases h.1) (fun r f9 n9 _ h => ?_)
    obtain ⟨h1, h2, I7, h3, hP7⟩ := h
    cases h1; subst h2; subst h3
    have hp7 : (need3 tn tx (need3 tn tx (sp + 1, false) 114 105 99) 116 105 111).1 ≤ 61 := need3_le (by omega) (by omega) (by omega) hX.2.1 hp6
    show AW l G MX11_parsesCommand 4 240 0 0 _ _ _ _ 201 [(2, .int (nI 102)), (0, .ref o), (1, .int (nI k))] [] (mU f o I7 (va_up A 7 (upd (A 7) k ((nI 102))))) _
    refine aw_aload_n dX11_parsesCommand_201 rfl rfl ?_
    refine aw_bipush_n 110 dX11_parsesCommand_202 (by decide) ?_
    refine aw_vP (as := [Value.int (nI 110)]) (rest := []) mV_X11_needs (m_needs (TX.up7 hX) hP7 hp7 (c := 110) (by omega)) ml_X11_198 mU_0 rfl dX11_parsesCommand_204 rfl rfl (by decide) (Nat.le_of_ble_eq_true rfl) (by decide) (fun _ _ _ h => by cases h.1) (fun r f9 n9 _ h => ?_)
    obtain ⟨h1, h2, I8, h3, hP8⟩ := h
    cases h1; subst h2; subst h3
    have hp8 : (needN tn tx (need3 tn tx (need3 tn tx (sp + 1, false) 114 105 99) 116 105 111) 110).1 ≤ 61 := need_le (by omega) hX.2.1 hp7
    show AW l G MX11_parsesCommand 4 240 0 0 _ _ _ _ 207 [(2, .int (nI 102)), (0, .ref o), (1, .int (nI k))] [] (mU f o I8 (va_up A 7 (upd (A 7) k ((nI 102))))) _
    refine aw_aload_n dX11_parsesCommand_207 rfl rfl ?_
    refine aw_get (v := .ref (o + 8)) fl_X11_39 mU_0 rfl dX11_parsesCommand_208 ?_
    refine aw_iload_n dX11_parsesCommand_211 rfl rfl ?_
    refine aw_iconst_n 1 dX11_parsesCommand_212 (by decide) ?_
    refine aw_iadd_n dX11_parsesCommand_213 ?_
    refine aw_aload_n dX11_parsesCommand_214 rfl rfl ?_
    refine aw_iconst_n 3 dX11_parsesCommand_215 (by decide) ?_
    refine aw_vP (as := [Value.int (nI 3)]) (rest := [Value.int (nI (k + 1)), Value.ref (o + 8)]) mV_X11_digits (m_digits (TX.up7 hX) hP8 hp8 (most := 3) (by omega)) ml_X11_205 mU_0 rfl dX11_parsesCommand_216 rfl rfl (by decide) (Nat.le_of_ble_eq_true rfl) (by decide) (fun _ _ _ h => by cases h.1) (fun r f9 n9 _ h => ?_)
    obtain ⟨h1, h2, I9, h3, hP9⟩ := h
    cases h1; subst h2; subst h3
    have hp9 : ((digN tn tx 3 (needN tn tx (need3 tn tx (need3 tn tx (sp + 1, false) 114 105 99) 116 105 111) 110)).2).1 ≤ 61 := dig_le hX.2.1 hp8
    show AW l G MX11_parsesCommand 4 240 0 0 _ _ _ _ 219 [(2, .int (nI 102)), (0, .ref o), (1, .int (nI k))] [.int (nI ((digN tn tx 3 (needN tn tx (need3 tn tx (need3 tn tx (sp + 1, false) 114 105 99) 116 105 111) 110)).1)), .int (nI (k + 1)), .ref (o + 8)] (mU f o I9 (va_up A 7 (upd (A 7) k ((nI 102))))) _
    refine aw_iast_n (k := k + 1) mU_8 (by omega) (by decide) dX11_parsesCommand_219 ?_
    rw [mU_A7]
    refine aw_goto (tgt := 292) dX11_parsesCommand_220 (by decide) ?_
    unfold cmdN
    rw [if_neg (by omega), if_neg (by omega), if_neg (by omega), if_pos q102]
    exact aw_vret rfl (by decide) (by decide) dX11_parsesCommand_292 ⟨rfl, rfl, _, _, rfl, hP9, fun j hj => by simp only [up_ne hj], fun i hi => by simp only [up_self, pk_un (show i ≠ k by omega), pk_un (show i ≠ k + 1 by omega), pk_un (show i ≠ k + 2 by omega)], fun _ => ⟨by simp only [up_self, pk_us, pk_un (show k ≠ k + 1 by omega), pk_un (show k ≠ k + 2 by omega)], by simp only [up_self, pk_us, pk_un (show k + 1 ≠ k + 2 by omega)], fun h => absurd h (by decide : ¬ (102 = 112))⟩⟩
  by_cases q108 : hN tn tx sp = 108
  · rw [(hI_eq hX (c := 108) (by omega)).mpr q108]
    have hP1 : PS (va_up I 14 ((nI (sp + 1)))) I0 (sp + 1, false) := hP.put14
    have hp1 : ((sp + 1, false) : Nat × Bool).1 ≤ 61 := by show sp + 1 ≤ 61; omega
    refine aw_tableIn (tgt := 223) dX11_parsesCommand_23 (by decide) (by decide) (off := 200) (by decide) (by decide) ?_
    refine aw_aload_n dX11_parsesCommand_223 rfl rfl ?_
    refine aw_bipush_n 101 dX11_parsesCommand_224 (by decide) ?_
    refine aw_vP (as := [Value.int (nI 101)]) (rest := []) mV_X11_needs (m_needs (TX.up7 hX) hP1 hp1 (c := 101) (by omega)) ml_X11_198 mU_0 rfl dX11_parsesCommand_226 rfl rfl (by decide) (Nat.le_of_ble_eq_true rfl) (by decide) (fun _ _ _ h => by cases h.1) (fun r f9 n9 _ h => ?_)
    obtain ⟨h1, h2, I10, h3, hP10⟩ := h
    cases h1; subst h2; subst h3
    have hp10 : (needN tn tx (sp + 1, false) 101).1 ≤ 61 := need_le (by omega) hX.2.1 hp1
    show AW l G MX11_parsesCommand 4 240 0 0 _ _ _ _ 229 [(2, .int (nI 108)), (0, .ref o), (1, .int (nI k))] [] (mU f o I10 (va_up A 7 (upd (A 7) k ((nI 108))))) _
    refine aw_aload_n dX11_parsesCommand_229 rfl rfl ?_
    refine aw_bipush_n 103 dX11_parsesCommand_230 (by decide) ?_
    refine aw_vP (as := [Value.int (nI 103)]) (rest := []) mV_X11_needs (m_needs (TX.up7 hX) hP10 hp10 (c := 103) (by omega)) ml_X11_198 mU_0 rfl dX11_parsesCommand_232 rfl rfl (by decide) (Nat.le_of_ble_eq_true rfl) (by decide) (fun _ _ _ h => by cases h.1) (fun r f9 n9 _ h => ?_)
    obtain ⟨h1, h2, I11, h3, hP11⟩ := h
    cases h1; subst h2; subst h3
    have hp11 : (needN tn tx (needN tn tx (sp + 1, false) 101) 103).1 ≤ 61 := need_le (by omega) hX.2.1 hp10
    show AW l G MX11_parsesCommand 4 240 0 0 _ _ _ _ 235 [(2, .int (nI 108)), (0, .ref o), (1, .int (nI k))] [] (mU f o I11 (va_up A 7 (upd (A 7) k ((nI 108))))) _
    refine aw_aload_n dX11_parsesCommand_235 rfl rfl ?_
    refine aw_get (v := .ref (o + 8)) fl_X11_39 mU_0 rfl dX11_parsesCommand_236 ?_
    refine aw_iload_n dX11_parsesCommand_239 rfl rfl ?_
    refine aw_iconst_n 1 dX11_parsesCommand_240 (by decide) ?_
    refine aw_iadd_n dX11_parsesCommand_241 ?_
    refine aw_aload_n dX11_parsesCommand_242 rfl rfl ?_
    refine aw_iconst_n 3 dX11_parsesCommand_243 (by decide) ?_
    refine aw_vP (as := [Value.int (nI 3)]) (rest := [Value.int (nI (k + 1)), Value.ref (o + 8)]) mV_X11_digits (m_digits (TX.up7 hX) hP11 hp11 (most := 3) (by omega)) ml_X11_205 mU_0 rfl dX11_parsesCommand_244 rfl rfl (by decide) (Nat.le_of_ble_eq_true rfl) (by decide) (fun _ _ _ h => by cases h.1) (fun r f9 n9 _ h => ?_)
    obtain ⟨h1, h2, I12, h3, hP12⟩ := h
    cases h1; subst h2; subst h3
    have hp12 : ((digN tn tx 3 (needN tn tx (needN tn tx (sp + 1, false) 101) 103)).2).1 ≤ 61 := dig_le hX.2.1 hp11
    show AW l G MX11_parsesCommand 4 240 0 0 _ _ _ _ 247 [(2, .int (nI 108)), (0, .ref o), (1, .int (nI k))] [.int (nI ((digN tn tx 3 (needN tn tx (needN tn tx (sp + 1, false) 101) 103)).1)), .int (nI (k + 1)), .ref (o + 8)] (mU f o I12 (va_up A 7 (upd (A 7) k ((nI 108))))) _
    refine aw_iast_n (k := k + 1) mU_8 (by omega) (by decide) dX11_parsesCommand_247 ?_
    rw [mU_A7]
    refine aw_goto (tgt := 292) dX11_parsesCommand_248 (by decide) ?_
    unfold cmdN
    rw [if_neg (by omega), if_neg (by omega), if_neg (by omega), if_neg (by omega), if_pos q108]
    exact aw_vret rfl (by decide) (by decide) dX11_parsesCommand_292 ⟨rfl, rfl, _, _, rfl, hP12, fun j hj => by simp only [up_ne hj], fun i hi => by simp only [up_self, pk_un (show i ≠ k by omega), pk_un (show i ≠ k + 1 by omega), pk_un (show i ≠ k + 2 by omega)], fun _ => ⟨by simp only [up_self, pk_us, pk_un (show k ≠ k + 1 by omega), pk_un (show k ≠ k + 2 by omega)], by simp only [up_self, pk_us, pk_un (show k + 1 ≠ k + 2 by omega)], fun h => absurd h (by decide : ¬ (108 = 112))⟩⟩
  by_cases q116 : hN tn tx sp = 116
  · rw [(hI_eq hX (c := 116) (by omega)).mpr q116]
    have hP1 : PS (va_up I 14 ((nI (sp + 1)))) I0 (sp + 1, false) := hP.put14
    have hp1 : ((sp + 1, false) : Nat × Bool).1 ≤ 61 := by show sp + 1 ≤ 61; omega
    refine aw_tableIn (tgt := 251) dX11_parsesCommand_23 (by decide) (by decide) (off := 228) (by decide) (by decide) ?_
    refine aw_aload_n dX11_parsesCommand_251 rfl rfl ?_
    refine aw_bipush_n 105 dX11_parsesCommand_252 (by decide) ?_
    refine aw_bipush_n 99 dX11_parsesCommand_254 (by decide) ?_
    refine aw_bipush_n 107 dX11_parsesCommand_256 (by decide) ?_
    refine aw_vP (as := [Value.int (nI 105), Value.int (nI 99), Value.int (nI 107)]) (rest := []) mV_X11_needsThree (m_needsThree (TX.up7 hX) hP1 hp1 (a := 105) (b := 99) (c := 107) (by omega) (by omega) (by omega)) ml_X11_201 mU_0 rfl dX11_parsesCommand_258 rfl rfl (by decide) (Nat.le_of_ble_eq_true rfl) (by decide) (fun _ _ _ h => by cases h.1) (fun r f9 n9 _ h => ?_)
    obtain ⟨h1, h2, I13, h3, hP13⟩ := h
    cases h1; subst h2; subst h3
    have hp13 : (need3 tn tx (sp + 1, false) 105 99 107).1 ≤ 61 := need3_le (by omega) (by omega) (by omega) hX.2.1 hp1
    show AW l G MX11_parsesCommand 4 240 0 0 _ _ _ _ 261 [(2, .int (nI 116)), (0, .ref o), (1, .int (nI k))] [] (mU f o I13 (va_up A 7 (upd (A 7) k ((nI 116))))) _
    refine aw_aload_n dX11_parsesCommand_261 rfl rfl ?_
    refine aw_get (v := .ref (o + 8)) fl_X11_39 mU_0 rfl dX11_parsesCommand_262 ?_
    refine aw_iload_n dX11_parsesCommand_265 rfl rfl ?_
    refine aw_iconst_n 1 dX11_parsesCommand_266 (by decide) ?_
    refine aw_iadd_n dX11_parsesCommand_267 ?_
    refine aw_aload_n dX11_parsesCommand_268 rfl rfl ?_
    refine aw_iconst_n 3 dX11_parsesCommand_269 (by decide) ?_
    refine aw_vP (as := [Value.int (nI 3)]) (rest := [Value.int (nI (k + 1)), Value.ref (o + 8)]) mV_X11_digits (m_digits (TX.up7 hX) hP13 hp13 (most := 3) (by omega)) ml_X11_205 mU_0 rfl dX11_parsesCommand_270 rfl rfl (by decide) (Nat.le_of_ble_eq_true rfl) (by decide) (fun _ _ _ h => by cases h.1) (fun r f9 n9 _ h => ?_)
    obtain ⟨h1, h2, I14, h3, hP14⟩ := h
    cases h1; subst h2; subst h3
    have hp14 : ((digN tn tx 3 (need3 tn tx (sp + 1, false) 105 99 107)).2).1 ≤ 61 := dig_le hX.2.1 hp13
    show AW l G MX11_parsesCommand 4 240 0 0 _ _ _ _ 273 [(2, .int (nI 116)), (0, .ref o), (1, .int (nI k))] [.int (nI ((digN tn tx 3 (need3 tn tx (sp + 1, false) 105 99 107)).1)), .int (nI (k + 1)), .ref (o + 8)] (mU f o I14 (va_up A 7 (upd (A 7) k ((nI 116))))) _
    refine aw_iast_n (k := k + 1) mU_8 (by omega) (by decide) dX11_parsesCommand_273 ?_
    rw [mU_A7]
    refine aw_goto (tgt := 292) dX11_parsesCommand_274 (by decide) ?_
    unfold cmdN
    rw [if_neg (by omega), if_neg (by omega), if_neg (by omega), if_neg (by omega), if_neg (by omega), if_pos q116]
    exact aw_vret rfl (by decide) (by decide) dX11_parsesCommand_292 ⟨rfl, rfl, _, _, rfl, hP14, fun j hj => by simp only [up_ne hj], fun i hi => by simp only [up_self, pk_un (show i ≠ k by omega), pk_un (show i ≠ k + 1 by omega), pk_un (show i ≠ k + 2 by omega)], fun _ => ⟨by simp only [up_self, pk_us, pk_un (show k ≠ k + 1 by omega), pk_un (show k ≠ k + 2 by omega)], by simp only [up_self, pk_us, pk_un (show k + 1 ≠ k + 2 by omega)], fun h => absurd h (by decide : ¬ (116 = 112))⟩⟩
  have hdef : AW l G MX11_parsesCommand 4 240 0 0 (PCs f o I0 A k (cmdN tn tx sp) n) n 0 0 277 [(2, .int (hI tn tx sp)), (0, .ref o), (1, .int (nI k))] [] (mU f o (va_up I 14 ((nI (sp + 1)))) (va_up A 7 (upd (A 7) k ((hI tn tx sp))))) n := by
    refine aw_aload_n dX11_parsesCommand_277 rfl rfl ?_
    refine aw_iconst_n 1 dX11_parsesCommand_278 (by decide) ?_
    refine aw_mput fp_X11_191 (by decide) rfl rfl dX11_parsesCommand_279 ?_
    refine aw_aload_n dX11_parsesCommand_282 rfl rfl ?_
    refine aw_dup dX11_parsesCommand_283 rfl ?_
    refine aw_get (v := .int (nI (sp + 1))) fl_X11_188 mU_0 rfl dX11_parsesCommand_284 ?_
    refine aw_iconst_n 1 dX11_parsesCommand_287 (by decide) ?_
    refine aw_isub_n (by omega) dX11_parsesCommand_288 ?_
    refine aw_mput fp_X11_188 (by decide) rfl rfl dX11_parsesCommand_289 ?_
    unfold cmdN
    rw [if_neg (by omega), if_neg (by omega), if_neg (by omega), if_neg (by omega), if_neg (by omega), if_neg (by omega)]
    exact aw_vret rfl (by decide) (by decide) dX11_parsesCommand_292 ⟨rfl, rfl, _, _, rfl, ⟨by rw [up_self, Nat.add_sub_cancel], by rw [up_ne (by decide), up_self]; rfl, fun k h1 h2 => by rw [up_ne h1, up_ne h2, up_ne h1]; exact hP.2.2 k h1 h2⟩, fun j hj => by simp only [up_ne hj], fun i hi => by simp only [up_self, pk_un (show i ≠ k by omega), pk_un (show i ≠ k + 1 by omega), pk_un (show i ≠ k + 2 by omega)], fun h => Bool.noConfusion h⟩
  by_cases hlt : sp < tn
  · have ht := hX.2.2.2 sp hlt
    have e1 : hI tn tx sp = nI (tx sp) := by unfold hI; rw [if_pos hlt]
    have e2 : hN tn tx sp = tx sp := by unfold hN; rw [if_pos hlt]
    have e3 : (nI (tx sp)).toInt = (tx sp : Int) := nI_toInt (by omega)
    by_cases hr : 99 ≤ tx sp ∧ tx sp ≤ 116
    · exact aw_tableIn (tgt := 277) dX11_parsesCommand_23 (by rw [e1, e3]; omega) (by rw [e1, e3]; omega) (off := 254) (by rw [e1]; exact tab_key (by omega) (by omega) (by omega)) (by decide) hdef
    · exact aw_tableOut (tgt := 277) dX11_parsesCommand_23 (by rw [e1, e3]; omega) (by decide) hdef
  · have e1 : hI tn tx sp = -1 := by unfold hI; rw [if_neg hlt]
    exact aw_tableOut (tgt := 277) dX11_parsesCommand_23 (by rw [e1]; decide) (by decide) hdef
