/-! the reference's whole state: numbers V, c earlier ones Hs, a saved one, the typed text, what went wrong, the card -/
abbrev SG : Type := (Nat → Nat) × (Nat × (Nat → Nat → Nat)) × (Bool × (Nat → Nat)) × (Nat × (Nat → Nat)) × (Int32 × Int32) × (Nat × (Nat → Nat))
def HRep (A2 : Nat → Int32) (c : Nat) (Hs : Nat → Nat → Nat) : Prop := ∀ j, j < c → ∀ i, i < 48 → A2 (48 * j + i) = nI (Hs j i)
/-- what of the state isn't in the object's fields -/
def SB (K : Nat) (s : SG) : Prop := VB K s.1 ∧ s.2.1.1 ≤ 8 ∧ (∀ j, j < s.2.1.1 → VB K (s.2.1.2 j)) ∧ (s.2.2.1.1 = true → VB K s.2.2.1.2) ∧ s.2.2.2.1.1 ≤ 60 ∧ (∀ i, i < s.2.2.2.1.1 → 32 ≤ s.2.2.2.1.2 i ∧ s.2.2.2.1.2 i ≤ 126) ∧ s.2.2.2.2.2.1 ≤ 60 ∧ ∀ i, i < s.2.2.2.2.2.1 → s.2.2.2.2.2.2 i < 128
def MR (I : Nat → Int32) (A : Nat → Nat → Int32) (s : SG) : Prop :=
  Mok A s.1 ∧ (I 3 = nI s.2.1.1 ∧ HRep (A 2) s.2.1.1 s.2.1.2) ∧ (I 5 = bI s.2.2.1.1 ∧ (s.2.2.1.1 = true → ∀ i, i < 48 → A 3 i = nI (s.2.2.1.2 i))) ∧
  (I 7 = nI s.2.2.2.1.1 ∧ ∀ i, i < s.2.2.2.1.1 → A 4 i = nI (s.2.2.2.1.2 i)) ∧ (I 8 = s.2.2.2.2.1.1 ∧ I 9 = s.2.2.2.2.1.2) ∧ (I 11 = nI s.2.2.2.2.2.1 ∧ ∀ i, i < s.2.2.2.2.2.1 → A 5 i = nI (s.2.2.2.2.2.2 i))
theorem MR.keep {I I' : Nat → Int32} {A A' : Nat → Nat → Int32} {s : SG} (h : MR I A s) (hI : ∀ k, k ≠ 12 → k ≠ 14 → k ≠ 15 → I' k = I k) (hA : ∀ j, j ≠ 1 → j ≠ 6 → j ≠ 7 → A' j = A j) : MR I' A' s := by
  obtain ⟨h1, ⟨h2, h3⟩, ⟨h4, h5⟩, ⟨h6, h7⟩, ⟨h8, h9⟩, h10, h11⟩ := h
  have i3 := hI 3 (by decide) (by decide) (by decide)
  have i5 := hI 5 (by decide) (by decide) (by decide)
  have i7 := hI 7 (by decide) (by decide) (by decide)
  have i8 := hI 8 (by decide) (by decide) (by decide)
  have i9 := hI 9 (by decide) (by decide) (by decide)
  have i11 := hI 11 (by decide) (by decide) (by decide)
  have a0 := hA 0 (by decide) (by decide) (by decide)
  have a2 := hA 2 (by decide) (by decide) (by decide)
  have a3 := hA 3 (by decide) (by decide) (by decide)
  have a4 := hA 4 (by decide) (by decide) (by decide)
  have a5 := hA 5 (by decide) (by decide) (by decide)
  exact ⟨fun i hi => by rw [a0]; exact h1 i hi, ⟨by rw [i3]; exact h2, by rw [a2]; exact h3⟩, ⟨by rw [i5]; exact h4, fun z i hi => by rw [a3]; exact h5 z i hi⟩, ⟨by rw [i7]; exact h6, fun i hi => by rw [a4]; exact h7 i hi⟩, ⟨by rw [i8]; exact h8, by rw [i9]; exact h9⟩, by rw [i11]; exact h10, fun i hi => by rw [a5]; exact h11 i hi⟩
theorem HRep_push {A2 src : Nat → Int32} {c : Nat} {Hs : Nat → Nat → Nat} {B : Nat → Nat} (h : HRep A2 c Hs) (hs : ∀ i, i < 48 → src i = nI (B i)) : HRep (va_cpy src A2 0 (c * 48) 48) (c + 1) (va_up Hs c B) := by
  intro j hj i hi
  by_cases hjc : j = c
  · subst hjc
    rw [pk_cpy_in (by omega) (by omega), up_self, show 0 + (48 * j + i - j * 48) = i by omega]
    exact hs i hi
  · rw [pk_cpy_out (Or.inl (by omega)), up_ne hjc]
    exact h j (by omega) i hi
theorem HRep_shift {A2 : Nat → Int32} {Hs : Nat → Nat → Nat} (h : HRep A2 8 Hs) : HRep (shN A2 336) 7 (fun j => Hs (j + 1)) := by
  intro j hj i hi
  unfold shN
  rw [if_pos (by omega), show 48 * j + i + 48 = 48 * (j + 1) + i by omega]
  exact h (j + 1) (by omega) i hi
/-- one more earlier state, the eldest of nine forgotten -/
def pushH (c : Nat) (Hs : Nat → Nat → Nat) (B : Nat → Nat) : Nat × (Nat → Nat → Nat) := if c = 8 then (8, va_up (fun j => Hs (j + 1)) 7 B) else (c + 1, va_up Hs c B)
def opS (s : SG) (q : Nat × Nat × (Nat → Nat)) : SG := if q.1 = 0 then (q.2.2, pushH s.2.1.1 s.2.1.2 s.1, s.2.2) else s
def PP (f : HT) (o : Nat) (q : Nat × Nat × (Nat → Nat)) (s : SG) (n : Nat) : PT := fun r f' n' =>
  r = .inl (some (.int (nI q.2.1))) ∧ n' = n ∧ ∃ (I' : Nat → Int32) (A' : Nat → Nat → Int32), f' = mU f o I' A' ∧ MR I' A' (opS s q) ∧ I' 12 = nI q.1
theorem MR_ok {I : Nat → Int32} {A A' : Nat → Nat → Int32} {s : SG} {V' : Nat → Nat} (h : MR I A s) (hc : s.2.1.1 ≤ 7) (hM : Mok A' V') (hR : ∀ j, j ≠ 0 → A' j = va_up A 1 (va_cpy (A 0) (A 1) 0 0 48) j) {d : Int32} :
    MR (va_up (va_up I 12 d) 3 (nI (s.2.1.1 + 1))) (va_up A' 2 (va_cpy (A' 1) (A' 2) 0 (s.2.1.1 * 48) 48)) (V', pushH s.2.1.1 s.2.1.2 s.1, s.2.2) := by
  obtain ⟨h1, ⟨h2, h3⟩, ⟨h4, h5⟩, ⟨h6, h7⟩, ⟨h8, h9⟩, h10, h11⟩ := h
  have e1 : A' 1 = va_cpy (A 0) (A 1) 0 0 48 := (hR 1 (by decide)).trans up_self
  have e2 : A' 2 = A 2 := (hR 2 (by decide)).trans (up_ne (by decide))
  have e3 : A' 3 = A 3 := (hR 3 (by decide)).trans (up_ne (by decide))
  have e4 : A' 4 = A 4 := (hR 4 (by decide)).trans (up_ne (by decide))
  have e5 : A' 5 = A 5 := (hR 5 (by decide)).trans (up_ne (by decide))
  have ep : pushH s.2.1.1 s.2.1.2 s.1 = (s.2.1.1 + 1, va_up s.2.1.2 s.2.1.1 s.1) := by unfold pushH; rw [if_neg (by omega)]
  rw [ep]
  refine ⟨fun i hi => ?_, ⟨up_self, ?_⟩, ⟨?_, fun z i hi => ?_⟩, ⟨?_, fun i hi => ?_⟩, ⟨?_, ?_⟩, ?_, fun i hi => ?_⟩
  · rw [up_ne (by decide)]; exact hM i hi
  · rw [up_self, e1, e2]
    exact HRep_push h3 fun i hi => by rw [pk_cpy_in (Nat.zero_le _) (by omega), show 0 + (i - 0) = i by omega]; exact h1 i hi
  · rw [up_ne (by decide), up_ne (by decide)]; exact h4
  · rw [up_ne (by decide), e3]; exact h5 z i hi
  · rw [up_ne (by decide), up_ne (by decide)]; exact h6
  · rw [up_ne (by decide), e4]; exact h7 i hi
  · rw [up_ne (by decide), up_ne (by decide)]; exact h8
  · rw [up_ne (by decide), up_ne (by decide)]; exact h9
  · rw [up_ne (by decide), up_ne (by decide)]; exact h10
  · rw [up_ne (by decide), e5]; exact h11 i hi
theorem MR_ok8 {I : Nat → Int32} {A A' : Nat → Nat → Int32} {s : SG} {V' : Nat → Nat} (h : MR I A s) (hc : s.2.1.1 = 8) (hM : Mok A' V') (hR : ∀ j, j ≠ 0 → A' j = va_up A 1 (va_cpy (A 0) (A 1) 0 0 48) j) {d : Int32} :
    MR (va_up (va_up (va_up I 12 d) 3 (nI (8 - 1))) 3 (nI (8 - 1 + 1))) (va_up (va_up A' 2 (shN (A' 2) 336)) 2 (va_cpy (A' 1) (shN (A' 2) 336) 0 ((8 - 1) * 48) 48)) (V', pushH s.2.1.1 s.2.1.2 s.1, s.2.2) := by
  obtain ⟨h1, ⟨h2, h3⟩, ⟨h4, h5⟩, ⟨h6, h7⟩, ⟨h8, h9⟩, h10, h11⟩ := h
  have e1 : A' 1 = va_cpy (A 0) (A 1) 0 0 48 := (hR 1 (by decide)).trans up_self
  have e2 : A' 2 = A 2 := (hR 2 (by decide)).trans (up_ne (by decide))
  have e3 : A' 3 = A 3 := (hR 3 (by decide)).trans (up_ne (by decide))
  have e4 : A' 4 = A 4 := (hR 4 (by decide)).trans (up_ne (by decide))
  have e5 : A' 5 = A 5 := (hR 5 (by decide)).trans (up_ne (by decide))
  have ep : pushH s.2.1.1 s.2.1.2 s.1 = (8, va_up (fun j => s.2.1.2 (j + 1)) 7 s.1) := by unfold pushH; rw [if_pos hc]
  rw [ep]
  rw [hc] at h3
  refine ⟨fun i hi => ?_, ⟨up_self, ?_⟩, ⟨?_, fun z i hi => ?_⟩, ⟨?_, fun i hi => ?_⟩, ⟨?_, ?_⟩, ?_, fun i hi => ?_⟩
  · rw [up_ne (by decide), up_ne (by decide)]; exact hM i hi
  · rw [up_self, e1, e2]
    exact HRep_push (HRep_shift h3) fun i hi => by rw [pk_cpy_in (Nat.zero_le _) (by omega), show 0 + (i - 0) = i by omega]; exact h1 i hi
  · rw [up_ne (by decide), up_ne (by decide), up_ne (by decide)]; exact h4
  · rw [up_ne (by decide), up_ne (by decide), e3]; exact h5 z i hi
  · rw [up_ne (by decide), up_ne (by decide), up_ne (by decide)]; exact h6
  · rw [up_ne (by decide), up_ne (by decide), e4]; exact h7 i hi
  · rw [up_ne (by decide), up_ne (by decide), up_ne (by decide)]; exact h8
  · rw [up_ne (by decide), up_ne (by decide), up_ne (by decide)]; exact h9
  · rw [up_ne (by decide), up_ne (by decide), up_ne (by decide)]; exact h10
  · rw [up_ne (by decide), up_ne (by decide), e5]; exact h11 i hi
theorem MR_bad {I : Nat → Int32} {A A' : Nat → Nat → Int32} {s : SG} (h : MR I A s) (hR : ∀ j, j ≠ 0 → A' j = va_up A 1 (va_cpy (A 0) (A 1) 0 0 48) j) {d : Int32} :
    MR (va_up I 12 d) (va_up A' 0 (va_cpy (A' 1) (A' 0) 0 0 48)) s := by
  have e1 : A' 1 = va_cpy (A 0) (A 1) 0 0 48 := (hR 1 (by decide)).trans up_self
  have h0 : Mok (va_up A' 0 (va_cpy (A' 1) (A' 0) 0 0 48)) s.1 := fun i hi => by
    rw [up_self, pk_cpy_in (Nat.zero_le _) (by omega), e1, pk_cpy_in (Nat.zero_le _) (by omega), show 0 + (0 + (i - 0) - 0) = i by omega]
    exact h.1 i hi
  have hk := MR.keep (I' := va_up I 12 d) (A' := A) h (fun k h1 _ _ => up_ne h1) (fun _ _ _ _ => rfl)
  obtain ⟨_, ⟨h2, h3⟩, ⟨h4, h5⟩, ⟨h6, h7⟩, h8, h10, h11⟩ := hk
  have e2 : A' 2 = A 2 := (hR 2 (by decide)).trans (up_ne (by decide))
  have e3 : A' 3 = A 3 := (hR 3 (by decide)).trans (up_ne (by decide))
  have e4 : A' 4 = A 4 := (hR 4 (by decide)).trans (up_ne (by decide))
  have e5 : A' 5 = A 5 := (hR 5 (by decide)).trans (up_ne (by decide))
  exact ⟨h0, ⟨h2, by rw [up_ne (by decide), e2]; exact h3⟩, ⟨h4, fun z i hi => by rw [up_ne (by decide), e3]; exact h5 z i hi⟩, ⟨h6, fun i hi => by rw [up_ne (by decide), e4]; exact h7 i hi⟩, h8, h10, fun i hi => by rw [up_ne (by decide), e5]; exact h11 i hi⟩
/-- the end of every change: kept(..), and return -/
theorem m_fin {l : Launch} {G : GT} {M : MT} {f : HT} {o n n0 pc : Nat} {I : Nat → Int32} {A A' : Nat → Nat → Int32} {s : SG} {q : Nat × Nat × (Nat → Nat)} {L : List (Nat × Value)} (hl : Cond.methodLink M.1 69 yX11_kept ∈ Big) (hret : M.2.2.2.1 = some .int) (d1 : decode M.2.1 pc = .ok (.invokevirtual 69, 3)) (d2 : decode M.2.1 (pc + 3) = .ok (.ireturn, 1))
    (h : MR I A s) (hc : s.2.1.1 ≤ 8) (hM : Mok A' q.2.2) (hR : ∀ j, j ≠ 0 → A' j = va_up A 1 (va_cpy (A 0) (A 1) 0 0 48) j) (hz : q.1 ≠ 0 → q.2.1 = 0) (h4 : q.1 < 4) :
    AW l G M 3 180 0 0 (PP f o q s n) n0 0 0 pc L [.int (nI q.2.1), .ref o] (mU f o (va_up I 12 (nI q.1)) A') n := by
  have h3 : (va_up I 12 (nI q.1)) 3 = nI s.2.1.1 := (up_ne (by decide)).trans h.2.1.1
  by_cases hq : q.1 = 0
  · have h12 : (va_up I 12 (nI q.1)) 12 = nI 0 := by rw [up_self, hq]
    have hS : opS s q = (q.2.2, pushH s.2.1.1 s.2.1.2 s.1, s.2.2) := by unfold opS; rw [if_pos hq]
    rcases Nat.lt_or_ge s.2.1.1 8 with hc7 | hc8
    · refine aw_vI (as := [Value.int (nI q.2.1)]) (rest := []) mV_X11_kept (m_kept_lt h3 (by omega) h12) hl mU_0 rfl d1 rfl rfl (by decide) (Nat.le_of_ble_eq_true rfl) (by decide) ?_
      refine aw_iret hret (by decide) (by decide) d2 ⟨rfl, rfl, _, _, rfl, ?_, ?_⟩
      · rw [hS]; exact MR_ok h (by omega) hM hR
      · rw [up_ne (by decide)]; exact up_self
    · have e8 : s.2.1.1 = 8 := by omega
      refine aw_vI (as := [Value.int (nI q.2.1)]) (rest := []) mV_X11_kept (m_kept_8 (by rw [h3, e8]) h12) hl mU_0 rfl d1 rfl rfl (by decide) (Nat.le_of_ble_eq_true rfl) (by decide) ?_
      refine aw_iret hret (by decide) (by decide) d2 ⟨rfl, rfl, _, _, rfl, ?_, ?_⟩
      · rw [hS]; exact MR_ok8 h e8 hM hR
      · rw [up_ne (by decide), up_ne (by decide)]; exact up_self
  · have hS : opS s q = s := by unfold opS; rw [if_neg hq]
    refine aw_vI (as := [Value.int (nI q.2.1)]) (rest := []) mV_X11_kept (m_kept_f (d := q.1) up_self hq h4) hl mU_0 rfl d1 rfl rfl (by decide) (Nat.le_of_ble_eq_true rfl) (by decide) ?_
    refine aw_iret hret (by decide) (by decide) d2 ⟨by rw [hz hq], rfl, _, _, rfl, ?_, up_self⟩
    rw [hS]; exact MR_bad h hR
