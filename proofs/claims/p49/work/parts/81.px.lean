/-! the programs of the law, on a gym whose numbers are V, saved, nothing typed -/
def RD (T : List Nat) : List (Nat × Nat × Nat) × (Nat × Bool) := rdN T.length (fun i => T.getD i 0) 61 0
def XO (K : Nat) (s : SG) (V : Nat → Nat) : Prop := SB K s ∧ s.1 = V ∧ s.2.2.1 = (true, V) ∧ s.2.2.2.1.1 = 0
theorem XO.bad {K p : Nat} {s : SG} {V : Nat → Nat} {T : List Nat} (h : XO K s V) (hK : K + 30500 < 16000000) (hT : okT T) (hR : (RD T).2.1 = p ∧ ((RD T).2.2 = true ∨ p < T.length)) : ∃ s2 : SG, qExe (txS s T.length T) = (1, 0, s2) ∧ s2.2.2.2.2.1.1 = nI p ∧ s2.2.2.2.2.1.2 = s.2.2.2.2.1.2 ∧ XO (K + 30500) s2 V := by
  have e : qExe (txS s T.length T) = (1, 0, eA9 (emS (txS s T.length T)) (nI p)) := by
    show exT (txS s T.length T) (RD T) = _
    unfold exT
    rw [hR.1, if_pos (show (RD T).2.2 = true ∨ p < (txS s T.length T).2.2.2.1.1 from hR.2)]
  have hS := (h.1.tx hT (Nat.le_refl _)).exe hK
  rw [e] at hS
  exact ⟨_, e, rfl, rfl, hS, h.2.1, h.2.2.1, rfl⟩
theorem XO.stop {K k : Nat} {s : SG} {V W : Nat → Nat} {T : List Nat} {D : List (Nat × Nat × Nat)} (h : XO K s V) (hK : K + 30500 < 16000000) (hT : okT T) (hR : RD T = (D, (T.length, false))) (hn : rnL D 0 V = (2, k, W)) : ∃ s2 : SG, qExe (txS s T.length T) = (2, 0, s2) ∧ s2.2.2.2.2.1.2 = nI k ∧ XO (K + 30500) s2 V := by
  have e : qExe (txS s T.length T) = (2, 0, fA9 (emS (txS s T.length T)) (nI k)) := by
    show exT (txS s T.length T) (RD T) = _
    unfold exT
    rw [hR]
    rw [if_neg (show ¬ ((D, (T.length, false)).2.2 = true ∨ (D, (T.length, false)).2.1 < (txS s T.length T).2.2.2.1.1) from fun z => z.elim (fun z => Bool.noConfusion z) (fun z => Nat.lt_irrefl _ z))]
    show exR (emS (txS s T.length T)) (rnL D 0 s.1) = _
    rw [h.2.1, hn]
    rfl
  have hS := (h.1.tx hT (Nat.le_refl _)).exe hK
  rw [e] at hS
  exact ⟨_, e, rfl, hS, h.2.1, h.2.2.1, rfl⟩
theorem push_ne {c : Nat} {Hs : Nat → Nat → Nat} {B : Nat → Nat} : (pushH c Hs B).1 ≠ 0 := by
  unfold pushH
  split
  · exact (by decide : (8 : Nat) ≠ 0)
  · exact Nat.succ_ne_zero c
theorem push_top {c : Nat} {Hs : Nat → Nat → Nat} {B : Nat → Nat} : (pushH c Hs B).2 ((pushH c Hs B).1 - 1) = B := by
  unfold pushH
  split
  · exact up_self (f := fun j => Hs (j + 1)) (k := 7) (v := B)
  · exact up_self (f := Hs) (k := c) (v := B)
theorem push_cnt {c : Nat} {Hs : Nat → Nat → Nat} {B : Nat → Nat} (hc : c ≤ 8) : (pushH c Hs B).1 = min (c + 1) 8 := by
  unfold pushH
  split
  · next z => subst z; rfl
  · show c + 1 = _; omega
theorem push_nx {c i : Nat} {Hs : Nat → Nat → Nat} {B : Nat → Nat} (hc : c ≤ 8) (hi : i + 1 ≤ c) (h6 : i ≤ 6) : (pushH c Hs B).2 ((pushH c Hs B).1 - 1 - (i + 1)) = Hs (c - 1 - i) := by
  unfold pushH
  split
  · next z =>
    subst z
    show va_up (fun j => Hs (j + 1)) 7 B (8 - 1 - (i + 1)) = _
    rw [up_ne (by omega), show 8 - 1 - (i + 1) + 1 = 8 - 1 - i by omega]
  · show va_up Hs c B (c + 1 - 1 - (i + 1)) = _
    rw [up_ne (by omega), show c + 1 - 1 - (i + 1) = c - 1 - i by omega]
theorem undS_ne {s : SG} (h : s.2.1.1 ≠ 0) : undS s = (s.2.1.2 (s.2.1.1 - 1), (s.2.1.1 - 1, s.2.1.2), s.2.2) := if_neg h
theorem qUndo_ne {s : SG} (h : s.2.1.1 ≠ 0) : (qUndo s).1 = 0 := by unfold qUndo; rw [if_neg h]
theorem XO.run {K k : Nat} {s : SG} {V W : Nat → Nat} {T : List Nat} {D : List (Nat × Nat × Nat)} (h : XO K s V) (hK : K + 30500 < 16000000) (hT : okT T) (hR : RD T = (D, (T.length, false))) (hn : rnL D 0 V = (0, k, W)) : ∃ s2 : SG, qExe (txS s T.length T) = (0, k, s2) ∧ SB (K + 30500) s2 ∧ s2.1 = W ∧ (qUndo s2).1 = 0 ∧ XO (K + 30500) (undS s2) V := by
  have e : qExe (txS s T.length T) = (0, k, opS (emS (txS s T.length T)) (0, k, W)) := by
    show exT (txS s T.length T) (RD T) = _
    unfold exT
    rw [hR]
    rw [if_neg (show ¬ ((D, (T.length, false)).2.2 = true ∨ (D, (T.length, false)).2.1 < (txS s T.length T).2.2.2.1.1) from fun z => z.elim (fun z => Bool.noConfusion z) (fun z => Nat.lt_irrefl _ z))]
    show exR (emS (txS s T.length T)) (rnL D 0 s.1) = _
    rw [h.2.1, hn]
    rfl
  have hS := (h.1.tx hT (Nat.le_refl _)).exe hK
  rw [e] at hS
  have e2 : opS (emS (txS s T.length T)) (0, k, W) = (W, pushH s.2.1.1 s.2.1.2 s.1, (emS (txS s T.length T)).2.2) := if_pos rfl
  refine ⟨_, e, hS, by rw [e2], ?_, hS.und, ?_, ?_, ?_⟩
  · rw [e2]; exact qUndo_ne push_ne
  · rw [e2, undS_ne push_ne]; exact push_top.trans h.2.1
  · rw [e2, undS_ne push_ne]; exact h.2.2.1
  · rw [e2, undS_ne push_ne]; rfl
theorem und3 {s : SG} {q1 q2 q3 : Nat × Nat × (Nat → Nat)} (hc : s.2.1.1 ≤ 8) (h1 : q1.1 = 0) (h2 : q2.1 = 0) (h3 : q3.1 = 0) : (qUndo (opS (opS (opS s q1) q2) q3)).1 = 0 ∧ (qUndo (undS (opS (opS (opS s q1) q2) q3))).1 = 0 ∧ (qUndo (undS (undS (opS (opS (opS s q1) q2) q3)))).1 = 0 ∧ (undS (undS (undS (opS (opS (opS s q1) q2) q3)))).1 = s.1 := by
  obtain ⟨H1, e1⟩ : ∃ h, h = pushH s.2.1.1 s.2.1.2 s.1 := ⟨_, rfl⟩
  obtain ⟨H2, e2⟩ : ∃ h, h = pushH H1.1 H1.2 q1.2.2 := ⟨_, rfl⟩
  obtain ⟨H3, e3⟩ : ∃ h, h = pushH H2.1 H2.2 q2.2.2 := ⟨_, rfl⟩
  have s1 : opS s q1 = (q1.2.2, H1, s.2.2) := by rw [e1]; exact if_pos h1
  have s2 : opS (opS s q1) q2 = (q2.2.2, H2, s.2.2) := by rw [s1, e2]; exact if_pos h2
  have s3 : opS (opS (opS s q1) q2) q3 = (q3.2.2, H3, s.2.2) := by rw [s2, e3]; exact if_pos h3
  have c1 : H1.1 = min (s.2.1.1 + 1) 8 := by rw [e1]; exact push_cnt hc
  have c2 : H2.1 = min (H1.1 + 1) 8 := by rw [e2]; exact push_cnt (by omega)
  have c3 : H3.1 = min (H2.1 + 1) 8 := by rw [e3]; exact push_cnt (by omega)
  have u1 : undS (opS (opS (opS s q1) q2) q3) = (H3.2 (H3.1 - 1), (H3.1 - 1, H3.2), s.2.2) := by rw [s3]; exact undS_ne (show H3.1 ≠ 0 by omega)
  have u2 : undS (undS (opS (opS (opS s q1) q2) q3)) = (H3.2 (H3.1 - 1 - 1), (H3.1 - 1 - 1, H3.2), s.2.2) := by rw [u1]; exact undS_ne (show H3.1 - 1 ≠ 0 by omega)
  have u3 : undS (undS (undS (opS (opS (opS s q1) q2) q3))) = (H3.2 (H3.1 - 1 - 1 - 1), (H3.1 - 1 - 1 - 1, H3.2), s.2.2) := by rw [u2]; exact undS_ne (show H3.1 - 1 - 1 ≠ 0 by omega)
  refine ⟨by rw [s3]; exact qUndo_ne (show H3.1 ≠ 0 by omega), by rw [u1]; exact qUndo_ne (show H3.1 - 1 ≠ 0 by omega), by rw [u2]; exact qUndo_ne (show H3.1 - 1 - 1 ≠ 0 by omega), ?_⟩
  rw [u3]
  show H3.2 (H3.1 - 1 - 1 - 1) = s.1
  have t1 : H3.2 (H3.1 - 1 - (1 + 1)) = H2.2 (H2.1 - 1 - 1) := by rw [e3]; exact push_nx (by omega) (by omega) (by decide)
  have t2 : H2.2 (H2.1 - 1 - (0 + 1)) = H1.2 (H1.1 - 1 - 0) := by rw [e2]; exact push_nx (by omega) (by omega) (by decide)
  have t3 : H1.2 (H1.1 - 1) = s.1 := by rw [e1]; exact push_top
  rw [show H3.1 - 1 - 1 - 1 = H3.1 - 1 - (1 + 1) by omega, t1, show H2.1 - 1 - 1 = H2.1 - 1 - (0 + 1) by omega, t2, Nat.sub_zero, t3]
/-- what the first program makes of the numbers -/
def F9 (V : Nat → Nat) : Nat → Nat := (opPass (opPass (opFric V (nI 9)).2.2 (nI 40)).2.2 (nI 7)).2.2
theorem fric9 (V : Nat → Nat) : (opFric V (nI 9)).1 = 0 := by unfold opFric; rw [if_neg (by decide +kernel)]
theorem pass40 (V : Nat → Nat) : (opPass V (nI 40)).1 = 0 := by unfold opPass; rw [if_neg (by decide +kernel)]
theorem pass7 (V : Nat → Nat) : (opPass V (nI 7)).1 = 0 := by unfold opPass; rw [if_neg (by decide +kernel)]
theorem pass1 (V : Nat → Nat) : (opPass V (nI 1)).1 = 0 := by unfold opPass; rw [if_neg (by decide +kernel)]
theorem pass501 (V : Nat → Nat) : (opPass V (nI 501)).1 = 1 := by unfold opPass; rw [if_pos (by decide +kernel)]
theorem catch9 {V : Nat → Nat} (h : V 2 ≤ 8) : (opCatch V (nI 9)).1 = 1 := by
  unfold opCatch; rw [if_pos (by rw [isK_nI (by omega)]; exact decide_eq_false (by omega))]
theorem rd_144 : RD T144 = ([(102, 9, 0), (116, 40, 0), (116, 7, 0)], (25, false)) := by decide +kernel
theorem rd_156 : RD T156 = ([(116, 1, 0), (116, 501, 0)], (15, false)) := by decide +kernel
theorem rd_164 : RD T164 = ([(99, 9, 0)], (7, false)) := by decide +kernel
theorem rn_144 (V : Nat → Nat) : rnL [(102, 9, 0), (116, 40, 0), (116, 7, 0)] 0 V = (0, 3, F9 V) := by
  rw [rn_yes (c := (102, 9, 0)) (fric9 V), rn_yes (c := (116, 40, 0)) (pass40 _), rn_yes (c := (116, 7, 0)) (pass7 _)]
  rfl
theorem rn_156 (V : Nat → Nat) : ∃ W : Nat → Nat, rnL [(116, 1, 0), (116, 501, 0)] 0 V = (2, 1, W) := by
  refine ⟨(opPass V (nI 1)).2.2, ?_⟩
  rw [rn_yes (c := (116, 1, 0)) (pass1 V)]
  exact rn_no (c := (116, 501, 0)) (by show ¬ (opPass _ (nI 501)).1 = 0; rw [pass501]; decide)
theorem rn_164 {V : Nat → Nat} (h : V 2 ≤ 8) : rnL [(99, 9, 0)] 0 V = (2, 0, V) := rn_no (c := (99, 9, 0)) (by show ¬ (opCatch V (nI 9)).1 = 0; rw [catch9 h]; decide)
theorem ok_144 : okT T144 := ⟨by decide, by decide +kernel⟩
theorem ok_156 : okT T156 := ⟨by decide, by decide +kernel⟩
theorem ok_164 : okT T164 := ⟨by decide, by decide +kernel⟩
theorem ok_166 : okT T166 := ⟨by decide, by decide +kernel⟩
theorem ok_172 : okT T172 := ⟨by decide, by decide +kernel⟩
theorem ok_174 : okT T174 := ⟨by decide, by decide +kernel⟩
theorem ok_176 : okT T176 := ⟨by decide, by decide +kernel⟩
theorem ok_178 : okT T178 := ⟨by decide, by decide +kernel⟩
theorem ok_180 : okT T180 := ⟨by decide, by decide +kernel⟩
theorem ok_182 : okT T182 := ⟨by decide, by decide +kernel⟩
theorem ok_184 : okT T184 := ⟨by decide, by decide +kernel⟩
theorem ok_186 : okT T186 := ⟨by decide, by decide +kernel⟩
theorem ok_188 : okT T188 := ⟨by decide, by decide +kernel⟩
theorem rd_166 : (RD T166).2.1 = 1 ∧ ((RD T166).2.2 = true ∨ 1 < T166.length) := by decide +kernel
theorem rd_172 : (RD T172).2.1 = 6 ∧ ((RD T172).2.2 = true ∨ 6 < T172.length) := by decide +kernel
theorem rd_174 : (RD T174).2.1 = 8 ∧ ((RD T174).2.2 = true ∨ 8 < T174.length) := by decide +kernel
theorem rd_176 : (RD T176).2.1 = 0 ∧ ((RD T176).2.2 = true ∨ 0 < T176.length) := by decide +kernel
theorem rd_178 : (RD T178).2.1 = 6 ∧ ((RD T178).2.2 = true ∨ 6 < T178.length) := by decide +kernel
theorem rd_180 : (RD T180).2.1 = 1 ∧ ((RD T180).2.2 = true ∨ 1 < T180.length) := by decide +kernel
theorem rd_182 : (RD T182).2.1 = 3 ∧ ((RD T182).2.2 = true ∨ 3 < T182.length) := by decide +kernel
theorem rd_184 : (RD T184).2.1 = 5 ∧ ((RD T184).2.2 = true ∨ 5 < T184.length) := by decide +kernel
theorem rd_186 : (RD T186).2.1 = 9 ∧ ((RD T186).2.2 = true ∨ 9 < T186.length) := by decide +kernel
theorem rd_188 : (RD T188).2.1 = 0 ∧ ((RD T188).2.2 = true ∨ 0 < T188.length) := by decide +kernel
theorem XO.sav {K : Nat} {s : SG} (h : BO K s) : XO K (savS s) s.1 := ⟨h.1.sav, rfl, rfl, by
  have e := h.2
  show s.2.2.2.1.1 = 0
  rw [show s.2.2.2.1.1 = sg0.2.2.2.1.1 from congrArg (fun z => z.2.1.1) e]
  rfl⟩
theorem XO.res {K : Nat} {s : SG} {V : Nat → Nat} (h : XO K s V) : qRes s = (0, V 0) ∧ (resS s).1 = V ∧ SB K (resS s) := by
  have e1 : s.2.2.1.1 = true := by rw [h.2.2.1]
  have e2 : s.2.2.1.2 = V := by rw [h.2.2.1]
  refine ⟨?_, ?_, h.1.res⟩
  · unfold qRes; rw [if_pos e1, e2]
  · unfold resS; rw [if_pos e1]; exact e2
