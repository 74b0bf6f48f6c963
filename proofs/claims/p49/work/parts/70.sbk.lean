/-! the bounds are kept by every call: K grows by 30500 at most -/
theorem SB.mono {K K' : Nat} {s : SG} (h : SB K s) (h1 : K ≤ K') (h2 : K' < 16000000) : SB K' s :=
  ⟨h.1.mono h1 h2, h.2.1, fun j hj => (h.2.2.1 j hj).mono h1 h2, fun z => (h.2.2.2.1 z).mono h1 h2, h.2.2.2.2⟩
theorem SB.push {K : Nat} {s : SG} (h : SB K s) {V' : Nat → Nat} (hV : VB K V') : SB K (V', pushH s.2.1.1 s.2.1.2 s.1, s.2.2) := by
  obtain ⟨h1, h2, h3, h4⟩ := h
  refine ⟨hV, ?_, ?_, h4⟩
  · show (pushH _ _ _).1 ≤ 8
    unfold pushH; split
    · exact Nat.le_refl _
    · show s.2.1.1 + 1 ≤ 8; omega
  · intro j hj
    have hj : j < (pushH s.2.1.1 s.2.1.2 s.1).1 := hj
    show VB K ((pushH s.2.1.1 s.2.1.2 s.1).2 j)
    unfold pushH at hj ⊢
    split at hj
    · next z =>
      rw [if_pos z]
      have hj : j < 8 := hj
      show VB K (va_up (fun j => s.2.1.2 (j + 1)) 7 s.1 j)
      by_cases zj : j = 7
      · rw [zj, up_self]; exact h1
      · rw [up_ne zj]; exact h3 (j + 1) (by omega)
    · next z =>
      rw [if_neg z]
      have hj : j < s.2.1.1 + 1 := hj
      show VB K (va_up s.2.1.2 s.2.1.1 s.1 j)
      by_cases zj : j = s.2.1.1
      · rw [zj, up_self]; exact h1
      · rw [up_ne zj]; exact h3 j (by omega)
theorem SB.op {K K' : Nat} {s : SG} {q : Nat × Nat × (Nat → Nat)} (h : SB K s) (hV : VB K' q.2.2) (h1 : K ≤ K') : SB K' (opS s q) := by
  have h2 := h.mono h1 hV.kk
  unfold opS; split
  · exact h2.push hV
  · exact h2
theorem SB.und {K : Nat} {s : SG} (h : SB K s) : SB K (undS s) := by
  unfold undS; split
  · exact h
  · exact ⟨h.2.2.1 _ (by omega), by show s.2.1.1 - 1 ≤ 8; have := h.2.1; omega, fun j hj => h.2.2.1 j (by have hj : j < s.2.1.1 - 1 := hj; omega), h.2.2.2⟩
theorem SB.sav {K : Nat} {s : SG} (h : SB K s) : SB K (savS s) := ⟨h.1, h.2.1, h.2.2.1, fun _ => h.1, h.2.2.2.2⟩
theorem SB.res {K : Nat} {s : SG} (h : SB K s) : SB K (resS s) := by
  unfold resS; split
  · next z => exact ⟨h.2.2.2.1 z, Nat.zero_le _, fun j hj => absurd hj (Nat.not_lt_zero _), h.2.2.2⟩
  · exact h
theorem SB.typ {K : Nat} {s : SG} (h : SB K s) (v : Int32) : SB K (typS s v) := by
  unfold typS; split
  · next z =>
    have hin : inB v (nI 32) (nI 126) = true := Classical.byContradiction fun y => by
      unfold qType at z; rw [if_neg y] at z; cases z
    have h60 : s.2.2.2.1.1 ≠ 60 := fun y => by
      unfold qType at z; rw [if_pos hin, if_pos y] at z; cases z
    obtain ⟨c, hc1, hc2, rfl⟩ := inB_of (by decide) (by decide) hin
    rw [nIc (by omega)]
    refine ⟨h.1, h.2.1, h.2.2.1, h.2.2.2.1, ?_, fun i hi => ?_, h.2.2.2.2.2.2⟩
    · show s.2.2.2.1.1 + 1 ≤ 60; have := h.2.2.2.2.1; omega
    · have hi : i < s.2.2.2.1.1 + 1 := hi
      show 32 ≤ va_up s.2.2.2.1.2 s.2.2.2.1.1 c i ∧ va_up s.2.2.2.1.2 s.2.2.2.1.1 c i ≤ 126
      by_cases y : i = s.2.2.2.1.1
      · rw [y, up_self]; exact ⟨hc1, hc2⟩
      · rw [up_ne y]; exact h.2.2.2.2.2.1 i (by omega)
  · exact h
def smallL (L : List Nat) : Prop := ∀ c, c ∈ L → c < 128
theorem smallL.app {L M : List Nat} (h : smallL L) (g : smallL M) : smallL (L ++ M) := fun c hc => by
  rcases List.mem_append.mp hc with z | z
  · exact h c z
  · exact g c z
theorem small_dgs (v : Nat) : ∀ e, smallL (dgs v e) := fun e c hc => by
  obtain ⟨i, hi, rfl⟩ := List.getElem_of_mem hc
  rw [dgs_len] at hi
  have h9 := dgs_lt (v := v) e i hi
  rw [List.getD_eq_getElem?_getD, List.getElem?_eq_getElem (by rw [dgs_len]; exact hi)] at h9
  exact h9
theorem small_dec (v : Nat) : smallL (decN v) := small_dgs v _
theorem small_lit {L : List Nat} (h : L.all (fun c => decide (c < 128)) = true) : smallL L := fun c hc => of_decide_eq_true (List.all_eq_true.mp h c hc)
theorem small_at {L : List Nat} (h : smallL L) {i : Nat} (hi : i < L.length) : L.getD i 0 < 128 := by
  rw [List.getD_eq_getElem?_getD, List.getElem?_eq_getElem hi]
  exact h _ (List.getElem_mem hi)
theorem small_cardA (V : Nat → Nat) (k : Nat) : smallL (cardA V k) := by
  unfold cardA
  exact ((((((small_lit rfl).app (small_dec _)).app (small_lit rfl)).app (small_dec _)).app (small_lit rfl)).app (small_lit rfl)).app (small_lit rfl)
theorem small_card (V : Nat → Nat) (k : Nat) : smallL (cardL V k) := by
  have hB : smallL (cardB V k) := by
    unfold cardB; split
    · exact (small_cardA V k).app (small_lit rfl)
    · exact (((small_cardA V k).app (small_dec _)).app (small_lit rfl)).app (small_dec _)
  unfold cardL; split
  · exact hB.app (small_lit rfl)
  · exact hB
theorem card_len (V : Nat → Nat) (k : Nat) : (cardL V k).length ≤ 60 := by
  have d1 := dec_len k
  have d2 := dec_len (V (4 + k))
  have d3 := dec_len (V (12 + k))
  have d4 := dec_len (V (20 + k))
  unfold cardL cardB cardA
  (repeat' split) <;> (simp only [List.length_append, List.length_cons, List.length_nil]; omega)
theorem SB.card {K : Nat} {s : SG} (h : SB K s) (v : Int32) : SB K (cardS s (qCard s.1 v)) := by
  unfold cardS; split
  · next z =>
    have hk : isK v (s.1 2) = true := Classical.byContradiction fun y => by
      unfold qCard at z; rw [if_neg y] at z; cases z
    have hq : qCard s.1 v = (0, cardL s.1 v.toNatClampNeg) := if_pos hk
    rw [hq]
    exact ⟨h.1, h.2.1, h.2.2.1, h.2.2.2.1, h.2.2.2.2.1, h.2.2.2.2.2.1, card_len _ _, fun i hi => small_at (small_card _ _) hi⟩
  · exact h
theorem rd_len {tn : Nat} {tx : Nat → Nat} : ∀ m sp, (rdN tn tx m sp).1.length ≤ m := by
  intro m
  induction m with
  | zero => intro sp; exact Nat.le_refl _
  | succ m ih =>
    intro sp
    by_cases z : (cmdN tn tx sp).2.2 = false ∧ hN tn tx (cmdN tn tx sp).2.1 = 59
    · rw [rd_yes z]
      show (rdN tn tx m _).1.length + 1 ≤ m + 1
      exact Nat.succ_le_succ (ih _)
    · rw [rd_no z]
      show 1 ≤ m + 1; omega
theorem rn_VB : ∀ (cs : List (Nat × Nat × Nat)) (k K : Nat) {V : Nat → Nat}, VB K V → K + 500 * cs.length < 16000000 → VB (K + 500 * cs.length) (rnL cs k V).2.2 := by
  intro cs
  induction cs with
  | nil => intro k K V h _; exact h
  | cons c cs ih =>
    intro k K V h hK
    have hK : K + 500 * (cs.length + 1) < 16000000 := hK
    show VB (K + 500 * (cs.length + 1)) _
    by_cases z : (opC V c).1 = 0
    · rw [rn_yes z]
      have hv : VB (K + 500) (opC V c).2.2 := vq_C h (Nat.lt_of_le_of_lt (by omega) hK) c
      have h9 := ih (k + 1) (K + 500) hv (Nat.lt_of_le_of_lt (by omega) hK)
      rw [show K + 500 * (cs.length + 1) = K + 500 + 500 * cs.length by omega]
      exact h9
    · rw [rn_no z]; exact h.mono (by omega) hK
theorem SB.exe {K : Nat} {s : SG} (h : SB K s) (hK : K + 30500 < 16000000) : SB (K + 30500) (qExe s).2.2 := by
  have he : SB K (emS s) := ⟨h.1, h.2.1, h.2.2.1, h.2.2.2.1, Nat.zero_le _, fun i hi => absurd hi (Nat.not_lt_zero _), h.2.2.2.2.2.2⟩
  have he2 := he.mono (K' := K + 30500) (by omega) hK
  unfold qExe exT
  split
  · exact ⟨he2.1, he2.2.1, he2.2.2.1, he2.2.2.2.1, he2.2.2.2.2⟩
  · unfold exR
    split
    · have hl := rd_len (tn := s.2.2.2.1.1) (tx := s.2.2.2.1.2) 61 0
      have hv := rn_VB (rdN s.2.2.2.1.1 s.2.2.2.1.2 61 0).1 0 K h.1 (by omega)
      exact he.op (q := (0, _, _)) (hv.mono (by omega) hK) (by omega)
    · exact ⟨he2.1, he2.2.1, he2.2.2.1, he2.2.2.2.1, he2.2.2.2.2⟩
/-- one of the seven changes -/
theorem SB.chg {K : Nat} {s : SG} (h : SB K s) (hK : K + 30500 < 16000000) {q : Nat × Nat × (Nat → Nat)} (hq : VBq K q) : SB (K + 30500) (opS s q) :=
  (h.op hq (by omega)).mono (by omega) hK
theorem sg0_at {i : Nat} (h : i ≠ 1) : sg0.1 i = 0 := if_neg h
theorem SB_0 : SB 0 sg0 := by
  refine ⟨⟨Nat.le_refl _, by decide, by decide, by decide, by decide, fun k hk => ?_, fun k hk => ?_, fun k hk => ?_, fun k hk => ?_⟩, Nat.zero_le _, fun j hj => absurd hj (Nat.not_lt_zero _), fun z => Bool.noConfusion z, Nat.zero_le _, fun i hi => absurd hi (Nat.not_lt_zero _), Nat.zero_le _, fun i hi => absurd hi (Nat.not_lt_zero _)⟩
  · rw [sg0_at (by omega)]; exact ⟨Nat.zero_le _, fun h => absurd h (Nat.not_lt_zero _)⟩
  · have a := sg0_at (i := 12 + k) (by omega)
    have b := sg0_at (i := 20 + k) (by omega)
    have c := sg0_at (i := 28 + k) (by omega)
    exact ⟨by rw [a]; exact Nat.zero_le _, by rw [b]; exact Nat.zero_le _, by rw [c]; exact Nat.zero_le _, fun _ => ⟨a, b, c⟩⟩
  · rw [sg0_at (by omega), sg0_at (by omega)]; exact ⟨Nat.zero_le _, by decide⟩
  · rw [sg0_at (by omega)]; exact Nat.zero_le _
